theorem dX5_digest_0 : decode cX5_digest 0 = .ok (.ldc2_w 233, 3) := by decide +kernel
theorem dX5_digest_3 : decode cX5_digest 3 = .ok (.aload_n 0, 1) := by decide +kernel
theorem dX5_digest_4 : decode cX5_digest 4 = .ok (.getfield 39, 3) := by decide +kernel
theorem dX5_digest_7 : decode cX5_digest 7 = .ok (.getfield 207, 3) := by decide +kernel
theorem dX5_digest_10 : decode cX5_digest 10 = .ok (.i2l, 1) := by decide +kernel
theorem dX5_digest_11 : decode cX5_digest 11 = .ok (.ladd, 1) := by decide +kernel
theorem dX5_digest_12 : decode cX5_digest 12 = .ok (.lstore_n 1, 1) := by decide +kernel
theorem dX5_digest_13 : decode cX5_digest 13 = .ok (.iconst 0, 1) := by decide +kernel
theorem dX5_digest_14 : decode cX5_digest 14 = .ok (.istore_n 3, 1) := by decide +kernel
theorem dX5_digest_15 : decode cX5_digest 15 = .ok (.iload_n 3, 1) := by decide +kernel
theorem dX5_digest_16 : decode cX5_digest 16 = .ok (.bipush 10, 2) := by decide +kernel
theorem dX5_digest_18 : decode cX5_digest 18 = .ok (.if_icmp .ge 22, 3) := by decide +kernel
theorem dX5_digest_21 : decode cX5_digest 21 = .ok (.ldc2_w 235, 3) := by decide +kernel
theorem dX5_digest_24 : decode cX5_digest 24 = .ok (.lload_n 1, 1) := by decide +kernel
theorem dX5_digest_25 : decode cX5_digest 25 = .ok (.lmul, 1) := by decide +kernel
theorem dX5_digest_26 : decode cX5_digest 26 = .ok (.aload_n 0, 1) := by decide +kernel
theorem dX5_digest_27 : decode cX5_digest 27 = .ok (.iload_n 3, 1) := by decide +kernel
theorem dX5_digest_28 : decode cX5_digest 28 = .ok (.invokevirtual 237, 3) := by decide +kernel
theorem dX5_digest_31 : decode cX5_digest 31 = .ok (.i2l, 1) := by decide +kernel
theorem dX5_digest_32 : decode cX5_digest 32 = .ok (.ladd, 1) := by decide +kernel
theorem dX5_digest_33 : decode cX5_digest 33 = .ok (.lstore_n 1, 1) := by decide +kernel
theorem dX5_digest_34 : decode cX5_digest 34 = .ok (.iinc 3 1, 3) := by decide +kernel
theorem dX5_digest_37 : decode cX5_digest 37 = .ok (.goto (-22), 3) := by decide +kernel
theorem dX5_digest_40 : decode cX5_digest 40 = .ok (.iconst 0, 1) := by decide +kernel
theorem dX5_digest_41 : decode cX5_digest 41 = .ok (.istore_n 3, 1) := by decide +kernel
theorem dX5_digest_42 : decode cX5_digest 42 = .ok (.iload_n 3, 1) := by decide +kernel
theorem dX5_digest_43 : decode cX5_digest 43 = .ok (.iconst 3, 1) := by decide +kernel
theorem dX5_digest_44 : decode cX5_digest 44 = .ok (.if_icmp .ge 21, 3) := by decide +kernel
theorem dX5_digest_47 : decode cX5_digest 47 = .ok (.ldc2_w 235, 3) := by decide +kernel
theorem dX5_digest_50 : decode cX5_digest 50 = .ok (.lload_n 1, 1) := by decide +kernel
theorem dX5_digest_51 : decode cX5_digest 51 = .ok (.lmul, 1) := by decide +kernel
theorem dX5_digest_52 : decode cX5_digest 52 = .ok (.aload_n 0, 1) := by decide +kernel
theorem dX5_digest_53 : decode cX5_digest 53 = .ok (.iload_n 3, 1) := by decide +kernel
theorem dX5_digest_54 : decode cX5_digest 54 = .ok (.invokevirtual 240, 3) := by decide +kernel
theorem dX5_digest_57 : decode cX5_digest 57 = .ok (.ladd, 1) := by decide +kernel
theorem dX5_digest_58 : decode cX5_digest 58 = .ok (.lstore_n 1, 1) := by decide +kernel
theorem dX5_digest_59 : decode cX5_digest 59 = .ok (.iinc 3 1, 3) := by decide +kernel
theorem dX5_digest_62 : decode cX5_digest 62 = .ok (.goto (-20), 3) := by decide +kernel
theorem dX5_digest_65 : decode cX5_digest 65 = .ok (.iconst 0, 1) := by decide +kernel
theorem dX5_digest_66 : decode cX5_digest 66 = .ok (.istore_n 3, 1) := by decide +kernel
theorem dX5_digest_67 : decode cX5_digest 67 = .ok (.iload_n 3, 1) := by decide +kernel
theorem dX5_digest_68 : decode cX5_digest 68 = .ok (.aload_n 0, 1) := by decide +kernel
theorem dX5_digest_69 : decode cX5_digest 69 = .ok (.getfield 10, 3) := by decide +kernel
theorem dX5_digest_72 : decode cX5_digest 72 = .ok (.getfield 174, 3) := by decide +kernel
theorem dX5_digest_75 : decode cX5_digest 75 = .ok (.if_icmp .ge 40, 3) := by decide +kernel
theorem dX5_digest_78 : decode cX5_digest 78 = .ok (.iconst 0, 1) := by decide +kernel
theorem dX5_digest_79 : decode cX5_digest 79 = .ok (.istore 4, 2) := by decide +kernel
theorem dX5_digest_81 : decode cX5_digest 81 = .ok (.iload 4, 2) := by decide +kernel
theorem dX5_digest_83 : decode cX5_digest 83 = .ok (.bipush 9, 2) := by decide +kernel
theorem dX5_digest_85 : decode cX5_digest 85 = .ok (.if_icmp .ge 24, 3) := by decide +kernel
theorem dX5_digest_88 : decode cX5_digest 88 = .ok (.ldc2_w 235, 3) := by decide +kernel
theorem dX5_digest_91 : decode cX5_digest 91 = .ok (.lload_n 1, 1) := by decide +kernel
theorem dX5_digest_92 : decode cX5_digest 92 = .ok (.lmul, 1) := by decide +kernel
theorem dX5_digest_93 : decode cX5_digest 93 = .ok (.aload_n 0, 1) := by decide +kernel
theorem dX5_digest_94 : decode cX5_digest 94 = .ok (.iload_n 3, 1) := by decide +kernel
theorem dX5_digest_95 : decode cX5_digest 95 = .ok (.iload 4, 2) := by decide +kernel
theorem dX5_digest_97 : decode cX5_digest 97 = .ok (.invokevirtual 244, 3) := by decide +kernel
theorem dX5_digest_100 : decode cX5_digest 100 = .ok (.i2l, 1) := by decide +kernel
theorem dX5_digest_101 : decode cX5_digest 101 = .ok (.ladd, 1) := by decide +kernel
theorem dX5_digest_102 : decode cX5_digest 102 = .ok (.lstore_n 1, 1) := by decide +kernel
theorem dX5_digest_103 : decode cX5_digest 103 = .ok (.iinc 4 1, 3) := by decide +kernel
theorem dX5_digest_106 : decode cX5_digest 106 = .ok (.goto (-25), 3) := by decide +kernel
theorem dX5_digest_109 : decode cX5_digest 109 = .ok (.iinc 3 1, 3) := by decide +kernel
theorem dX5_digest_112 : decode cX5_digest 112 = .ok (.goto (-45), 3) := by decide +kernel
theorem dX5_digest_115 : decode cX5_digest 115 = .ok (.ldc2_w 235, 3) := by decide +kernel
theorem dX5_digest_118 : decode cX5_digest 118 = .ok (.lload_n 1, 1) := by decide +kernel
theorem dX5_digest_119 : decode cX5_digest 119 = .ok (.lmul, 1) := by decide +kernel
theorem dX5_digest_120 : decode cX5_digest 120 = .ok (.aload_n 0, 1) := by decide +kernel
theorem dX5_digest_121 : decode cX5_digest 121 = .ok (.getfield 32, 3) := by decide +kernel
theorem dX5_digest_124 : decode cX5_digest 124 = .ok (.getfield 230, 3) := by decide +kernel
theorem dX5_digest_127 : decode cX5_digest 127 = .ok (.i2l, 1) := by decide +kernel
theorem dX5_digest_128 : decode cX5_digest 128 = .ok (.ladd, 1) := by decide +kernel
theorem dX5_digest_129 : decode cX5_digest 129 = .ok (.lreturn, 1) := by decide +kernel
set_option maxRecDepth 20000 in
theorem ggX5_startTrial_X1_copyFrom : GoodIn wsX5_startTrial wsX1_copyFrom := goodIn_r _ [7, 8, 9, 10, 11, 12, 13, 14, 15, 16, 17, 25, 26, 27, 28, 29, 30, 31, 32, 33, 34] (by decide +kernel) (by decide +kernel)
set_option maxRecDepth 20000 in
theorem gX5_startTrial_X1_copyFrom : GoodIn wsX5_startTrial (wsV RX5 227 RX1 yX1_copyFrom wsX1_copyFrom) := goodIn_app (goodIn_of _ (by decide +kernel)) ggX5_startTrial_X1_copyFrom
theorem dX5_startTrial_0 : decode cX5_startTrial 0 = .ok (.aload_n 0, 1) := by decide +kernel
theorem dX5_startTrial_1 : decode cX5_startTrial 1 = .ok (.getfield 23, 3) := by decide +kernel
theorem dX5_startTrial_4 : decode cX5_startTrial 4 = .ok (.aload_n 0, 1) := by decide +kernel
theorem dX5_startTrial_5 : decode cX5_startTrial 5 = .ok (.getfield 10, 3) := by decide +kernel
theorem dX5_startTrial_8 : decode cX5_startTrial 8 = .ok (.invokevirtual 227, 3) := by decide +kernel
theorem dX5_startTrial_11 : decode cX5_startTrial 11 = .ok (.return_, 1) := by decide +kernel
set_option maxRecDepth 20000 in
theorem ggX5_keepTrial_X4_save : GoodIn wsX5_keepTrial wsX4_save := goodIn_r _ [9, 10, 11, 12, 13, 14, 15, 16, 17, 18, 19, 20, 21, 22, 23, 24, 25, 26, 27, 28, 29, 30, 31, 32, 33, 34, 35, 36, 37, 38, 39, 40, 41, 42, 43, 105, 106, 107, 108, 109, 110, 111, 112, 113, 114, 115, 116, 117] (by decide +kernel) (by decide +kernel)
set_option maxRecDepth 20000 in
theorem gX5_keepTrial_X4_save : GoodIn wsX5_keepTrial (wsV RX5 248 RX4 yX4_save wsX4_save) := goodIn_app (goodIn_of _ (by decide +kernel)) ggX5_keepTrial_X4_save
set_option maxRecDepth 20000 in
theorem ggX5_keepTrial_X1_copyFrom : GoodIn wsX5_keepTrial wsX1_copyFrom := goodIn_r _ [43, 29, 30, 31, 32, 33, 35, 36, 37, 38, 39, 108, 109, 110, 111, 112, 113, 114, 115, 116, 117] (by decide +kernel) (by decide +kernel)
set_option maxRecDepth 20000 in
theorem gX5_keepTrial_X1_copyFrom : GoodIn wsX5_keepTrial (wsV RX5 227 RX1 yX1_copyFrom wsX1_copyFrom) := goodIn_app (goodIn_of _ (by decide +kernel)) ggX5_keepTrial_X1_copyFrom
set_option maxRecDepth 20000 in
theorem ggX5_keepTrial_X0_find : GoodIn wsX5_keepTrial wsX0_find := goodIn_r _ [49, 50, 51, 52, 53, 54, 55, 56, 48, 57, 58, 59, 60, 61, 62, 63, 64, 65, 66, 67, 68, 69, 70, 71, 72, 73, 74, 75, 76, 77, 78, 79, 80, 81, 82, 83, 84, 85, 86, 87, 88, 89, 90, 91, 92, 93, 94, 95, 96, 97, 118, 119, 120, 121, 122, 123, 124, 125, 126, 108, 109, 110, 111, 112, 113, 114, 115, 116, 117] (by decide +kernel) (by decide +kernel)
set_option maxRecDepth 20000 in
theorem gX5_keepTrial_X0_find : GoodIn wsX5_keepTrial (wsV RX5 52 RX0 yX0_find wsX0_find) := goodIn_app (goodIn_of _ (by decide +kernel)) ggX5_keepTrial_X0_find
theorem dX5_keepTrial_0 : decode cX5_keepTrial 0 = .ok (.aload_n 0, 1) := by decide +kernel
theorem dX5_keepTrial_1 : decode cX5_keepTrial 1 = .ok (.getfield 32, 3) := by decide +kernel
theorem dX5_keepTrial_4 : decode cX5_keepTrial 4 = .ok (.aload_n 0, 1) := by decide +kernel
theorem dX5_keepTrial_5 : decode cX5_keepTrial 5 = .ok (.getfield 10, 3) := by decide +kernel
theorem dX5_keepTrial_8 : decode cX5_keepTrial 8 = .ok (.invokevirtual 248, 3) := by decide +kernel
theorem dX5_keepTrial_11 : decode cX5_keepTrial 11 = .ok (.aload_n 0, 1) := by decide +kernel
theorem dX5_keepTrial_12 : decode cX5_keepTrial 12 = .ok (.getfield 10, 3) := by decide +kernel
theorem dX5_keepTrial_15 : decode cX5_keepTrial 15 = .ok (.aload_n 0, 1) := by decide +kernel
theorem dX5_keepTrial_16 : decode cX5_keepTrial 16 = .ok (.getfield 23, 3) := by decide +kernel
theorem dX5_keepTrial_19 : decode cX5_keepTrial 19 = .ok (.invokevirtual 227, 3) := by decide +kernel
theorem dX5_keepTrial_22 : decode cX5_keepTrial 22 = .ok (.aload_n 0, 1) := by decide +kernel
theorem dX5_keepTrial_23 : decode cX5_keepTrial 23 = .ok (.getfield 19, 3) := by decide +kernel
theorem dX5_keepTrial_26 : decode cX5_keepTrial 26 = .ok (.aload_n 0, 1) := by decide +kernel
theorem dX5_keepTrial_27 : decode cX5_keepTrial 27 = .ok (.getfield 10, 3) := by decide +kernel
theorem dX5_keepTrial_30 : decode cX5_keepTrial 30 = .ok (.invokevirtual 52, 3) := by decide +kernel
theorem dX5_keepTrial_33 : decode cX5_keepTrial 33 = .ok (.return_, 1) := by decide +kernel
set_option maxRecDepth 20000 in
theorem ggX5_canPull_X5_isMember : GoodIn wsX5_canPull wsX5_isMember := goodIn_r _ [8] (by decide +kernel) (by decide +kernel)
set_option maxRecDepth 20000 in
theorem gX5_canPull_X5_isMember : GoodIn wsX5_canPull (va_wsS RX5 125 yX5_isMember wsX5_isMember) := goodIn_app (goodIn_of _ (by decide +kernel)) ggX5_canPull_X5_isMember
set_option maxRecDepth 20000 in
theorem ggX5_canPull_X5_startTrial : GoodIn wsX5_canPull wsX5_startTrial := goodIn_r _ [12, 3, 1, 13, 14, 15, 16, 17, 18, 19, 20, 21, 22, 23, 24, 25, 26, 27, 86, 87, 88, 89, 90, 91, 92, 93, 94, 95, 96, 97, 98, 99, 100, 101, 102] (by decide +kernel) (by decide +kernel)
set_option maxRecDepth 20000 in
theorem gX5_canPull_X5_startTrial : GoodIn wsX5_canPull (wsV RX5 68 RX5 yX5_startTrial wsX5_startTrial) := goodIn_app (goodIn_of _ (by decide +kernel)) ggX5_canPull_X5_startTrial
set_option maxRecDepth 20000 in
theorem ggX5_canPull_X1_pullOut : GoodIn wsX5_canPull wsX1_pullOut := goodIn_r _ [31, 21, 93, 94, 95, 96, 97, 98, 99, 100, 101, 102] (by decide +kernel) (by decide +kernel)
set_option maxRecDepth 20000 in
theorem gX5_canPull_X1_pullOut : GoodIn wsX5_canPull (wsV RX5 193 RX1 yX1_pullOut wsX1_pullOut) := goodIn_app (goodIn_of _ (by decide +kernel)) ggX5_canPull_X1_pullOut
set_option maxRecDepth 20000 in
theorem ggX5_canPull_X0_find : GoodIn wsX5_canPull wsX0_find := goodIn_r _ [36, 37, 38, 39, 40, 41, 42, 43, 35, 44, 45, 46, 47, 48, 49, 50, 51, 52, 53, 54, 55, 56, 57, 58, 6, 7, 8, 59, 60, 61, 62, 63, 64, 65, 66, 67, 68, 69, 70, 71, 72, 73, 74, 75, 76, 77, 78, 79, 80, 81, 103, 104, 105, 106, 107, 108, 109, 110, 111, 93, 94, 95, 96, 97, 98, 99, 100, 101, 102] (by decide +kernel) (by decide +kernel)
set_option maxRecDepth 20000 in
theorem gX5_canPull_X0_find : GoodIn wsX5_canPull (wsV RX5 52 RX0 yX0_find wsX0_find) := goodIn_app (goodIn_of _ (by decide +kernel)) ggX5_canPull_X0_find
set_option maxRecDepth 20000 in
theorem ggX5_canPull_X0_isSafe : GoodIn wsX5_canPull wsX0_isSafe := goodIn_r _ [85, 37, 39, 103, 104, 105, 106, 107, 108, 109, 110, 111] (by decide +kernel) (by decide +kernel)
set_option maxRecDepth 20000 in
theorem gX5_canPull_X0_isSafe : GoodIn wsX5_canPull (wsV RX5 196 RX0 yX0_isSafe wsX0_isSafe) := goodIn_app (goodIn_of _ (by decide +kernel)) ggX5_canPull_X0_isSafe
theorem dX5_canPull_0 : decode cX5_canPull 0 = .ok (.aload_n 0, 1) := by decide +kernel
theorem dX5_canPull_1 : decode cX5_canPull 1 = .ok (.getfield 10, 3) := by decide +kernel
theorem dX5_canPull_4 : decode cX5_canPull 4 = .ok (.getfield 122, 3) := by decide +kernel
theorem dX5_canPull_7 : decode cX5_canPull 7 = .ok (.iload_n 1, 1) := by decide +kernel
theorem dX5_canPull_8 : decode cX5_canPull 8 = .ok (.invokestatic 125, 3) := by decide +kernel
theorem dX5_canPull_11 : decode cX5_canPull 11 = .ok (.ifCond .ne 5, 3) := by decide +kernel
theorem dX5_canPull_14 : decode cX5_canPull 14 = .ok (.iconst 0, 1) := by decide +kernel
theorem dX5_canPull_15 : decode cX5_canPull 15 = .ok (.ireturn, 1) := by decide +kernel
theorem dX5_canPull_16 : decode cX5_canPull 16 = .ok (.aload_n 0, 1) := by decide +kernel
theorem dX5_canPull_17 : decode cX5_canPull 17 = .ok (.invokevirtual 68, 3) := by decide +kernel
theorem dX5_canPull_20 : decode cX5_canPull 20 = .ok (.aload_n 0, 1) := by decide +kernel
theorem dX5_canPull_21 : decode cX5_canPull 21 = .ok (.getfield 23, 3) := by decide +kernel
theorem dX5_canPull_24 : decode cX5_canPull 24 = .ok (.iload_n 1, 1) := by decide +kernel
theorem dX5_canPull_25 : decode cX5_canPull 25 = .ok (.invokevirtual 193, 3) := by decide +kernel
theorem dX5_canPull_28 : decode cX5_canPull 28 = .ok (.aload_n 0, 1) := by decide +kernel
theorem dX5_canPull_29 : decode cX5_canPull 29 = .ok (.getfield 26, 3) := by decide +kernel
theorem dX5_canPull_32 : decode cX5_canPull 32 = .ok (.aload_n 0, 1) := by decide +kernel
theorem dX5_canPull_33 : decode cX5_canPull 33 = .ok (.getfield 23, 3) := by decide +kernel
theorem dX5_canPull_36 : decode cX5_canPull 36 = .ok (.invokevirtual 52, 3) := by decide +kernel
theorem dX5_canPull_39 : decode cX5_canPull 39 = .ok (.aload_n 0, 1) := by decide +kernel
theorem dX5_canPull_40 : decode cX5_canPull 40 = .ok (.getfield 26, 3) := by decide +kernel
theorem dX5_canPull_43 : decode cX5_canPull 43 = .ok (.invokevirtual 196, 3) := by decide +kernel
theorem dX5_canPull_46 : decode cX5_canPull 46 = .ok (.ireturn, 1) := by decide +kernel
set_option maxRecDepth 20000 in
theorem ggX5_tryCascade_X5_startTrial : GoodIn wsX5_tryCascade wsX5_startTrial := goodIn_r _ [8, 2, 9, 10, 11, 12, 13, 14, 15, 16, 17, 18, 19, 20, 21, 22, 23, 24, 81, 82, 83, 84, 85, 86, 87, 97, 98, 99, 100, 101, 102, 103, 104, 105, 106] (by decide +kernel) (by decide +kernel)
set_option maxRecDepth 20000 in
theorem gX5_tryCascade_X5_startTrial : GoodIn wsX5_tryCascade (wsV RX5 68 RX5 yX5_startTrial wsX5_startTrial) := goodIn_app (goodIn_of _ (by decide +kernel)) ggX5_tryCascade_X5_startTrial
set_option maxRecDepth 20000 in
theorem ggX5_tryCascade_X0_find : GoodIn wsX5_tryCascade wsX0_find := goodIn_r _ [29, 30, 31, 32, 33, 34, 35, 36, 28, 37, 38, 39, 40, 41, 42, 43, 44, 45, 46, 47, 48, 49, 50, 51, 52, 7, 53, 54, 55, 56, 57, 58, 59, 60, 61, 62, 63, 64, 65, 66, 67, 68, 69, 70, 71, 72, 73, 74, 75, 76, 88, 89, 90, 91, 92, 93, 94, 95, 96, 97, 98, 99, 100, 101, 102, 103, 104, 105, 106] (by decide +kernel) (by decide +kernel)
set_option maxRecDepth 20000 in
theorem gX5_tryCascade_X0_find : GoodIn wsX5_tryCascade (wsV RX5 52 RX0 yX0_find wsX0_find) := goodIn_app (goodIn_of _ (by decide +kernel)) ggX5_tryCascade_X0_find
set_option maxRecDepth 20000 in
theorem ggX5_tryCascade_X1_crush : GoodIn wsX5_tryCascade wsX1_crush := goodIn_r _ [80, 18, 19, 97, 98, 99, 100, 101, 102, 103, 104, 105, 106] (by decide +kernel) (by decide +kernel)
set_option maxRecDepth 20000 in
theorem gX5_tryCascade_X1_crush : GoodIn wsX5_tryCascade (wsV RX5 251 RX1 yX1_crush wsX1_crush) := goodIn_app (goodIn_of _ (by decide +kernel)) ggX5_tryCascade_X1_crush
theorem dX5_tryCascade_0 : decode cX5_tryCascade 0 = .ok (.aload_n 0, 1) := by decide +kernel
theorem dX5_tryCascade_1 : decode cX5_tryCascade 1 = .ok (.invokevirtual 68, 3) := by decide +kernel
theorem dX5_tryCascade_4 : decode cX5_tryCascade 4 = .ok (.aload_n 0, 1) := by decide +kernel
theorem dX5_tryCascade_5 : decode cX5_tryCascade 5 = .ok (.getfield 26, 3) := by decide +kernel
theorem dX5_tryCascade_8 : decode cX5_tryCascade 8 = .ok (.aload_n 0, 1) := by decide +kernel
theorem dX5_tryCascade_9 : decode cX5_tryCascade 9 = .ok (.getfield 23, 3) := by decide +kernel
theorem dX5_tryCascade_12 : decode cX5_tryCascade 12 = .ok (.invokevirtual 52, 3) := by decide +kernel
theorem dX5_tryCascade_15 : decode cX5_tryCascade 15 = .ok (.iconst 0, 1) := by decide +kernel
theorem dX5_tryCascade_16 : decode cX5_tryCascade 16 = .ok (.istore_n 1, 1) := by decide +kernel
theorem dX5_tryCascade_17 : decode cX5_tryCascade 17 = .ok (.iload_n 1, 1) := by decide +kernel
theorem dX5_tryCascade_18 : decode cX5_tryCascade 18 = .ok (.bipush 16, 2) := by decide +kernel
theorem dX5_tryCascade_20 : decode cX5_tryCascade 20 = .ok (.if_icmp .ge 44, 3) := by decide +kernel
theorem dX5_tryCascade_23 : decode cX5_tryCascade 23 = .ok (.aload_n 0, 1) := by decide +kernel
theorem dX5_tryCascade_24 : decode cX5_tryCascade 24 = .ok (.getfield 26, 3) := by decide +kernel
theorem dX5_tryCascade_27 : decode cX5_tryCascade 27 = .ok (.getfield 166, 3) := by decide +kernel
theorem dX5_tryCascade_30 : decode cX5_tryCascade 30 = .ok (.ifCond .eq 34, 3) := by decide +kernel
theorem dX5_tryCascade_33 : decode cX5_tryCascade 33 = .ok (.aload_n 0, 1) := by decide +kernel
theorem dX5_tryCascade_34 : decode cX5_tryCascade 34 = .ok (.getfield 23, 3) := by decide +kernel
theorem dX5_tryCascade_37 : decode cX5_tryCascade 37 = .ok (.aload_n 0, 1) := by decide +kernel
theorem dX5_tryCascade_38 : decode cX5_tryCascade 38 = .ok (.getfield 26, 3) := by decide +kernel
theorem dX5_tryCascade_41 : decode cX5_tryCascade 41 = .ok (.getfield 166, 3) := by decide +kernel
theorem dX5_tryCascade_44 : decode cX5_tryCascade 44 = .ok (.invokevirtual 251, 3) := by decide +kernel
theorem dX5_tryCascade_47 : decode cX5_tryCascade 47 = .ok (.aload_n 0, 1) := by decide +kernel
theorem dX5_tryCascade_48 : decode cX5_tryCascade 48 = .ok (.getfield 26, 3) := by decide +kernel
theorem dX5_tryCascade_51 : decode cX5_tryCascade 51 = .ok (.aload_n 0, 1) := by decide +kernel
theorem dX5_tryCascade_52 : decode cX5_tryCascade 52 = .ok (.getfield 23, 3) := by decide +kernel
theorem dX5_tryCascade_55 : decode cX5_tryCascade 55 = .ok (.invokevirtual 52, 3) := by decide +kernel
theorem dX5_tryCascade_58 : decode cX5_tryCascade 58 = .ok (.iinc 1 1, 3) := by decide +kernel
theorem dX5_tryCascade_61 : decode cX5_tryCascade 61 = .ok (.goto (-44), 3) := by decide +kernel
theorem dX5_tryCascade_64 : decode cX5_tryCascade 64 = .ok (.iload_n 1, 1) := by decide +kernel
theorem dX5_tryCascade_65 : decode cX5_tryCascade 65 = .ok (.ireturn, 1) := by decide +kernel
set_option maxRecDepth 20000 in
theorem ggX5_tryShaving_X5_startTrial : GoodIn wsX5_tryShaving wsX5_startTrial := goodIn_r _ [7, 2, 8, 9, 10, 11, 12, 13, 14, 15, 16, 17, 18, 19, 20, 21, 22, 23, 88, 89, 90, 91, 92, 93, 94, 95, 96, 97, 98, 99, 100, 101, 102, 103, 104] (by decide +kernel) (by decide +kernel)
set_option maxRecDepth 20000 in
theorem gX5_tryShaving_X5_startTrial : GoodIn wsX5_tryShaving (wsV RX5 68 RX5 yX5_startTrial wsX5_startTrial) := goodIn_app (goodIn_of _ (by decide +kernel)) ggX5_tryShaving_X5_startTrial
set_option maxRecDepth 20000 in
theorem ggX5_tryShaving_X0_find : GoodIn wsX5_tryShaving wsX0_find := goodIn_r _ [28, 29, 30, 31, 32, 33, 34, 35, 27, 36, 37, 38, 39, 40, 41, 42, 43, 44, 45, 46, 47, 48, 49, 50, 51, 6, 52, 53, 54, 55, 56, 57, 58, 59, 60, 61, 62, 63, 64, 65, 66, 67, 68, 69, 70, 71, 72, 73, 74, 75, 105, 106, 107, 108, 109, 110, 111, 112, 113, 95, 96, 97, 98, 99, 100, 101, 102, 103, 104] (by decide +kernel) (by decide +kernel)
set_option maxRecDepth 20000 in
theorem gX5_tryShaving_X0_find : GoodIn wsX5_tryShaving (wsV RX5 52 RX0 yX0_find wsX0_find) := goodIn_app (goodIn_of _ (by decide +kernel)) ggX5_tryShaving_X0_find
set_option maxRecDepth 20000 in
theorem ggX5_tryShaving_X0_mostOverloaded : GoodIn wsX5_tryShaving wsX0_mostOverloaded := goodIn_r _ [79, 32, 75, 31, 51, 6, 52, 105, 106, 107, 108, 109, 110, 111, 112, 113, 95, 96, 97, 98, 99, 100, 101, 102, 103, 104] (by decide +kernel) (by decide +kernel)
set_option maxRecDepth 20000 in
theorem gX5_tryShaving_X0_mostOverloaded : GoodIn wsX5_tryShaving (wsV RX5 254 RX0 yX0_mostOverloaded wsX0_mostOverloaded) := goodIn_app (goodIn_of _ (by decide +kernel)) ggX5_tryShaving_X0_mostOverloaded
set_option maxRecDepth 20000 in
theorem ggX5_tryShaving_X1_lowerCap : GoodIn wsX5_tryShaving wsX1_lowerCap := goodIn_r _ [83, 21, 23, 84, 85, 86, 12, 87, 16, 95, 96, 97, 98, 99, 100, 101, 102, 103, 104] (by decide +kernel) (by decide +kernel)
set_option maxRecDepth 20000 in
theorem gX5_tryShaving_X1_lowerCap : GoodIn wsX5_tryShaving (wsV RX5 257 RX1 yX1_lowerCap wsX1_lowerCap) := goodIn_app (goodIn_of _ (by decide +kernel)) ggX5_tryShaving_X1_lowerCap
theorem dX5_tryShaving_0 : decode cX5_tryShaving 0 = .ok (.aload_n 0, 1) := by decide +kernel
theorem dX5_tryShaving_1 : decode cX5_tryShaving 1 = .ok (.invokevirtual 68, 3) := by decide +kernel
theorem dX5_tryShaving_4 : decode cX5_tryShaving 4 = .ok (.aload_n 0, 1) := by decide +kernel
theorem dX5_tryShaving_5 : decode cX5_tryShaving 5 = .ok (.getfield 26, 3) := by decide +kernel
theorem dX5_tryShaving_8 : decode cX5_tryShaving 8 = .ok (.aload_n 0, 1) := by decide +kernel
theorem dX5_tryShaving_9 : decode cX5_tryShaving 9 = .ok (.getfield 23, 3) := by decide +kernel
theorem dX5_tryShaving_12 : decode cX5_tryShaving 12 = .ok (.invokevirtual 52, 3) := by decide +kernel
theorem dX5_tryShaving_15 : decode cX5_tryShaving 15 = .ok (.iconst 0, 1) := by decide +kernel
theorem dX5_tryShaving_16 : decode cX5_tryShaving 16 = .ok (.istore_n 1, 1) := by decide +kernel
theorem dX5_tryShaving_17 : decode cX5_tryShaving 17 = .ok (.iload_n 1, 1) := by decide +kernel
theorem dX5_tryShaving_18 : decode cX5_tryShaving 18 = .ok (.bipush 100, 2) := by decide +kernel
theorem dX5_tryShaving_20 : decode cX5_tryShaving 20 = .ok (.if_icmp .ge 41, 3) := by decide +kernel
theorem dX5_tryShaving_23 : decode cX5_tryShaving 23 = .ok (.aload_n 0, 1) := by decide +kernel
theorem dX5_tryShaving_24 : decode cX5_tryShaving 24 = .ok (.getfield 23, 3) := by decide +kernel
theorem dX5_tryShaving_27 : decode cX5_tryShaving 27 = .ok (.aload_n 0, 1) := by decide +kernel
theorem dX5_tryShaving_28 : decode cX5_tryShaving 28 = .ok (.getfield 26, 3) := by decide +kernel
theorem dX5_tryShaving_31 : decode cX5_tryShaving 31 = .ok (.aload_n 0, 1) := by decide +kernel
theorem dX5_tryShaving_32 : decode cX5_tryShaving 32 = .ok (.getfield 23, 3) := by decide +kernel
theorem dX5_tryShaving_35 : decode cX5_tryShaving 35 = .ok (.invokevirtual 254, 3) := by decide +kernel
theorem dX5_tryShaving_38 : decode cX5_tryShaving 38 = .ok (.invokevirtual 257, 3) := by decide +kernel
theorem dX5_tryShaving_41 : decode cX5_tryShaving 41 = .ok (.ifCond .eq 20, 3) := by decide +kernel
theorem dX5_tryShaving_44 : decode cX5_tryShaving 44 = .ok (.aload_n 0, 1) := by decide +kernel
theorem dX5_tryShaving_45 : decode cX5_tryShaving 45 = .ok (.getfield 26, 3) := by decide +kernel
theorem dX5_tryShaving_48 : decode cX5_tryShaving 48 = .ok (.aload_n 0, 1) := by decide +kernel
theorem dX5_tryShaving_49 : decode cX5_tryShaving 49 = .ok (.getfield 23, 3) := by decide +kernel
theorem dX5_tryShaving_52 : decode cX5_tryShaving 52 = .ok (.invokevirtual 52, 3) := by decide +kernel
theorem dX5_tryShaving_55 : decode cX5_tryShaving 55 = .ok (.iinc 1 1, 3) := by decide +kernel
theorem dX5_tryShaving_58 : decode cX5_tryShaving 58 = .ok (.goto (-41), 3) := by decide +kernel
theorem dX5_tryShaving_61 : decode cX5_tryShaving 61 = .ok (.iload_n 1, 1) := by decide +kernel
theorem dX5_tryShaving_62 : decode cX5_tryShaving 62 = .ok (.ireturn, 1) := by decide +kernel
theorem dX5_isIn_0 : decode cX5_isIn 0 = .ok (.iload_n 0, 1) := by decide +kernel
theorem dX5_isIn_1 : decode cX5_isIn 1 = .ok (.iload_n 1, 1) := by decide +kernel
theorem dX5_isIn_2 : decode cX5_isIn 2 = .ok (.if_icmp .lt 12, 3) := by decide +kernel
theorem dX5_isIn_5 : decode cX5_isIn 5 = .ok (.iload_n 0, 1) := by decide +kernel
theorem dX5_isIn_6 : decode cX5_isIn 6 = .ok (.iload_n 2, 1) := by decide +kernel
theorem dX5_isIn_7 : decode cX5_isIn 7 = .ok (.if_icmp .gt 7, 3) := by decide +kernel
theorem dX5_isIn_10 : decode cX5_isIn 10 = .ok (.iconst 1, 1) := by decide +kernel
theorem dX5_isIn_11 : decode cX5_isIn 11 = .ok (.goto 4, 3) := by decide +kernel
theorem dX5_isIn_14 : decode cX5_isIn 14 = .ok (.iconst 0, 1) := by decide +kernel
theorem dX5_isIn_15 : decode cX5_isIn 15 = .ok (.ireturn, 1) := by decide +kernel
theorem dX5_isMember_0 : decode cX5_isMember 0 = .ok (.iload_n 0, 1) := by decide +kernel
theorem dX5_isMember_1 : decode cX5_isMember 1 = .ok (.iload_n 1, 1) := by decide +kernel
theorem dX5_isMember_2 : decode cX5_isMember 2 = .ok (.iushr, 1) := by decide +kernel
theorem dX5_isMember_3 : decode cX5_isMember 3 = .ok (.iconst 1, 1) := by decide +kernel
theorem dX5_isMember_4 : decode cX5_isMember 4 = .ok (.iand, 1) := by decide +kernel
theorem dX5_isMember_5 : decode cX5_isMember 5 = .ok (.ifCond .eq 7, 3) := by decide +kernel
theorem dX5_isMember_8 : decode cX5_isMember 8 = .ok (.iconst 1, 1) := by decide +kernel
theorem dX5_isMember_9 : decode cX5_isMember 9 = .ok (.goto 4, 3) := by decide +kernel
theorem dX5_isMember_12 : decode cX5_isMember 12 = .ok (.iconst 0, 1) := by decide +kernel
theorem dX5_isMember_13 : decode cX5_isMember 13 = .ok (.ireturn, 1) := by decide +kernel
theorem dX6_init_0 : decode cX6_init 0 = .ok (.aload_n 0, 1) := by decide +kernel
theorem dX6_init_1 : decode cX6_init 1 = .ok (.invokespecial 1, 3) := by decide +kernel
theorem dX6_init_4 : decode cX6_init 4 = .ok (.aload_n 0, 1) := by decide +kernel
theorem dX6_init_5 : decode cX6_init 5 = .ok (.bipush 99, 2) := by decide +kernel
theorem dX6_init_7 : decode cX6_init 7 = .ok (.newarray .int, 2) := by decide +kernel
theorem dX6_init_9 : decode cX6_init 9 = .ok (.putfield 7, 3) := by decide +kernel
theorem dX6_init_12 : decode cX6_init 12 = .ok (.aload_n 0, 1) := by decide +kernel
theorem dX6_init_13 : decode cX6_init 13 = .ok (.bipush 99, 2) := by decide +kernel
theorem dX6_init_15 : decode cX6_init 15 = .ok (.newarray .int, 2) := by decide +kernel
theorem dX6_init_17 : decode cX6_init 17 = .ok (.putfield 13, 3) := by decide +kernel
theorem dX6_init_20 : decode cX6_init 20 = .ok (.aload_n 0, 1) := by decide +kernel
theorem dX6_init_21 : decode cX6_init 21 = .ok (.sipush 396, 3) := by decide +kernel
theorem dX6_init_24 : decode cX6_init 24 = .ok (.newarray .int, 2) := by decide +kernel
theorem dX6_init_26 : decode cX6_init 26 = .ok (.putfield 16, 3) := by decide +kernel
theorem dX6_init_29 : decode cX6_init 29 = .ok (.aload_n 0, 1) := by decide +kernel
theorem dX6_init_30 : decode cX6_init 30 = .ok (.sipush 160, 3) := by decide +kernel
theorem dX6_init_33 : decode cX6_init 33 = .ok (.newarray .int, 2) := by decide +kernel
theorem dX6_init_35 : decode cX6_init 35 = .ok (.putfield 19, 3) := by decide +kernel
theorem dX6_init_38 : decode cX6_init 38 = .ok (.aload_n 0, 1) := by decide +kernel
theorem dX6_init_39 : decode cX6_init 39 = .ok (.bipush 16, 2) := by decide +kernel
theorem dX6_init_41 : decode cX6_init 41 = .ok (.newarray .int, 2) := by decide +kernel
theorem dX6_init_43 : decode cX6_init 43 = .ok (.putfield 22, 3) := by decide +kernel
theorem dX6_init_46 : decode cX6_init 46 = .ok (.aload_n 0, 1) := by decide +kernel
theorem dX6_init_47 : decode cX6_init 47 = .ok (.bipush 16, 2) := by decide +kernel
theorem dX6_init_49 : decode cX6_init 49 = .ok (.newarray .long, 2) := by decide +kernel
theorem dX6_init_51 : decode cX6_init 51 = .ok (.putfield 25, 3) := by decide +kernel
theorem dX6_init_54 : decode cX6_init 54 = .ok (.aload_n 0, 1) := by decide +kernel
theorem dX6_init_55 : decode cX6_init 55 = .ok (.getfield 7, 3) := by decide +kernel
theorem dX6_init_58 : decode cX6_init 58 = .ok (.iconst 0, 1) := by decide +kernel
theorem dX6_init_59 : decode cX6_init 59 = .ok (.sipush 1000, 3) := by decide +kernel
theorem dX6_init_62 : decode cX6_init 62 = .ok (.iastore, 1) := by decide +kernel
theorem dX6_init_63 : decode cX6_init 63 = .ok (.aload_n 0, 1) := by decide +kernel
theorem dX6_init_64 : decode cX6_init 64 = .ok (.getfield 7, 3) := by decide +kernel
theorem dX6_init_67 : decode cX6_init 67 = .ok (.iconst 1, 1) := by decide +kernel
theorem dX6_init_68 : decode cX6_init 68 = .ok (.sipush 200, 3) := by decide +kernel
theorem dX6_init_71 : decode cX6_init 71 = .ok (.iastore, 1) := by decide +kernel
theorem dX6_init_72 : decode cX6_init 72 = .ok (.return_, 1) := by decide +kernel
theorem dX6_thrown_0 : decode cX6_thrown 0 = .ok (.aload_n 0, 1) := by decide +kernel
theorem dX6_thrown_1 : decode cX6_thrown 1 = .ok (.getfield 29, 3) := by decide +kernel
theorem dX6_thrown_4 : decode cX6_thrown 4 = .ok (.ireturn, 1) := by decide +kernel
theorem dX6_in_0 : decode cX6_in 0 = .ok (.iload_n 0, 1) := by decide +kernel
theorem dX6_in_1 : decode cX6_in 1 = .ok (.iload_n 1, 1) := by decide +kernel
theorem dX6_in_2 : decode cX6_in 2 = .ok (.if_icmp .lt 12, 3) := by decide +kernel
theorem dX6_in_5 : decode cX6_in 5 = .ok (.iload_n 0, 1) := by decide +kernel
theorem dX6_in_6 : decode cX6_in 6 = .ok (.iload_n 2, 1) := by decide +kernel
theorem dX6_in_7 : decode cX6_in 7 = .ok (.if_icmp .gt 7, 3) := by decide +kernel
theorem dX6_in_10 : decode cX6_in 10 = .ok (.iconst 1, 1) := by decide +kernel
theorem dX6_in_11 : decode cX6_in 11 = .ok (.goto 4, 3) := by decide +kernel
theorem dX6_in_14 : decode cX6_in 14 = .ok (.iconst 0, 1) := by decide +kernel
theorem dX6_in_15 : decode cX6_in 15 = .ok (.ireturn, 1) := by decide +kernel
theorem dX6_bring_0 : decode cX6_bring 0 = .ok (.iconst 0, 1) := by decide +kernel
theorem dX6_bring_1 : decode cX6_bring 1 = .ok (.istore 4, 2) := by decide +kernel
theorem dX6_bring_3 : decode cX6_bring 3 = .ok (.iload 4, 2) := by decide +kernel
theorem dX6_bring_5 : decode cX6_bring 5 = .ok (.bipush 99, 2) := by decide +kernel
theorem dX6_bring_7 : decode cX6_bring 7 = .ok (.if_icmp .ge 21, 3) := by decide +kernel
theorem dX6_bring_10 : decode cX6_bring 10 = .ok (.aload_n 2, 1) := by decide +kernel
theorem dX6_bring_11 : decode cX6_bring 11 = .ok (.iload_n 3, 1) := by decide +kernel
theorem dX6_bring_12 : decode cX6_bring 12 = .ok (.iload 4, 2) := by decide +kernel
theorem dX6_bring_14 : decode cX6_bring 14 = .ok (.iadd, 1) := by decide +kernel
theorem dX6_bring_15 : decode cX6_bring 15 = .ok (.aload_n 0, 1) := by decide +kernel
theorem dX6_bring_16 : decode cX6_bring 16 = .ok (.iload_n 1, 1) := by decide +kernel
theorem dX6_bring_17 : decode cX6_bring 17 = .ok (.iload 4, 2) := by decide +kernel
theorem dX6_bring_19 : decode cX6_bring 19 = .ok (.iadd, 1) := by decide +kernel
theorem dX6_bring_20 : decode cX6_bring 20 = .ok (.iaload, 1) := by decide +kernel
theorem dX6_bring_21 : decode cX6_bring 21 = .ok (.iastore, 1) := by decide +kernel
theorem dX6_bring_22 : decode cX6_bring 22 = .ok (.iinc 4 1, 3) := by decide +kernel
theorem dX6_bring_25 : decode cX6_bring 25 = .ok (.goto (-22), 3) := by decide +kernel
theorem dX6_bring_28 : decode cX6_bring 28 = .ok (.return_, 1) := by decide +kernel
set_option maxRecDepth 20000 in
theorem ggX6_keep_X6_bring : GoodIn wsX6_keep wsX6_bring := goodIn_r _ [7] (by decide +kernel) (by decide +kernel)
set_option maxRecDepth 20000 in
theorem gX6_keep_X6_bring : GoodIn wsX6_keep (va_wsS RX6 36 yX6_bring wsX6_bring) := goodIn_app (goodIn_of _ (by decide +kernel)) ggX6_keep_X6_bring
theorem dX6_keep_0 : decode cX6_keep 0 = .ok (.aload_n 0, 1) := by decide +kernel
theorem dX6_keep_1 : decode cX6_keep 1 = .ok (.getfield 33, 3) := by decide +kernel
theorem dX6_keep_4 : decode cX6_keep 4 = .ok (.iconst 4, 1) := by decide +kernel
theorem dX6_keep_5 : decode cX6_keep 5 = .ok (.if_icmp .ne 43, 3) := by decide +kernel
theorem dX6_keep_8 : decode cX6_keep 8 = .ok (.iconst 0, 1) := by decide +kernel
theorem dX6_keep_9 : decode cX6_keep 9 = .ok (.istore_n 1, 1) := by decide +kernel
theorem dX6_keep_10 : decode cX6_keep 10 = .ok (.iload_n 1, 1) := by decide +kernel
theorem dX6_keep_11 : decode cX6_keep 11 = .ok (.sipush 297, 3) := by decide +kernel
theorem dX6_keep_14 : decode cX6_keep 14 = .ok (.if_icmp .ge 24, 3) := by decide +kernel
theorem dX6_keep_17 : decode cX6_keep 17 = .ok (.aload_n 0, 1) := by decide +kernel
theorem dX6_keep_18 : decode cX6_keep 18 = .ok (.getfield 16, 3) := by decide +kernel
theorem dX6_keep_21 : decode cX6_keep 21 = .ok (.iload_n 1, 1) := by decide +kernel
theorem dX6_keep_22 : decode cX6_keep 22 = .ok (.aload_n 0, 1) := by decide +kernel
theorem dX6_keep_23 : decode cX6_keep 23 = .ok (.getfield 16, 3) := by decide +kernel
theorem dX6_keep_26 : decode cX6_keep 26 = .ok (.iload_n 1, 1) := by decide +kernel
theorem dX6_keep_27 : decode cX6_keep 27 = .ok (.bipush 99, 2) := by decide +kernel
theorem dX6_keep_29 : decode cX6_keep 29 = .ok (.iadd, 1) := by decide +kernel
theorem dX6_keep_30 : decode cX6_keep 30 = .ok (.iaload, 1) := by decide +kernel
theorem dX6_keep_31 : decode cX6_keep 31 = .ok (.iastore, 1) := by decide +kernel
theorem dX6_keep_32 : decode cX6_keep 32 = .ok (.iinc 1 1, 3) := by decide +kernel
theorem dX6_keep_35 : decode cX6_keep 35 = .ok (.goto (-25), 3) := by decide +kernel
theorem dX6_keep_38 : decode cX6_keep 38 = .ok (.aload_n 0, 1) := by decide +kernel
theorem dX6_keep_39 : decode cX6_keep 39 = .ok (.dup, 1) := by decide +kernel
theorem dX6_keep_40 : decode cX6_keep 40 = .ok (.getfield 33, 3) := by decide +kernel
theorem dX6_keep_43 : decode cX6_keep 43 = .ok (.iconst 1, 1) := by decide +kernel
theorem dX6_keep_44 : decode cX6_keep 44 = .ok (.isub, 1) := by decide +kernel
theorem dX6_keep_45 : decode cX6_keep 45 = .ok (.putfield 33, 3) := by decide +kernel
theorem dX6_keep_48 : decode cX6_keep 48 = .ok (.aload_n 0, 1) := by decide +kernel
theorem dX6_keep_49 : decode cX6_keep 49 = .ok (.getfield 7, 3) := by decide +kernel
theorem dX6_keep_52 : decode cX6_keep 52 = .ok (.iconst 0, 1) := by decide +kernel
theorem dX6_keep_53 : decode cX6_keep 53 = .ok (.aload_n 0, 1) := by decide +kernel
theorem dX6_keep_54 : decode cX6_keep 54 = .ok (.getfield 16, 3) := by decide +kernel
theorem dX6_keep_57 : decode cX6_keep 57 = .ok (.bipush 99, 2) := by decide +kernel
theorem dX6_keep_59 : decode cX6_keep 59 = .ok (.aload_n 0, 1) := by decide +kernel
theorem dX6_keep_60 : decode cX6_keep 60 = .ok (.getfield 33, 3) := by decide +kernel
theorem dX6_keep_63 : decode cX6_keep 63 = .ok (.imul, 1) := by decide +kernel
theorem dX6_keep_64 : decode cX6_keep 64 = .ok (.invokestatic 36, 3) := by decide +kernel
theorem dX6_keep_67 : decode cX6_keep 67 = .ok (.aload_n 0, 1) := by decide +kernel
theorem dX6_keep_68 : decode cX6_keep 68 = .ok (.dup, 1) := by decide +kernel
theorem dX6_keep_69 : decode cX6_keep 69 = .ok (.getfield 33, 3) := by decide +kernel
theorem dX6_keep_72 : decode cX6_keep 72 = .ok (.iconst 1, 1) := by decide +kernel
theorem dX6_keep_73 : decode cX6_keep 73 = .ok (.iadd, 1) := by decide +kernel
theorem dX6_keep_74 : decode cX6_keep 74 = .ok (.putfield 33, 3) := by decide +kernel
theorem dX6_keep_77 : decode cX6_keep 77 = .ok (.return_, 1) := by decide +kernel
set_option maxRecDepth 20000 in
theorem ggX6_isBlock_X6_in : GoodIn wsX6_isBlock wsX6_in := goodIn_r _ [5] (by decide +kernel) (by decide +kernel)
set_option maxRecDepth 20000 in
theorem gX6_isBlock_X6_in : GoodIn wsX6_isBlock (va_wsS RX6 40 yX6_in wsX6_in) := goodIn_app (goodIn_of _ (by decide +kernel)) ggX6_isBlock_X6_in
theorem dX6_isBlock_0 : decode cX6_isBlock 0 = .ok (.iload_n 1, 1) := by decide +kernel
theorem dX6_isBlock_1 : decode cX6_isBlock 1 = .ok (.iconst 0, 1) := by decide +kernel
theorem dX6_isBlock_2 : decode cX6_isBlock 2 = .ok (.aload_n 0, 1) := by decide +kernel
theorem dX6_isBlock_3 : decode cX6_isBlock 3 = .ok (.getfield 7, 3) := by decide +kernel
theorem dX6_isBlock_6 : decode cX6_isBlock 6 = .ok (.iconst 2, 1) := by decide +kernel
theorem dX6_isBlock_7 : decode cX6_isBlock 7 = .ok (.iaload, 1) := by decide +kernel
theorem dX6_isBlock_8 : decode cX6_isBlock 8 = .ok (.iconst 1, 1) := by decide +kernel
theorem dX6_isBlock_9 : decode cX6_isBlock 9 = .ok (.isub, 1) := by decide +kernel
theorem dX6_isBlock_10 : decode cX6_isBlock 10 = .ok (.invokestatic 40, 3) := by decide +kernel
theorem dX6_isBlock_13 : decode cX6_isBlock 13 = .ok (.ireturn, 1) := by decide +kernel
theorem dX6_of_0 : decode cX6_of 0 = .ok (.aload_n 0, 1) := by decide +kernel
theorem dX6_of_1 : decode cX6_of 1 = .ok (.getfield 7, 3) := by decide +kernel
theorem dX6_of_4 : decode cX6_of 4 = .ok (.iconst 3, 1) := by decide +kernel
theorem dX6_of_5 : decode cX6_of 5 = .ok (.bipush 6, 2) := by decide +kernel
theorem dX6_of_7 : decode cX6_of 7 = .ok (.iload_n 1, 1) := by decide +kernel
theorem dX6_of_8 : decode cX6_of 8 = .ok (.imul, 1) := by decide +kernel
theorem dX6_of_9 : decode cX6_of 9 = .ok (.iadd, 1) := by decide +kernel
theorem dX6_of_10 : decode cX6_of 10 = .ok (.iload_n 2, 1) := by decide +kernel
theorem dX6_of_11 : decode cX6_of 11 = .ok (.iadd, 1) := by decide +kernel
theorem dX6_of_12 : decode cX6_of 12 = .ok (.iaload, 1) := by decide +kernel
theorem dX6_of_13 : decode cX6_of 13 = .ok (.ireturn, 1) := by decide +kernel
theorem dX6_lay_0 : decode cX6_lay 0 = .ok (.aload_n 0, 1) := by decide +kernel
theorem dX6_lay_1 : decode cX6_lay 1 = .ok (.getfield 7, 3) := by decide +kernel
theorem dX6_lay_4 : decode cX6_lay 4 = .ok (.iconst 3, 1) := by decide +kernel
theorem dX6_lay_5 : decode cX6_lay 5 = .ok (.bipush 6, 2) := by decide +kernel
theorem dX6_lay_7 : decode cX6_lay 7 = .ok (.iload_n 1, 1) := by decide +kernel
theorem dX6_lay_8 : decode cX6_lay 8 = .ok (.imul, 1) := by decide +kernel
theorem dX6_lay_9 : decode cX6_lay 9 = .ok (.iadd, 1) := by decide +kernel
theorem dX6_lay_10 : decode cX6_lay 10 = .ok (.iload_n 2, 1) := by decide +kernel
theorem dX6_lay_11 : decode cX6_lay 11 = .ok (.iadd, 1) := by decide +kernel
theorem dX6_lay_12 : decode cX6_lay 12 = .ok (.iload_n 3, 1) := by decide +kernel
theorem dX6_lay_13 : decode cX6_lay 13 = .ok (.iastore, 1) := by decide +kernel
theorem dX6_lay_14 : decode cX6_lay 14 = .ok (.return_, 1) := by decide +kernel
theorem dX6_has_0 : decode cX6_has 0 = .ok (.iload_n 0, 1) := by decide +kernel
theorem dX6_has_1 : decode cX6_has 1 = .ok (.iload_n 1, 1) := by decide +kernel
theorem dX6_has_2 : decode cX6_has 2 = .ok (.ishr, 1) := by decide +kernel
theorem dX6_has_3 : decode cX6_has 3 = .ok (.iconst 1, 1) := by decide +kernel
theorem dX6_has_4 : decode cX6_has 4 = .ok (.iand, 1) := by decide +kernel
theorem dX6_has_5 : decode cX6_has 5 = .ok (.iconst 1, 1) := by decide +kernel
theorem dX6_has_6 : decode cX6_has 6 = .ok (.if_icmp .ne 7, 3) := by decide +kernel
theorem dX6_has_9 : decode cX6_has 9 = .ok (.iconst 1, 1) := by decide +kernel
theorem dX6_has_10 : decode cX6_has 10 = .ok (.goto 4, 3) := by decide +kernel
theorem dX6_has_13 : decode cX6_has 13 = .ok (.iconst 0, 1) := by decide +kernel
theorem dX6_has_14 : decode cX6_has 14 = .ok (.ireturn, 1) := by decide +kernel
set_option maxRecDepth 20000 in
theorem ggX6_standing_X6_of : GoodIn wsX6_standing wsX6_of := goodIn_r _ [6, 1, 7, 8, 9, 10, 11, 12, 13, 14, 15, 16, 17, 18, 19, 20, 21, 22, 23, 24, 25] (by decide +kernel) (by decide +kernel)
set_option maxRecDepth 20000 in
theorem gX6_standing_X6_of : GoodIn wsX6_standing (wsV RX6 44 RX6 yX6_of wsX6_of) := goodIn_app (goodIn_of _ (by decide +kernel)) ggX6_standing_X6_of
theorem dX6_standing_0 : decode cX6_standing 0 = .ok (.iconst 0, 1) := by decide +kernel
theorem dX6_standing_1 : decode cX6_standing 1 = .ok (.istore_n 1, 1) := by decide +kernel
theorem dX6_standing_2 : decode cX6_standing 2 = .ok (.iconst 0, 1) := by decide +kernel
theorem dX6_standing_3 : decode cX6_standing 3 = .ok (.istore_n 2, 1) := by decide +kernel
theorem dX6_standing_4 : decode cX6_standing 4 = .ok (.iload_n 2, 1) := by decide +kernel
theorem dX6_standing_5 : decode cX6_standing 5 = .ok (.aload_n 0, 1) := by decide +kernel
theorem dX6_standing_6 : decode cX6_standing 6 = .ok (.getfield 7, 3) := by decide +kernel
theorem dX6_standing_9 : decode cX6_standing 9 = .ok (.iconst 2, 1) := by decide +kernel
theorem dX6_standing_10 : decode cX6_standing 10 = .ok (.iaload, 1) := by decide +kernel
theorem dX6_standing_11 : decode cX6_standing 11 = .ok (.if_icmp .ge 28, 3) := by decide +kernel
theorem dX6_standing_14 : decode cX6_standing 14 = .ok (.iload_n 1, 1) := by decide +kernel
theorem dX6_standing_15 : decode cX6_standing 15 = .ok (.aload_n 0, 1) := by decide +kernel
theorem dX6_standing_16 : decode cX6_standing 16 = .ok (.iload_n 2, 1) := by decide +kernel
theorem dX6_standing_17 : decode cX6_standing 17 = .ok (.iconst 4, 1) := by decide +kernel
theorem dX6_standing_18 : decode cX6_standing 18 = .ok (.invokevirtual 44, 3) := by decide +kernel
theorem dX6_standing_21 : decode cX6_standing 21 = .ok (.ifCond .ne 9, 3) := by decide +kernel
theorem dX6_standing_24 : decode cX6_standing 24 = .ok (.iconst 1, 1) := by decide +kernel
theorem dX6_standing_25 : decode cX6_standing 25 = .ok (.iload_n 2, 1) := by decide +kernel
theorem dX6_standing_26 : decode cX6_standing 26 = .ok (.ishl, 1) := by decide +kernel
theorem dX6_standing_27 : decode cX6_standing 27 = .ok (.goto 4, 3) := by decide +kernel
theorem dX6_standing_30 : decode cX6_standing 30 = .ok (.iconst 0, 1) := by decide +kernel
theorem dX6_standing_31 : decode cX6_standing 31 = .ok (.ior, 1) := by decide +kernel
theorem dX6_standing_32 : decode cX6_standing 32 = .ok (.istore_n 1, 1) := by decide +kernel
theorem dX6_standing_33 : decode cX6_standing 33 = .ok (.iinc 2 1, 3) := by decide +kernel
theorem dX6_standing_36 : decode cX6_standing 36 = .ok (.goto (-32), 3) := by decide +kernel
theorem dX6_standing_39 : decode cX6_standing 39 = .ok (.iload_n 1, 1) := by decide +kernel
theorem dX6_standing_40 : decode cX6_standing 40 = .ok (.ireturn, 1) := by decide +kernel
set_option maxRecDepth 20000 in
theorem ggX6_solves_X6_has : GoodIn wsX6_solves wsX6_has := goodIn_r _ [9] (by decide +kernel) (by decide +kernel)
set_option maxRecDepth 20000 in
theorem gX6_solves_X6_has : GoodIn wsX6_solves (va_wsS RX6 51 yX6_has wsX6_has) := goodIn_app (goodIn_of _ (by decide +kernel)) ggX6_solves_X6_has
set_option maxRecDepth 20000 in
theorem ggX6_solves_X6_of : GoodIn wsX6_solves wsX6_of := goodIn_r _ [13, 1, 14, 15, 16, 17, 18, 19, 20, 21, 22, 23, 24, 25, 26, 27, 28, 29, 30, 31, 32] (by decide +kernel) (by decide +kernel)
set_option maxRecDepth 20000 in
theorem gX6_solves_X6_of : GoodIn wsX6_solves (wsV RX6 44 RX6 yX6_of wsX6_of) := goodIn_app (goodIn_of _ (by decide +kernel)) ggX6_solves_X6_of
theorem dX6_solves_0 : decode cX6_solves 0 = .ok (.lconst 0, 1) := by decide +kernel
theorem dX6_solves_1 : decode cX6_solves 1 = .ok (.lstore_n 1, 1) := by decide +kernel
theorem dX6_solves_2 : decode cX6_solves 2 = .ok (.lconst 0, 1) := by decide +kernel
theorem dX6_solves_3 : decode cX6_solves 3 = .ok (.lstore_n 3, 1) := by decide +kernel
theorem dX6_solves_4 : decode cX6_solves 4 = .ok (.lconst 0, 1) := by decide +kernel
theorem dX6_solves_5 : decode cX6_solves 5 = .ok (.lstore 5, 2) := by decide +kernel
theorem dX6_solves_7 : decode cX6_solves 7 = .ok (.aload_n 0, 1) := by decide +kernel
theorem dX6_solves_8 : decode cX6_solves 8 = .ok (.getfield 7, 3) := by decide +kernel
theorem dX6_solves_11 : decode cX6_solves 11 = .ok (.iconst 0, 1) := by decide +kernel
theorem dX6_solves_12 : decode cX6_solves 12 = .ok (.iaload, 1) := by decide +kernel
theorem dX6_solves_13 : decode cX6_solves 13 = .ok (.i2l, 1) := by decide +kernel
theorem dX6_solves_14 : decode cX6_solves 14 = .ok (.lstore 7, 2) := by decide +kernel
theorem dX6_solves_16 : decode cX6_solves 16 = .ok (.aload_n 0, 1) := by decide +kernel
theorem dX6_solves_17 : decode cX6_solves 17 = .ok (.getfield 7, 3) := by decide +kernel
theorem dX6_solves_20 : decode cX6_solves 20 = .ok (.iconst 0, 1) := by decide +kernel
theorem dX6_solves_21 : decode cX6_solves 21 = .ok (.iaload, 1) := by decide +kernel
theorem dX6_solves_22 : decode cX6_solves 22 = .ok (.i2l, 1) := by decide +kernel
theorem dX6_solves_23 : decode cX6_solves 23 = .ok (.aload_n 0, 1) := by decide +kernel
theorem dX6_solves_24 : decode cX6_solves 24 = .ok (.getfield 7, 3) := by decide +kernel
theorem dX6_solves_27 : decode cX6_solves 27 = .ok (.iconst 1, 1) := by decide +kernel
theorem dX6_solves_28 : decode cX6_solves 28 = .ok (.iaload, 1) := by decide +kernel
theorem dX6_solves_29 : decode cX6_solves 29 = .ok (.i2l, 1) := by decide +kernel
theorem dX6_solves_30 : decode cX6_solves 30 = .ok (.lmul, 1) := by decide +kernel
theorem dX6_solves_31 : decode cX6_solves 31 = .ok (.lstore 9, 2) := by decide +kernel
theorem dX6_solves_33 : decode cX6_solves 33 = .ok (.iconst 0, 1) := by decide +kernel
theorem dX6_solves_34 : decode cX6_solves 34 = .ok (.istore 11, 2) := by decide +kernel
theorem dX6_solves_36 : decode cX6_solves 36 = .ok (.iload 11, 2) := by decide +kernel
theorem dX6_solves_38 : decode cX6_solves 38 = .ok (.aload_n 0, 1) := by decide +kernel
theorem dX6_solves_39 : decode cX6_solves 39 = .ok (.getfield 7, 3) := by decide +kernel
theorem dX6_solves_42 : decode cX6_solves 42 = .ok (.iconst 2, 1) := by decide +kernel
theorem dX6_solves_43 : decode cX6_solves 43 = .ok (.iaload, 1) := by decide +kernel
theorem dX6_solves_44 : decode cX6_solves 44 = .ok (.if_icmp .ge 102, 3) := by decide +kernel
theorem dX6_solves_47 : decode cX6_solves 47 = .ok (.aload_n 0, 1) := by decide +kernel
theorem dX6_solves_48 : decode cX6_solves 48 = .ok (.getfield 48, 3) := by decide +kernel
theorem dX6_solves_51 : decode cX6_solves 51 = .ok (.iload 11, 2) := by decide +kernel
theorem dX6_solves_53 : decode cX6_solves 53 = .ok (.invokestatic 51, 3) := by decide +kernel
theorem dX6_solves_56 : decode cX6_solves 56 = .ok (.ifCond .eq 84, 3) := by decide +kernel
theorem dX6_solves_59 : decode cX6_solves 59 = .ok (.aload_n 0, 1) := by decide +kernel
theorem dX6_solves_60 : decode cX6_solves 60 = .ok (.iload 11, 2) := by decide +kernel
theorem dX6_solves_62 : decode cX6_solves 62 = .ok (.iconst 1, 1) := by decide +kernel
theorem dX6_solves_63 : decode cX6_solves 63 = .ok (.invokevirtual 44, 3) := by decide +kernel
theorem dX6_solves_66 : decode cX6_solves 66 = .ok (.i2l, 1) := by decide +kernel
theorem dX6_solves_67 : decode cX6_solves 67 = .ok (.lstore 12, 2) := by decide +kernel
theorem dX6_solves_69 : decode cX6_solves 69 = .ok (.aload_n 0, 1) := by decide +kernel
theorem dX6_solves_70 : decode cX6_solves 70 = .ok (.iload 11, 2) := by decide +kernel
theorem dX6_solves_72 : decode cX6_solves 72 = .ok (.iconst 0, 1) := by decide +kernel
theorem dX6_solves_73 : decode cX6_solves 73 = .ok (.invokevirtual 44, 3) := by decide +kernel
theorem dX6_solves_76 : decode cX6_solves 76 = .ok (.i2l, 1) := by decide +kernel
theorem dX6_solves_77 : decode cX6_solves 77 = .ok (.lstore 14, 2) := by decide +kernel
theorem dX6_solves_79 : decode cX6_solves 79 = .ok (.lload_n 1, 1) := by decide +kernel
theorem dX6_solves_80 : decode cX6_solves 80 = .ok (.lload 12, 2) := by decide +kernel
theorem dX6_solves_82 : decode cX6_solves 82 = .ok (.ladd, 1) := by decide +kernel
theorem dX6_solves_83 : decode cX6_solves 83 = .ok (.lstore_n 1, 1) := by decide +kernel
theorem dX6_solves_84 : decode cX6_solves 84 = .ok (.lload_n 3, 1) := by decide +kernel
theorem dX6_solves_85 : decode cX6_solves 85 = .ok (.lload 12, 2) := by decide +kernel
theorem dX6_solves_87 : decode cX6_solves 87 = .ok (.lload 14, 2) := by decide +kernel
theorem dX6_solves_89 : decode cX6_solves 89 = .ok (.lmul, 1) := by decide +kernel
theorem dX6_solves_90 : decode cX6_solves 90 = .ok (.ladd, 1) := by decide +kernel
theorem dX6_solves_91 : decode cX6_solves 91 = .ok (.lstore_n 3, 1) := by decide +kernel
theorem dX6_solves_92 : decode cX6_solves 92 = .ok (.lload 5, 2) := by decide +kernel
theorem dX6_solves_94 : decode cX6_solves 94 = .ok (.lload 12, 2) := by decide +kernel
theorem dX6_solves_96 : decode cX6_solves 96 = .ok (.lload 14, 2) := by decide +kernel
theorem dX6_solves_98 : decode cX6_solves 98 = .ok (.lmul, 1) := by decide +kernel
theorem dX6_solves_99 : decode cX6_solves 99 = .ok (.lload 14, 2) := by decide +kernel
theorem dX6_solves_101 : decode cX6_solves 101 = .ok (.lmul, 1) := by decide +kernel
theorem dX6_solves_102 : decode cX6_solves 102 = .ok (.ladd, 1) := by decide +kernel
theorem dX6_solves_103 : decode cX6_solves 103 = .ok (.lstore 5, 2) := by decide +kernel
theorem dX6_solves_105 : decode cX6_solves 105 = .ok (.lload 7, 2) := by decide +kernel
theorem dX6_solves_107 : decode cX6_solves 107 = .ok (.lload 12, 2) := by decide +kernel
theorem dX6_solves_109 : decode cX6_solves 109 = .ok (.aload_n 0, 1) := by decide +kernel
theorem dX6_solves_110 : decode cX6_solves 110 = .ok (.iload 11, 2) := by decide +kernel
theorem dX6_solves_112 : decode cX6_solves 112 = .ok (.iconst 2, 1) := by decide +kernel
theorem dX6_solves_113 : decode cX6_solves 113 = .ok (.invokevirtual 44, 3) := by decide +kernel
theorem dX6_solves_116 : decode cX6_solves 116 = .ok (.i2l, 1) := by decide +kernel
theorem dX6_solves_117 : decode cX6_solves 117 = .ok (.lmul, 1) := by decide +kernel
theorem dX6_solves_118 : decode cX6_solves 118 = .ok (.lsub, 1) := by decide +kernel
theorem dX6_solves_119 : decode cX6_solves 119 = .ok (.lstore 7, 2) := by decide +kernel
theorem dX6_solves_121 : decode cX6_solves 121 = .ok (.lload 9, 2) := by decide +kernel
theorem dX6_solves_123 : decode cX6_solves 123 = .ok (.lload 12, 2) := by decide +kernel
theorem dX6_solves_125 : decode cX6_solves 125 = .ok (.aload_n 0, 1) := by decide +kernel
theorem dX6_solves_126 : decode cX6_solves 126 = .ok (.iload 11, 2) := by decide +kernel
theorem dX6_solves_128 : decode cX6_solves 128 = .ok (.iconst 2, 1) := by decide +kernel
theorem dX6_solves_129 : decode cX6_solves 129 = .ok (.invokevirtual 44, 3) := by decide +kernel
theorem dX6_solves_132 : decode cX6_solves 132 = .ok (.i2l, 1) := by decide +kernel
theorem dX6_solves_133 : decode cX6_solves 133 = .ok (.lmul, 1) := by decide +kernel
theorem dX6_solves_134 : decode cX6_solves 134 = .ok (.lload 14, 2) := by decide +kernel
theorem dX6_solves_136 : decode cX6_solves 136 = .ok (.lmul, 1) := by decide +kernel
theorem dX6_solves_137 : decode cX6_solves 137 = .ok (.lsub, 1) := by decide +kernel
theorem dX6_solves_138 : decode cX6_solves 138 = .ok (.lstore 9, 2) := by decide +kernel
theorem dX6_solves_140 : decode cX6_solves 140 = .ok (.iinc 11 1, 3) := by decide +kernel
theorem dX6_solves_143 : decode cX6_solves 143 = .ok (.goto (-107), 3) := by decide +kernel
theorem dX6_solves_146 : decode cX6_solves 146 = .ok (.aload_n 0, 1) := by decide +kernel
theorem dX6_solves_147 : decode cX6_solves 147 = .ok (.lload_n 1, 1) := by decide +kernel
theorem dX6_solves_148 : decode cX6_solves 148 = .ok (.lload 5, 2) := by decide +kernel
theorem dX6_solves_150 : decode cX6_solves 150 = .ok (.lmul, 1) := by decide +kernel
theorem dX6_solves_151 : decode cX6_solves 151 = .ok (.lload_n 3, 1) := by decide +kernel
theorem dX6_solves_152 : decode cX6_solves 152 = .ok (.lload_n 3, 1) := by decide +kernel
theorem dX6_solves_153 : decode cX6_solves 153 = .ok (.lmul, 1) := by decide +kernel
theorem dX6_solves_154 : decode cX6_solves 154 = .ok (.lsub, 1) := by decide +kernel
theorem dX6_solves_155 : decode cX6_solves 155 = .ok (.putfield 55, 3) := by decide +kernel
theorem dX6_solves_158 : decode cX6_solves 158 = .ok (.aload_n 0, 1) := by decide +kernel
theorem dX6_solves_159 : decode cX6_solves 159 = .ok (.lload 7, 2) := by decide +kernel
theorem dX6_solves_161 : decode cX6_solves 161 = .ok (.lload 5, 2) := by decide +kernel
theorem dX6_solves_163 : decode cX6_solves 163 = .ok (.lmul, 1) := by decide +kernel
theorem dX6_solves_164 : decode cX6_solves 164 = .ok (.lload 9, 2) := by decide +kernel
theorem dX6_solves_166 : decode cX6_solves 166 = .ok (.lload_n 3, 1) := by decide +kernel
theorem dX6_solves_167 : decode cX6_solves 167 = .ok (.lmul, 1) := by decide +kernel
theorem dX6_solves_168 : decode cX6_solves 168 = .ok (.lsub, 1) := by decide +kernel
theorem dX6_solves_169 : decode cX6_solves 169 = .ok (.putfield 59, 3) := by decide +kernel
theorem dX6_solves_172 : decode cX6_solves 172 = .ok (.aload_n 0, 1) := by decide +kernel
theorem dX6_solves_173 : decode cX6_solves 173 = .ok (.lload 9, 2) := by decide +kernel
theorem dX6_solves_175 : decode cX6_solves 175 = .ok (.lload_n 1, 1) := by decide +kernel
theorem dX6_solves_176 : decode cX6_solves 176 = .ok (.lmul, 1) := by decide +kernel
theorem dX6_solves_177 : decode cX6_solves 177 = .ok (.lload 7, 2) := by decide +kernel
theorem dX6_solves_179 : decode cX6_solves 179 = .ok (.lload_n 3, 1) := by decide +kernel
theorem dX6_solves_180 : decode cX6_solves 180 = .ok (.lmul, 1) := by decide +kernel
theorem dX6_solves_181 : decode cX6_solves 181 = .ok (.lsub, 1) := by decide +kernel
theorem dX6_solves_182 : decode cX6_solves 182 = .ok (.putfield 62, 3) := by decide +kernel
theorem dX6_solves_185 : decode cX6_solves 185 = .ok (.aload_n 0, 1) := by decide +kernel
theorem dX6_solves_186 : decode cX6_solves 186 = .ok (.getfield 55, 3) := by decide +kernel
theorem dX6_solves_189 : decode cX6_solves 189 = .ok (.lconst 0, 1) := by decide +kernel
theorem dX6_solves_190 : decode cX6_solves 190 = .ok (.lcmp, 1) := by decide +kernel
theorem dX6_solves_191 : decode cX6_solves 191 = .ok (.ifCond .le 7, 3) := by decide +kernel
theorem dX6_solves_194 : decode cX6_solves 194 = .ok (.iconst 1, 1) := by decide +kernel
theorem dX6_solves_195 : decode cX6_solves 195 = .ok (.goto 4, 3) := by decide +kernel
theorem dX6_solves_198 : decode cX6_solves 198 = .ok (.iconst 0, 1) := by decide +kernel
theorem dX6_solves_199 : decode cX6_solves 199 = .ok (.ireturn, 1) := by decide +kernel
set_option maxRecDepth 20000 in
theorem ggX6_press_X6_of : GoodIn wsX6_press wsX6_of := goodIn_r _ [8, 9, 10, 11, 12, 13, 14, 15, 16, 17, 18, 19, 20, 21, 22, 23, 24, 25, 26, 27, 28] (by decide +kernel) (by decide +kernel)
set_option maxRecDepth 20000 in
theorem gX6_press_X6_of : GoodIn wsX6_press (wsV RX6 44 RX6 yX6_of wsX6_of) := goodIn_app (goodIn_of _ (by decide +kernel)) ggX6_press_X6_of
theorem dX6_press_0 : decode cX6_press 0 = .ok (.aload_n 0, 1) := by decide +kernel
theorem dX6_press_1 : decode cX6_press 1 = .ok (.getfield 59, 3) := by decide +kernel
theorem dX6_press_4 : decode cX6_press 4 = .ok (.aload_n 0, 1) := by decide +kernel
theorem dX6_press_5 : decode cX6_press 5 = .ok (.getfield 62, 3) := by decide +kernel
theorem dX6_press_8 : decode cX6_press 8 = .ok (.aload_n 0, 1) := by decide +kernel
theorem dX6_press_9 : decode cX6_press 9 = .ok (.iload_n 1, 1) := by decide +kernel
theorem dX6_press_10 : decode cX6_press 10 = .ok (.iconst 0, 1) := by decide +kernel
theorem dX6_press_11 : decode cX6_press 11 = .ok (.invokevirtual 44, 3) := by decide +kernel
theorem dX6_press_14 : decode cX6_press 14 = .ok (.i2l, 1) := by decide +kernel
theorem dX6_press_15 : decode cX6_press 15 = .ok (.lmul, 1) := by decide +kernel
theorem dX6_press_16 : decode cX6_press 16 = .ok (.ladd, 1) := by decide +kernel
theorem dX6_press_17 : decode cX6_press 17 = .ok (.aload_n 0, 1) := by decide +kernel
theorem dX6_press_18 : decode cX6_press 18 = .ok (.getfield 55, 3) := by decide +kernel
theorem dX6_press_21 : decode cX6_press 21 = .ok (.aload_n 0, 1) := by decide +kernel
theorem dX6_press_22 : decode cX6_press 22 = .ok (.iload_n 1, 1) := by decide +kernel
theorem dX6_press_23 : decode cX6_press 23 = .ok (.iconst 2, 1) := by decide +kernel
theorem dX6_press_24 : decode cX6_press 24 = .ok (.invokevirtual 44, 3) := by decide +kernel
theorem dX6_press_27 : decode cX6_press 27 = .ok (.i2l, 1) := by decide +kernel
theorem dX6_press_28 : decode cX6_press 28 = .ok (.lmul, 1) := by decide +kernel
theorem dX6_press_29 : decode cX6_press 29 = .ok (.ladd, 1) := by decide +kernel
theorem dX6_press_30 : decode cX6_press 30 = .ok (.lreturn, 1) := by decide +kernel
set_option maxRecDepth 20000 in
theorem ggX6_nextSet_X6_has : GoodIn wsX6_nextSet wsX6_has := goodIn_r _ [5] (by decide +kernel) (by decide +kernel)
set_option maxRecDepth 20000 in
theorem gX6_nextSet_X6_has : GoodIn wsX6_nextSet (va_wsS RX6 51 yX6_has wsX6_has) := goodIn_app (goodIn_of _ (by decide +kernel)) ggX6_nextSet_X6_has
set_option maxRecDepth 20000 in
theorem ggX6_nextSet_X6_press : GoodIn wsX6_nextSet wsX6_press := goodIn_r _ [9, 10, 11, 12, 13, 14, 15, 4, 16, 1, 17, 18, 19, 20, 21, 22, 23, 24, 25, 26, 27, 28, 29, 30, 31, 32, 33, 34, 35] (by decide +kernel) (by decide +kernel)
set_option maxRecDepth 20000 in
theorem gX6_nextSet_X6_press : GoodIn wsX6_nextSet (wsV RX6 65 RX6 yX6_press wsX6_press) := goodIn_app (goodIn_of _ (by decide +kernel)) ggX6_nextSet_X6_press
theorem dX6_nextSet_0 : decode cX6_nextSet 0 = .ok (.iconst 0, 1) := by decide +kernel
theorem dX6_nextSet_1 : decode cX6_nextSet 1 = .ok (.istore_n 2, 1) := by decide +kernel
theorem dX6_nextSet_2 : decode cX6_nextSet 2 = .ok (.iconst 0, 1) := by decide +kernel
theorem dX6_nextSet_3 : decode cX6_nextSet 3 = .ok (.istore_n 3, 1) := by decide +kernel
theorem dX6_nextSet_4 : decode cX6_nextSet 4 = .ok (.iload_n 3, 1) := by decide +kernel
theorem dX6_nextSet_5 : decode cX6_nextSet 5 = .ok (.aload_n 0, 1) := by decide +kernel
theorem dX6_nextSet_6 : decode cX6_nextSet 6 = .ok (.getfield 7, 3) := by decide +kernel
theorem dX6_nextSet_9 : decode cX6_nextSet 9 = .ok (.iconst 2, 1) := by decide +kernel
theorem dX6_nextSet_10 : decode cX6_nextSet 10 = .ok (.iaload, 1) := by decide +kernel
theorem dX6_nextSet_11 : decode cX6_nextSet 11 = .ok (.if_icmp .ge 37, 3) := by decide +kernel
theorem dX6_nextSet_14 : decode cX6_nextSet 14 = .ok (.iload_n 2, 1) := by decide +kernel
theorem dX6_nextSet_15 : decode cX6_nextSet 15 = .ok (.iload_n 1, 1) := by decide +kernel
theorem dX6_nextSet_16 : decode cX6_nextSet 16 = .ok (.iload_n 3, 1) := by decide +kernel
theorem dX6_nextSet_17 : decode cX6_nextSet 17 = .ok (.invokestatic 51, 3) := by decide +kernel
theorem dX6_nextSet_20 : decode cX6_nextSet 20 = .ok (.ifCond .eq 19, 3) := by decide +kernel
theorem dX6_nextSet_23 : decode cX6_nextSet 23 = .ok (.aload_n 0, 1) := by decide +kernel
theorem dX6_nextSet_24 : decode cX6_nextSet 24 = .ok (.iload_n 3, 1) := by decide +kernel
theorem dX6_nextSet_25 : decode cX6_nextSet 25 = .ok (.invokevirtual 65, 3) := by decide +kernel
theorem dX6_nextSet_28 : decode cX6_nextSet 28 = .ok (.lconst 0, 1) := by decide +kernel
theorem dX6_nextSet_29 : decode cX6_nextSet 29 = .ok (.lcmp, 1) := by decide +kernel
theorem dX6_nextSet_30 : decode cX6_nextSet 30 = .ok (.ifCond .le 9, 3) := by decide +kernel
theorem dX6_nextSet_33 : decode cX6_nextSet 33 = .ok (.iconst 1, 1) := by decide +kernel
theorem dX6_nextSet_34 : decode cX6_nextSet 34 = .ok (.iload_n 3, 1) := by decide +kernel
theorem dX6_nextSet_35 : decode cX6_nextSet 35 = .ok (.ishl, 1) := by decide +kernel
theorem dX6_nextSet_36 : decode cX6_nextSet 36 = .ok (.goto 4, 3) := by decide +kernel
theorem dX6_nextSet_39 : decode cX6_nextSet 39 = .ok (.iconst 0, 1) := by decide +kernel
theorem dX6_nextSet_40 : decode cX6_nextSet 40 = .ok (.ior, 1) := by decide +kernel
theorem dX6_nextSet_41 : decode cX6_nextSet 41 = .ok (.istore_n 2, 1) := by decide +kernel
theorem dX6_nextSet_42 : decode cX6_nextSet 42 = .ok (.iinc 3 1, 3) := by decide +kernel
theorem dX6_nextSet_45 : decode cX6_nextSet 45 = .ok (.goto (-41), 3) := by decide +kernel
theorem dX6_nextSet_48 : decode cX6_nextSet 48 = .ok (.iload_n 2, 1) := by decide +kernel
theorem dX6_nextSet_49 : decode cX6_nextSet 49 = .ok (.ireturn, 1) := by decide +kernel
set_option maxRecDepth 20000 in
theorem ggX6_share_X6_has : GoodIn wsX6_share wsX6_has := goodIn_r _ [10] (by decide +kernel) (by decide +kernel)
set_option maxRecDepth 20000 in
theorem gX6_share_X6_has : GoodIn wsX6_share (va_wsS RX6 51 yX6_has wsX6_has) := goodIn_app (goodIn_of _ (by decide +kernel)) ggX6_share_X6_has
set_option maxRecDepth 20000 in
theorem ggX6_share_X6_of : GoodIn wsX6_share wsX6_of := goodIn_r _ [14, 1, 21, 22, 23, 24, 25, 26, 27, 28, 29, 30, 31, 32, 33, 34, 35, 36, 37, 38, 39] (by decide +kernel) (by decide +kernel)
set_option maxRecDepth 20000 in
theorem gX6_share_X6_of : GoodIn wsX6_share (wsV RX6 44 RX6 yX6_of wsX6_of) := goodIn_app (goodIn_of _ (by decide +kernel)) ggX6_share_X6_of
set_option maxRecDepth 20000 in
theorem ggX6_share_X6_press : GoodIn wsX6_share wsX6_press := goodIn_r _ [18, 19, 20, 4, 11, 12, 13, 9, 14, 1, 21, 22, 23, 24, 25, 26, 27, 28, 29, 30, 31, 32, 33, 34, 35, 36, 37, 38, 39] (by decide +kernel) (by decide +kernel)
set_option maxRecDepth 20000 in
theorem gX6_share_X6_press : GoodIn wsX6_share (wsV RX6 65 RX6 yX6_press wsX6_press) := goodIn_app (goodIn_of _ (by decide +kernel)) ggX6_share_X6_press
theorem dX6_share_0 : decode cX6_share 0 = .ok (.aload_n 0, 1) := by decide +kernel
theorem dX6_share_1 : decode cX6_share 1 = .ok (.getfield 7, 3) := by decide +kernel
theorem dX6_share_4 : decode cX6_share 4 = .ok (.iconst 0, 1) := by decide +kernel
theorem dX6_share_5 : decode cX6_share 5 = .ok (.iaload, 1) := by decide +kernel
theorem dX6_share_6 : decode cX6_share 6 = .ok (.istore_n 1, 1) := by decide +kernel
theorem dX6_share_7 : decode cX6_share 7 = .ok (.iconst 0, 1) := by decide +kernel
theorem dX6_share_8 : decode cX6_share 8 = .ok (.istore_n 2, 1) := by decide +kernel
theorem dX6_share_9 : decode cX6_share 9 = .ok (.iload_n 2, 1) := by decide +kernel
theorem dX6_share_10 : decode cX6_share 10 = .ok (.bipush 16, 2) := by decide +kernel
theorem dX6_share_12 : decode cX6_share 12 = .ok (.if_icmp .ge 105, 3) := by decide +kernel
theorem dX6_share_15 : decode cX6_share 15 = .ok (.iload_n 2, 1) := by decide +kernel
theorem dX6_share_16 : decode cX6_share 16 = .ok (.aload_n 0, 1) := by decide +kernel
theorem dX6_share_17 : decode cX6_share 17 = .ok (.getfield 7, 3) := by decide +kernel
theorem dX6_share_20 : decode cX6_share 20 = .ok (.iconst 2, 1) := by decide +kernel
theorem dX6_share_21 : decode cX6_share 21 = .ok (.iaload, 1) := by decide +kernel
theorem dX6_share_22 : decode cX6_share 22 = .ok (.if_icmp .ge 18, 3) := by decide +kernel
theorem dX6_share_25 : decode cX6_share 25 = .ok (.aload_n 0, 1) := by decide +kernel
theorem dX6_share_26 : decode cX6_share 26 = .ok (.getfield 48, 3) := by decide +kernel
theorem dX6_share_29 : decode cX6_share 29 = .ok (.iload_n 2, 1) := by decide +kernel
theorem dX6_share_30 : decode cX6_share 30 = .ok (.invokestatic 51, 3) := by decide +kernel
theorem dX6_share_33 : decode cX6_share 33 = .ok (.ifCond .eq 7, 3) := by decide +kernel
theorem dX6_share_36 : decode cX6_share 36 = .ok (.iconst 1, 1) := by decide +kernel
theorem dX6_share_37 : decode cX6_share 37 = .ok (.goto 4, 3) := by decide +kernel
theorem dX6_share_40 : decode cX6_share 40 = .ok (.iconst 0, 1) := by decide +kernel
theorem dX6_share_41 : decode cX6_share 41 = .ok (.istore_n 3, 1) := by decide +kernel
theorem dX6_share_42 : decode cX6_share 42 = .ok (.iload_n 3, 1) := by decide +kernel
theorem dX6_share_43 : decode cX6_share 43 = .ok (.ifCond .eq 19, 3) := by decide +kernel
theorem dX6_share_46 : decode cX6_share 46 = .ok (.aload_n 0, 1) := by decide +kernel
theorem dX6_share_47 : decode cX6_share 47 = .ok (.iload_n 2, 1) := by decide +kernel
theorem dX6_share_48 : decode cX6_share 48 = .ok (.iconst 1, 1) := by decide +kernel
theorem dX6_share_49 : decode cX6_share 49 = .ok (.invokevirtual 44, 3) := by decide +kernel
theorem dX6_share_52 : decode cX6_share 52 = .ok (.i2l, 1) := by decide +kernel
theorem dX6_share_53 : decode cX6_share 53 = .ok (.aload_n 0, 1) := by decide +kernel
theorem dX6_share_54 : decode cX6_share 54 = .ok (.iload_n 2, 1) := by decide +kernel
theorem dX6_share_55 : decode cX6_share 55 = .ok (.invokevirtual 65, 3) := by decide +kernel
theorem dX6_share_58 : decode cX6_share 58 = .ok (.lmul, 1) := by decide +kernel
theorem dX6_share_59 : decode cX6_share 59 = .ok (.goto 4, 3) := by decide +kernel
theorem dX6_share_62 : decode cX6_share 62 = .ok (.lconst 0, 1) := by decide +kernel
theorem dX6_share_63 : decode cX6_share 63 = .ok (.lstore 4, 2) := by decide +kernel
theorem dX6_share_65 : decode cX6_share 65 = .ok (.aload_n 0, 1) := by decide +kernel
theorem dX6_share_66 : decode cX6_share 66 = .ok (.getfield 22, 3) := by decide +kernel
theorem dX6_share_69 : decode cX6_share 69 = .ok (.iload_n 2, 1) := by decide +kernel
theorem dX6_share_70 : decode cX6_share 70 = .ok (.lload 4, 2) := by decide +kernel
theorem dX6_share_72 : decode cX6_share 72 = .ok (.aload_n 0, 1) := by decide +kernel
theorem dX6_share_73 : decode cX6_share 73 = .ok (.getfield 55, 3) := by decide +kernel
theorem dX6_share_76 : decode cX6_share 76 = .ok (.ldiv, 1) := by decide +kernel
theorem dX6_share_77 : decode cX6_share 77 = .ok (.l2i, 1) := by decide +kernel
theorem dX6_share_78 : decode cX6_share 78 = .ok (.iastore, 1) := by decide +kernel
theorem dX6_share_79 : decode cX6_share 79 = .ok (.aload_n 0, 1) := by decide +kernel
theorem dX6_share_80 : decode cX6_share 80 = .ok (.getfield 25, 3) := by decide +kernel
theorem dX6_share_83 : decode cX6_share 83 = .ok (.iload_n 2, 1) := by decide +kernel
theorem dX6_share_84 : decode cX6_share 84 = .ok (.iload_n 3, 1) := by decide +kernel
theorem dX6_share_85 : decode cX6_share 85 = .ok (.ifCond .eq 13, 3) := by decide +kernel
theorem dX6_share_88 : decode cX6_share 88 = .ok (.lload 4, 2) := by decide +kernel
theorem dX6_share_90 : decode cX6_share 90 = .ok (.aload_n 0, 1) := by decide +kernel
theorem dX6_share_91 : decode cX6_share 91 = .ok (.getfield 55, 3) := by decide +kernel
theorem dX6_share_94 : decode cX6_share 94 = .ok (.lrem, 1) := by decide +kernel
theorem dX6_share_95 : decode cX6_share 95 = .ok (.goto 6, 3) := by decide +kernel
theorem dX6_share_98 : decode cX6_share 98 = .ok (.ldc2_w 69, 3) := by decide +kernel
theorem dX6_share_101 : decode cX6_share 101 = .ok (.lastore, 1) := by decide +kernel
theorem dX6_share_102 : decode cX6_share 102 = .ok (.iload_n 1, 1) := by decide +kernel
theorem dX6_share_103 : decode cX6_share 103 = .ok (.aload_n 0, 1) := by decide +kernel
theorem dX6_share_104 : decode cX6_share 104 = .ok (.getfield 22, 3) := by decide +kernel
theorem dX6_share_107 : decode cX6_share 107 = .ok (.iload_n 2, 1) := by decide +kernel
theorem dX6_share_108 : decode cX6_share 108 = .ok (.iaload, 1) := by decide +kernel
theorem dX6_share_109 : decode cX6_share 109 = .ok (.isub, 1) := by decide +kernel
theorem dX6_share_110 : decode cX6_share 110 = .ok (.istore_n 1, 1) := by decide +kernel
theorem dX6_share_111 : decode cX6_share 111 = .ok (.iinc 2 1, 3) := by decide +kernel
theorem dX6_share_114 : decode cX6_share 114 = .ok (.goto (-105), 3) := by decide +kernel
theorem dX6_share_117 : decode cX6_share 117 = .ok (.iload_n 1, 1) := by decide +kernel
theorem dX6_share_118 : decode cX6_share 118 = .ok (.ifCond .le 66, 3) := by decide +kernel
theorem dX6_share_121 : decode cX6_share 121 = .ok (.iconst 0, 1) := by decide +kernel
theorem dX6_share_122 : decode cX6_share 122 = .ok (.istore_n 2, 1) := by decide +kernel
theorem dX6_share_123 : decode cX6_share 123 = .ok (.iconst 1, 1) := by decide +kernel
theorem dX6_share_124 : decode cX6_share 124 = .ok (.istore_n 3, 1) := by decide +kernel
theorem dX6_share_125 : decode cX6_share 125 = .ok (.iload_n 3, 1) := by decide +kernel
theorem dX6_share_126 : decode cX6_share 126 = .ok (.bipush 16, 2) := by decide +kernel
theorem dX6_share_128 : decode cX6_share 128 = .ok (.if_icmp .ge 31, 3) := by decide +kernel
theorem dX6_share_131 : decode cX6_share 131 = .ok (.aload_n 0, 1) := by decide +kernel
theorem dX6_share_132 : decode cX6_share 132 = .ok (.getfield 25, 3) := by decide +kernel
theorem dX6_share_135 : decode cX6_share 135 = .ok (.iload_n 3, 1) := by decide +kernel
theorem dX6_share_136 : decode cX6_share 136 = .ok (.laload, 1) := by decide +kernel
theorem dX6_share_137 : decode cX6_share 137 = .ok (.aload_n 0, 1) := by decide +kernel
theorem dX6_share_138 : decode cX6_share 138 = .ok (.getfield 25, 3) := by decide +kernel
theorem dX6_share_141 : decode cX6_share 141 = .ok (.iload_n 2, 1) := by decide +kernel
theorem dX6_share_142 : decode cX6_share 142 = .ok (.laload, 1) := by decide +kernel
theorem dX6_share_143 : decode cX6_share 143 = .ok (.lcmp, 1) := by decide +kernel
theorem dX6_share_144 : decode cX6_share 144 = .ok (.ifCond .le 7, 3) := by decide +kernel
theorem dX6_share_147 : decode cX6_share 147 = .ok (.iload_n 3, 1) := by decide +kernel
theorem dX6_share_148 : decode cX6_share 148 = .ok (.goto 4, 3) := by decide +kernel
theorem dX6_share_151 : decode cX6_share 151 = .ok (.iload_n 2, 1) := by decide +kernel
theorem dX6_share_152 : decode cX6_share 152 = .ok (.istore_n 2, 1) := by decide +kernel
theorem dX6_share_153 : decode cX6_share 153 = .ok (.iinc 3 1, 3) := by decide +kernel
theorem dX6_share_156 : decode cX6_share 156 = .ok (.goto (-31), 3) := by decide +kernel
theorem dX6_share_159 : decode cX6_share 159 = .ok (.aload_n 0, 1) := by decide +kernel
theorem dX6_share_160 : decode cX6_share 160 = .ok (.getfield 22, 3) := by decide +kernel
theorem dX6_share_163 : decode cX6_share 163 = .ok (.iload_n 2, 1) := by decide +kernel
theorem dX6_share_164 : decode cX6_share 164 = .ok (.dup2, 1) := by decide +kernel
theorem dX6_share_165 : decode cX6_share 165 = .ok (.iaload, 1) := by decide +kernel
theorem dX6_share_166 : decode cX6_share 166 = .ok (.iconst 1, 1) := by decide +kernel
theorem dX6_share_167 : decode cX6_share 167 = .ok (.iadd, 1) := by decide +kernel
theorem dX6_share_168 : decode cX6_share 168 = .ok (.iastore, 1) := by decide +kernel
theorem dX6_share_169 : decode cX6_share 169 = .ok (.aload_n 0, 1) := by decide +kernel
theorem dX6_share_170 : decode cX6_share 170 = .ok (.getfield 25, 3) := by decide +kernel
theorem dX6_share_173 : decode cX6_share 173 = .ok (.iload_n 2, 1) := by decide +kernel
theorem dX6_share_174 : decode cX6_share 174 = .ok (.ldc2_w 69, 3) := by decide +kernel
theorem dX6_share_177 : decode cX6_share 177 = .ok (.lastore, 1) := by decide +kernel
theorem dX6_share_178 : decode cX6_share 178 = .ok (.iinc 1 (-1), 3) := by decide +kernel
theorem dX6_share_181 : decode cX6_share 181 = .ok (.goto (-64), 3) := by decide +kernel
theorem dX6_share_184 : decode cX6_share 184 = .ok (.return_, 1) := by decide +kernel
set_option maxRecDepth 20000 in
theorem ggX6_settle_X6_standing : GoodIn wsX6_settle wsX6_standing := goodIn_r _ [9, 10, 11, 12, 13, 8, 14, 39, 40, 41, 42, 43, 44, 45, 46, 47, 48, 49, 50, 51, 52, 53, 54, 55, 56, 57] (by decide +kernel) (by decide +kernel)
set_option maxRecDepth 20000 in
theorem gX6_settle_X6_standing : GoodIn wsX6_settle (wsV RX6 71 RX6 yX6_standing wsX6_standing) := goodIn_app (goodIn_of _ (by decide +kernel)) ggX6_settle_X6_standing
set_option maxRecDepth 20000 in
theorem ggX6_settle_X6_solves : GoodIn wsX6_settle wsX6_solves := goodIn_r _ [18, 10, 1, 19, 20, 21, 22, 23, 8, 24, 11, 12, 13, 14, 39, 40, 41, 42, 43, 44, 45, 46, 47, 48, 49, 50, 51, 52, 53, 54, 55, 56, 57] (by decide +kernel) (by decide +kernel)
set_option maxRecDepth 20000 in
theorem gX6_settle_X6_solves : GoodIn wsX6_settle (wsV RX6 82 RX6 yX6_solves wsX6_solves) := goodIn_app (goodIn_of _ (by decide +kernel)) ggX6_settle_X6_solves
set_option maxRecDepth 20000 in
theorem ggX6_settle_X6_nextSet : GoodIn wsX6_settle wsX6_nextSet := goodIn_r _ [28, 10, 22, 23, 8, 24, 29, 30, 31, 32, 20, 21, 19, 11, 12, 13, 14, 39, 40, 41, 42, 43, 44, 45, 46, 47, 48, 49, 50, 51, 52, 53, 54, 55, 56, 57] (by decide +kernel) (by decide +kernel)
set_option maxRecDepth 20000 in
theorem gX6_settle_X6_nextSet : GoodIn wsX6_settle (wsV RX6 86 RX6 yX6_nextSet wsX6_nextSet) := goodIn_app (goodIn_of _ (by decide +kernel)) ggX6_settle_X6_nextSet
set_option maxRecDepth 20000 in
theorem ggX6_settle_X6_share : GoodIn wsX6_settle wsX6_share := goodIn_r _ [36, 10, 1, 4, 19, 37, 38, 22, 23, 8, 24, 11, 12, 13, 14, 29, 30, 31, 32, 20, 21, 39, 40, 41, 42, 43, 44, 45, 46, 47, 48, 49, 50, 51, 52, 53, 54, 55, 56, 57] (by decide +kernel) (by decide +kernel)
set_option maxRecDepth 20000 in
theorem gX6_settle_X6_share : GoodIn wsX6_settle (wsV RX6 90 RX6 yX6_share wsX6_share) := goodIn_app (goodIn_of _ (by decide +kernel)) ggX6_settle_X6_share
theorem dX6_settle_0 : decode cX6_settle 0 = .ok (.aload_n 0, 1) := by decide +kernel
theorem dX6_settle_1 : decode cX6_settle 1 = .ok (.invokevirtual 71, 3) := by decide +kernel
theorem dX6_settle_4 : decode cX6_settle 4 = .ok (.istore_n 1, 1) := by decide +kernel
theorem dX6_settle_5 : decode cX6_settle 5 = .ok (.aload_n 0, 1) := by decide +kernel
theorem dX6_settle_6 : decode cX6_settle 6 = .ok (.iload_n 1, 1) := by decide +kernel
theorem dX6_settle_7 : decode cX6_settle 7 = .ok (.putfield 48, 3) := by decide +kernel
theorem dX6_settle_10 : decode cX6_settle 10 = .ok (.aload_n 0, 1) := by decide +kernel
theorem dX6_settle_11 : decode cX6_settle 11 = .ok (.iconst 0, 1) := by decide +kernel
theorem dX6_settle_12 : decode cX6_settle 12 = .ok (.putfield 75, 3) := by decide +kernel
theorem dX6_settle_15 : decode cX6_settle 15 = .ok (.aload_n 0, 1) := by decide +kernel
theorem dX6_settle_16 : decode cX6_settle 16 = .ok (.iconst 0, 1) := by decide +kernel
theorem dX6_settle_17 : decode cX6_settle 17 = .ok (.putfield 78, 3) := by decide +kernel
theorem dX6_settle_20 : decode cX6_settle 20 = .ok (.iconst 1, 1) := by decide +kernel
theorem dX6_settle_21 : decode cX6_settle 21 = .ok (.istore_n 2, 1) := by decide +kernel
theorem dX6_settle_22 : decode cX6_settle 22 = .ok (.iload_n 2, 1) := by decide +kernel
theorem dX6_settle_23 : decode cX6_settle 23 = .ok (.ifCond .eq 98, 3) := by decide +kernel
theorem dX6_settle_26 : decode cX6_settle 26 = .ok (.aload_n 0, 1) := by decide +kernel
theorem dX6_settle_27 : decode cX6_settle 27 = .ok (.dup, 1) := by decide +kernel
theorem dX6_settle_28 : decode cX6_settle 28 = .ok (.getfield 75, 3) := by decide +kernel
theorem dX6_settle_31 : decode cX6_settle 31 = .ok (.iconst 1, 1) := by decide +kernel
theorem dX6_settle_32 : decode cX6_settle 32 = .ok (.iadd, 1) := by decide +kernel
theorem dX6_settle_33 : decode cX6_settle 33 = .ok (.putfield 75, 3) := by decide +kernel
theorem dX6_settle_36 : decode cX6_settle 36 = .ok (.aload_n 0, 1) := by decide +kernel
theorem dX6_settle_37 : decode cX6_settle 37 = .ok (.invokevirtual 82, 3) := by decide +kernel
theorem dX6_settle_40 : decode cX6_settle 40 = .ok (.istore_n 2, 1) := by decide +kernel
theorem dX6_settle_41 : decode cX6_settle 41 = .ok (.iload_n 2, 1) := by decide +kernel
theorem dX6_settle_42 : decode cX6_settle 42 = .ok (.ifCond .eq 11, 3) := by decide +kernel
theorem dX6_settle_45 : decode cX6_settle 45 = .ok (.aload_n 0, 1) := by decide +kernel
theorem dX6_settle_46 : decode cX6_settle 46 = .ok (.iload_n 1, 1) := by decide +kernel
theorem dX6_settle_47 : decode cX6_settle 47 = .ok (.invokevirtual 86, 3) := by decide +kernel
theorem dX6_settle_50 : decode cX6_settle 50 = .ok (.goto 4, 3) := by decide +kernel
theorem dX6_settle_53 : decode cX6_settle 53 = .ok (.iconst 0, 1) := by decide +kernel
theorem dX6_settle_54 : decode cX6_settle 54 = .ok (.istore_n 3, 1) := by decide +kernel
theorem dX6_settle_55 : decode cX6_settle 55 = .ok (.aload_n 0, 1) := by decide +kernel
theorem dX6_settle_56 : decode cX6_settle 56 = .ok (.iload_n 2, 1) := by decide +kernel
theorem dX6_settle_57 : decode cX6_settle 57 = .ok (.ifCond .eq 15, 3) := by decide +kernel
theorem dX6_settle_60 : decode cX6_settle 60 = .ok (.iload_n 3, 1) := by decide +kernel
theorem dX6_settle_61 : decode cX6_settle 61 = .ok (.aload_n 0, 1) := by decide +kernel
theorem dX6_settle_62 : decode cX6_settle 62 = .ok (.getfield 48, 3) := by decide +kernel
theorem dX6_settle_65 : decode cX6_settle 65 = .ok (.if_icmp .ne 7, 3) := by decide +kernel
theorem dX6_settle_68 : decode cX6_settle 68 = .ok (.iconst 1, 1) := by decide +kernel
theorem dX6_settle_69 : decode cX6_settle 69 = .ok (.goto 4, 3) := by decide +kernel
theorem dX6_settle_72 : decode cX6_settle 72 = .ok (.iconst 0, 1) := by decide +kernel
theorem dX6_settle_73 : decode cX6_settle 73 = .ok (.putfield 78, 3) := by decide +kernel
theorem dX6_settle_76 : decode cX6_settle 76 = .ok (.iload_n 2, 1) := by decide +kernel
theorem dX6_settle_77 : decode cX6_settle 77 = .ok (.ifCond .eq 23, 3) := by decide +kernel
theorem dX6_settle_80 : decode cX6_settle 80 = .ok (.aload_n 0, 1) := by decide +kernel
theorem dX6_settle_81 : decode cX6_settle 81 = .ok (.getfield 78, 3) := by decide +kernel
theorem dX6_settle_84 : decode cX6_settle 84 = .ok (.ifCond .ne 16, 3) := by decide +kernel
theorem dX6_settle_87 : decode cX6_settle 87 = .ok (.aload_n 0, 1) := by decide +kernel
theorem dX6_settle_88 : decode cX6_settle 88 = .ok (.getfield 75, 3) := by decide +kernel
theorem dX6_settle_91 : decode cX6_settle 91 = .ok (.bipush 30, 2) := by decide +kernel
theorem dX6_settle_93 : decode cX6_settle 93 = .ok (.if_icmp .ge 7, 3) := by decide +kernel
theorem dX6_settle_96 : decode cX6_settle 96 = .ok (.iconst 1, 1) := by decide +kernel
theorem dX6_settle_97 : decode cX6_settle 97 = .ok (.goto 4, 3) := by decide +kernel
theorem dX6_settle_100 : decode cX6_settle 100 = .ok (.iconst 0, 1) := by decide +kernel
theorem dX6_settle_101 : decode cX6_settle 101 = .ok (.istore_n 2, 1) := by decide +kernel
theorem dX6_settle_102 : decode cX6_settle 102 = .ok (.aload_n 0, 1) := by decide +kernel
theorem dX6_settle_103 : decode cX6_settle 103 = .ok (.iload_n 2, 1) := by decide +kernel
theorem dX6_settle_104 : decode cX6_settle 104 = .ok (.ifCond .eq 7, 3) := by decide +kernel
theorem dX6_settle_107 : decode cX6_settle 107 = .ok (.iload_n 3, 1) := by decide +kernel
theorem dX6_settle_108 : decode cX6_settle 108 = .ok (.goto 7, 3) := by decide +kernel
theorem dX6_settle_111 : decode cX6_settle 111 = .ok (.aload_n 0, 1) := by decide +kernel
theorem dX6_settle_112 : decode cX6_settle 112 = .ok (.getfield 48, 3) := by decide +kernel
theorem dX6_settle_115 : decode cX6_settle 115 = .ok (.putfield 48, 3) := by decide +kernel
theorem dX6_settle_118 : decode cX6_settle 118 = .ok (.goto (-96), 3) := by decide +kernel
theorem dX6_settle_121 : decode cX6_settle 121 = .ok (.iconst 0, 1) := by decide +kernel
theorem dX6_settle_122 : decode cX6_settle 122 = .ok (.istore_n 3, 1) := by decide +kernel
theorem dX6_settle_123 : decode cX6_settle 123 = .ok (.iload_n 3, 1) := by decide +kernel
theorem dX6_settle_124 : decode cX6_settle 124 = .ok (.bipush 16, 2) := by decide +kernel
theorem dX6_settle_126 : decode cX6_settle 126 = .ok (.if_icmp .ge 16, 3) := by decide +kernel
theorem dX6_settle_129 : decode cX6_settle 129 = .ok (.aload_n 0, 1) := by decide +kernel
theorem dX6_settle_130 : decode cX6_settle 130 = .ok (.getfield 22, 3) := by decide +kernel
theorem dX6_settle_133 : decode cX6_settle 133 = .ok (.iload_n 3, 1) := by decide +kernel
theorem dX6_settle_134 : decode cX6_settle 134 = .ok (.iconst 0, 1) := by decide +kernel
theorem dX6_settle_135 : decode cX6_settle 135 = .ok (.iastore, 1) := by decide +kernel
theorem dX6_settle_136 : decode cX6_settle 136 = .ok (.iinc 3 1, 3) := by decide +kernel
theorem dX6_settle_139 : decode cX6_settle 139 = .ok (.goto (-16), 3) := by decide +kernel
theorem dX6_settle_142 : decode cX6_settle 142 = .ok (.aload_n 0, 1) := by decide +kernel
theorem dX6_settle_143 : decode cX6_settle 143 = .ok (.getfield 78, 3) := by decide +kernel
theorem dX6_settle_146 : decode cX6_settle 146 = .ok (.ifCond .eq 7, 3) := by decide +kernel
theorem dX6_settle_149 : decode cX6_settle 149 = .ok (.aload_n 0, 1) := by decide +kernel
theorem dX6_settle_150 : decode cX6_settle 150 = .ok (.invokevirtual 90, 3) := by decide +kernel
theorem dX6_settle_153 : decode cX6_settle 153 = .ok (.return_, 1) := by decide +kernel
set_option maxRecDepth 20000 in
theorem ggX6_bears_X6_has : GoodIn wsX6_bears wsX6_has := goodIn_r _ [6] (by decide +kernel) (by decide +kernel)
set_option maxRecDepth 20000 in
theorem gX6_bears_X6_has : GoodIn wsX6_bears (va_wsS RX6 51 yX6_has wsX6_has) := goodIn_app (goodIn_of _ (by decide +kernel)) ggX6_bears_X6_has
theorem dX6_bears_0 : decode cX6_bears 0 = .ok (.aload_n 0, 1) := by decide +kernel
theorem dX6_bears_1 : decode cX6_bears 1 = .ok (.getfield 78, 3) := by decide +kernel
theorem dX6_bears_4 : decode cX6_bears 4 = .ok (.ifCond .eq 18, 3) := by decide +kernel
theorem dX6_bears_7 : decode cX6_bears 7 = .ok (.aload_n 0, 1) := by decide +kernel
theorem dX6_bears_8 : decode cX6_bears 8 = .ok (.getfield 48, 3) := by decide +kernel
theorem dX6_bears_11 : decode cX6_bears 11 = .ok (.iload_n 1, 1) := by decide +kernel
theorem dX6_bears_12 : decode cX6_bears 12 = .ok (.invokestatic 51, 3) := by decide +kernel
theorem dX6_bears_15 : decode cX6_bears 15 = .ok (.ifCond .eq 7, 3) := by decide +kernel
theorem dX6_bears_18 : decode cX6_bears 18 = .ok (.iconst 1, 1) := by decide +kernel
theorem dX6_bears_19 : decode cX6_bears 19 = .ok (.goto 4, 3) := by decide +kernel
theorem dX6_bears_22 : decode cX6_bears 22 = .ok (.iconst 0, 1) := by decide +kernel
theorem dX6_bears_23 : decode cX6_bears 23 = .ok (.ireturn, 1) := by decide +kernel
set_option maxRecDepth 20000 in
theorem ggX6_isOver_X6_of : GoodIn wsX6_isOver wsX6_of := goodIn_r _ [7, 8, 9, 10, 11, 12, 13, 14, 15, 16, 17, 18, 19, 20, 21, 22, 23, 24, 25, 26, 27] (by decide +kernel) (by decide +kernel)
set_option maxRecDepth 20000 in
theorem gX6_isOver_X6_of : GoodIn wsX6_isOver (wsV RX6 44 RX6 yX6_of wsX6_of) := goodIn_app (goodIn_of _ (by decide +kernel)) ggX6_isOver_X6_of
theorem dX6_isOver_0 : decode cX6_isOver 0 = .ok (.aload_n 0, 1) := by decide +kernel
theorem dX6_isOver_1 : decode cX6_isOver 1 = .ok (.getfield 78, 3) := by decide +kernel
theorem dX6_isOver_4 : decode cX6_isOver 4 = .ok (.ifCond .eq 22, 3) := by decide +kernel
theorem dX6_isOver_7 : decode cX6_isOver 7 = .ok (.aload_n 0, 1) := by decide +kernel
theorem dX6_isOver_8 : decode cX6_isOver 8 = .ok (.getfield 22, 3) := by decide +kernel
theorem dX6_isOver_11 : decode cX6_isOver 11 = .ok (.iload_n 1, 1) := by decide +kernel
theorem dX6_isOver_12 : decode cX6_isOver 12 = .ok (.iaload, 1) := by decide +kernel
theorem dX6_isOver_13 : decode cX6_isOver 13 = .ok (.aload_n 0, 1) := by decide +kernel
theorem dX6_isOver_14 : decode cX6_isOver 14 = .ok (.iload_n 1, 1) := by decide +kernel
theorem dX6_isOver_15 : decode cX6_isOver 15 = .ok (.iconst 3, 1) := by decide +kernel
theorem dX6_isOver_16 : decode cX6_isOver 16 = .ok (.invokevirtual 44, 3) := by decide +kernel
theorem dX6_isOver_19 : decode cX6_isOver 19 = .ok (.if_icmp .le 7, 3) := by decide +kernel
theorem dX6_isOver_22 : decode cX6_isOver 22 = .ok (.iconst 1, 1) := by decide +kernel
theorem dX6_isOver_23 : decode cX6_isOver 23 = .ok (.goto 4, 3) := by decide +kernel
theorem dX6_isOver_26 : decode cX6_isOver 26 = .ok (.iconst 0, 1) := by decide +kernel
theorem dX6_isOver_27 : decode cX6_isOver 27 = .ok (.ireturn, 1) := by decide +kernel
set_option maxRecDepth 20000 in
theorem ggX6_overloaded_X6_isOver : GoodIn wsX6_overloaded wsX6_isOver := goodIn_r _ [6, 7, 8, 9, 10, 11, 5, 12, 1, 13, 14, 15, 16, 17, 18, 19, 20, 21, 22, 23, 24, 25, 26, 27, 28, 29, 30, 31] (by decide +kernel) (by decide +kernel)
set_option maxRecDepth 20000 in
theorem gX6_overloaded_X6_isOver : GoodIn wsX6_overloaded (wsV RX6 93 RX6 yX6_isOver wsX6_isOver) := goodIn_app (goodIn_of _ (by decide +kernel)) ggX6_overloaded_X6_isOver
theorem dX6_overloaded_0 : decode cX6_overloaded 0 = .ok (.iconst 0, 1) := by decide +kernel
theorem dX6_overloaded_1 : decode cX6_overloaded 1 = .ok (.istore_n 1, 1) := by decide +kernel
theorem dX6_overloaded_2 : decode cX6_overloaded 2 = .ok (.iconst 0, 1) := by decide +kernel
theorem dX6_overloaded_3 : decode cX6_overloaded 3 = .ok (.istore_n 2, 1) := by decide +kernel
theorem dX6_overloaded_4 : decode cX6_overloaded 4 = .ok (.iload_n 2, 1) := by decide +kernel
theorem dX6_overloaded_5 : decode cX6_overloaded 5 = .ok (.aload_n 0, 1) := by decide +kernel
theorem dX6_overloaded_6 : decode cX6_overloaded 6 = .ok (.getfield 7, 3) := by decide +kernel
theorem dX6_overloaded_9 : decode cX6_overloaded 9 = .ok (.iconst 2, 1) := by decide +kernel
theorem dX6_overloaded_10 : decode cX6_overloaded 10 = .ok (.iaload, 1) := by decide +kernel
theorem dX6_overloaded_11 : decode cX6_overloaded 11 = .ok (.if_icmp .ge 27, 3) := by decide +kernel
theorem dX6_overloaded_14 : decode cX6_overloaded 14 = .ok (.iload_n 1, 1) := by decide +kernel
theorem dX6_overloaded_15 : decode cX6_overloaded 15 = .ok (.aload_n 0, 1) := by decide +kernel
theorem dX6_overloaded_16 : decode cX6_overloaded 16 = .ok (.iload_n 2, 1) := by decide +kernel
theorem dX6_overloaded_17 : decode cX6_overloaded 17 = .ok (.invokevirtual 93, 3) := by decide +kernel
theorem dX6_overloaded_20 : decode cX6_overloaded 20 = .ok (.ifCond .eq 9, 3) := by decide +kernel
theorem dX6_overloaded_23 : decode cX6_overloaded 23 = .ok (.iconst 1, 1) := by decide +kernel
theorem dX6_overloaded_24 : decode cX6_overloaded 24 = .ok (.iload_n 2, 1) := by decide +kernel
theorem dX6_overloaded_25 : decode cX6_overloaded 25 = .ok (.ishl, 1) := by decide +kernel
theorem dX6_overloaded_26 : decode cX6_overloaded 26 = .ok (.goto 4, 3) := by decide +kernel
theorem dX6_overloaded_29 : decode cX6_overloaded 29 = .ok (.iconst 0, 1) := by decide +kernel
theorem dX6_overloaded_30 : decode cX6_overloaded 30 = .ok (.ior, 1) := by decide +kernel
theorem dX6_overloaded_31 : decode cX6_overloaded 31 = .ok (.istore_n 1, 1) := by decide +kernel
theorem dX6_overloaded_32 : decode cX6_overloaded 32 = .ok (.iinc 2 1, 3) := by decide +kernel
theorem dX6_overloaded_35 : decode cX6_overloaded 35 = .ok (.goto (-31), 3) := by decide +kernel
theorem dX6_overloaded_38 : decode cX6_overloaded 38 = .ok (.iload_n 1, 1) := by decide +kernel
theorem dX6_overloaded_39 : decode cX6_overloaded 39 = .ok (.ireturn, 1) := by decide +kernel
theorem dX6_many_0 : decode cX6_many 0 = .ok (.iconst 0, 1) := by decide +kernel
theorem dX6_many_1 : decode cX6_many 1 = .ok (.istore_n 1, 1) := by decide +kernel
theorem dX6_many_2 : decode cX6_many 2 = .ok (.iconst 0, 1) := by decide +kernel
theorem dX6_many_3 : decode cX6_many 3 = .ok (.istore_n 2, 1) := by decide +kernel
theorem dX6_many_4 : decode cX6_many 4 = .ok (.iload_n 2, 1) := by decide +kernel
theorem dX6_many_5 : decode cX6_many 5 = .ok (.bipush 16, 2) := by decide +kernel
theorem dX6_many_7 : decode cX6_many 7 = .ok (.if_icmp .ge 17, 3) := by decide +kernel
theorem dX6_many_10 : decode cX6_many 10 = .ok (.iload_n 1, 1) := by decide +kernel
theorem dX6_many_11 : decode cX6_many 11 = .ok (.iload_n 0, 1) := by decide +kernel
theorem dX6_many_12 : decode cX6_many 12 = .ok (.iload_n 2, 1) := by decide +kernel
theorem dX6_many_13 : decode cX6_many 13 = .ok (.ishr, 1) := by decide +kernel
theorem dX6_many_14 : decode cX6_many 14 = .ok (.iconst 1, 1) := by decide +kernel
theorem dX6_many_15 : decode cX6_many 15 = .ok (.iand, 1) := by decide +kernel
theorem dX6_many_16 : decode cX6_many 16 = .ok (.iadd, 1) := by decide +kernel
theorem dX6_many_17 : decode cX6_many 17 = .ok (.istore_n 1, 1) := by decide +kernel
theorem dX6_many_18 : decode cX6_many 18 = .ok (.iinc 2 1, 3) := by decide +kernel
theorem dX6_many_21 : decode cX6_many 21 = .ok (.goto (-17), 3) := by decide +kernel
theorem dX6_many_24 : decode cX6_many 24 = .ok (.iload_n 1, 1) := by decide +kernel
theorem dX6_many_25 : decode cX6_many 25 = .ok (.ireturn, 1) := by decide +kernel
theorem dX6_heaviest_0 : decode cX6_heaviest 0 = .ok (.iconst (-1), 1) := by decide +kernel
theorem dX6_heaviest_1 : decode cX6_heaviest 1 = .ok (.istore_n 1, 1) := by decide +kernel
theorem dX6_heaviest_2 : decode cX6_heaviest 2 = .ok (.iconst 0, 1) := by decide +kernel
theorem dX6_heaviest_3 : decode cX6_heaviest 3 = .ok (.istore_n 2, 1) := by decide +kernel
theorem dX6_heaviest_4 : decode cX6_heaviest 4 = .ok (.iload_n 2, 1) := by decide +kernel
theorem dX6_heaviest_5 : decode cX6_heaviest 5 = .ok (.aload_n 0, 1) := by decide +kernel
theorem dX6_heaviest_6 : decode cX6_heaviest 6 = .ok (.getfield 7, 3) := by decide +kernel
theorem dX6_heaviest_9 : decode cX6_heaviest 9 = .ok (.iconst 2, 1) := by decide +kernel
theorem dX6_heaviest_10 : decode cX6_heaviest 10 = .ok (.iaload, 1) := by decide +kernel
theorem dX6_heaviest_11 : decode cX6_heaviest 11 = .ok (.if_icmp .ge 42, 3) := by decide +kernel
theorem dX6_heaviest_14 : decode cX6_heaviest 14 = .ok (.aload_n 0, 1) := by decide +kernel
theorem dX6_heaviest_15 : decode cX6_heaviest 15 = .ok (.getfield 78, 3) := by decide +kernel
theorem dX6_heaviest_18 : decode cX6_heaviest 18 = .ok (.ifCond .eq 35, 3) := by decide +kernel
theorem dX6_heaviest_21 : decode cX6_heaviest 21 = .ok (.iload_n 1, 1) := by decide +kernel
theorem dX6_heaviest_22 : decode cX6_heaviest 22 = .ok (.iconst (-1), 1) := by decide +kernel
theorem dX6_heaviest_23 : decode cX6_heaviest 23 = .ok (.if_icmp .eq 18, 3) := by decide +kernel
theorem dX6_heaviest_26 : decode cX6_heaviest 26 = .ok (.aload_n 0, 1) := by decide +kernel
theorem dX6_heaviest_27 : decode cX6_heaviest 27 = .ok (.getfield 22, 3) := by decide +kernel
theorem dX6_heaviest_30 : decode cX6_heaviest 30 = .ok (.iload_n 2, 1) := by decide +kernel
theorem dX6_heaviest_31 : decode cX6_heaviest 31 = .ok (.iaload, 1) := by decide +kernel
theorem dX6_heaviest_32 : decode cX6_heaviest 32 = .ok (.aload_n 0, 1) := by decide +kernel
theorem dX6_heaviest_33 : decode cX6_heaviest 33 = .ok (.getfield 22, 3) := by decide +kernel
theorem dX6_heaviest_36 : decode cX6_heaviest 36 = .ok (.iload_n 1, 1) := by decide +kernel
theorem dX6_heaviest_37 : decode cX6_heaviest 37 = .ok (.iaload, 1) := by decide +kernel
theorem dX6_heaviest_38 : decode cX6_heaviest 38 = .ok (.if_icmp .le 7, 3) := by decide +kernel
theorem dX6_heaviest_41 : decode cX6_heaviest 41 = .ok (.iload_n 2, 1) := by decide +kernel
theorem dX6_heaviest_42 : decode cX6_heaviest 42 = .ok (.goto 4, 3) := by decide +kernel
theorem dX6_heaviest_45 : decode cX6_heaviest 45 = .ok (.iload_n 1, 1) := by decide +kernel
theorem dX6_heaviest_46 : decode cX6_heaviest 46 = .ok (.istore_n 1, 1) := by decide +kernel
theorem dX6_heaviest_47 : decode cX6_heaviest 47 = .ok (.iinc 2 1, 3) := by decide +kernel
theorem dX6_heaviest_50 : decode cX6_heaviest 50 = .ok (.goto (-46), 3) := by decide +kernel
theorem dX6_heaviest_53 : decode cX6_heaviest 53 = .ok (.iload_n 1, 1) := by decide +kernel
theorem dX6_heaviest_54 : decode cX6_heaviest 54 = .ok (.ireturn, 1) := by decide +kernel
set_option maxRecDepth 20000 in
theorem ggX6_greatest_X6_heaviest : GoodIn wsX6_greatest wsX6_heaviest := goodIn_r _ [6, 7, 8, 1, 9, 10, 11, 12, 13, 14, 15, 16, 17, 18, 19, 20, 21, 22, 23, 24, 25, 26, 27] (by decide +kernel) (by decide +kernel)
set_option maxRecDepth 20000 in
theorem gX6_greatest_X6_heaviest : GoodIn wsX6_greatest (wsV RX6 97 RX6 yX6_heaviest wsX6_heaviest) := goodIn_app (goodIn_of _ (by decide +kernel)) ggX6_greatest_X6_heaviest
theorem dX6_greatest_0 : decode cX6_greatest 0 = .ok (.aload_n 0, 1) := by decide +kernel
theorem dX6_greatest_1 : decode cX6_greatest 1 = .ok (.invokevirtual 97, 3) := by decide +kernel
theorem dX6_greatest_4 : decode cX6_greatest 4 = .ok (.istore_n 1, 1) := by decide +kernel
theorem dX6_greatest_5 : decode cX6_greatest 5 = .ok (.iload_n 1, 1) := by decide +kernel
theorem dX6_greatest_6 : decode cX6_greatest 6 = .ok (.iconst (-1), 1) := by decide +kernel
theorem dX6_greatest_7 : decode cX6_greatest 7 = .ok (.if_icmp .ne 7, 3) := by decide +kernel
theorem dX6_greatest_10 : decode cX6_greatest 10 = .ok (.iconst 0, 1) := by decide +kernel
theorem dX6_greatest_11 : decode cX6_greatest 11 = .ok (.goto 9, 3) := by decide +kernel
theorem dX6_greatest_14 : decode cX6_greatest 14 = .ok (.aload_n 0, 1) := by decide +kernel
theorem dX6_greatest_15 : decode cX6_greatest 15 = .ok (.getfield 22, 3) := by decide +kernel
theorem dX6_greatest_18 : decode cX6_greatest 18 = .ok (.iload_n 1, 1) := by decide +kernel
theorem dX6_greatest_19 : decode cX6_greatest 19 = .ok (.iaload, 1) := by decide +kernel
theorem dX6_greatest_20 : decode cX6_greatest 20 = .ok (.ireturn, 1) := by decide +kernel
set_option maxRecDepth 20000 in
theorem ggX6_isBuilt_X6_in : GoodIn wsX6_isBuilt wsX6_in := goodIn_r _ [4] (by decide +kernel) (by decide +kernel)
set_option maxRecDepth 20000 in
theorem gX6_isBuilt_X6_in : GoodIn wsX6_isBuilt (va_wsS RX6 40 yX6_in wsX6_in) := goodIn_app (goodIn_of _ (by decide +kernel)) ggX6_isBuilt_X6_in
set_option maxRecDepth 20000 in
theorem ggX6_isBuilt_X6_isCap : GoodIn wsX6_isBuilt wsX6_isCap := goodIn_r _ [7, 1, 2, 3, 4] (by decide +kernel) (by decide +kernel)
set_option maxRecDepth 20000 in
theorem gX6_isBuilt_X6_isCap : GoodIn wsX6_isBuilt (va_wsS RX6 100 yX6_isCap wsX6_isCap) := goodIn_app (goodIn_of _ (by decide +kernel)) ggX6_isBuilt_X6_isCap
set_option maxRecDepth 20000 in
theorem ggX6_isBuilt_X6_isLimit : GoodIn wsX6_isBuilt wsX6_isLimit := goodIn_r _ [10, 11, 1, 2, 3, 4] (by decide +kernel) (by decide +kernel)
set_option maxRecDepth 20000 in
theorem gX6_isBuilt_X6_isLimit : GoodIn wsX6_isBuilt (va_wsS RX6 103 yX6_isLimit wsX6_isLimit) := goodIn_app (goodIn_of _ (by decide +kernel)) ggX6_isBuilt_X6_isLimit
theorem dX6_isBuilt_0 : decode cX6_isBuilt 0 = .ok (.iload_n 0, 1) := by decide +kernel
theorem dX6_isBuilt_1 : decode cX6_isBuilt 1 = .ok (.iconst 0, 1) := by decide +kernel
theorem dX6_isBuilt_2 : decode cX6_isBuilt 2 = .ok (.sipush 400, 3) := by decide +kernel
theorem dX6_isBuilt_5 : decode cX6_isBuilt 5 = .ok (.invokestatic 40, 3) := by decide +kernel
theorem dX6_isBuilt_8 : decode cX6_isBuilt 8 = .ok (.ifCond .eq 31, 3) := by decide +kernel
theorem dX6_isBuilt_11 : decode cX6_isBuilt 11 = .ok (.iload_n 1, 1) := by decide +kernel
theorem dX6_isBuilt_12 : decode cX6_isBuilt 12 = .ok (.iconst 1, 1) := by decide +kernel
theorem dX6_isBuilt_13 : decode cX6_isBuilt 13 = .ok (.bipush 100, 2) := by decide +kernel
theorem dX6_isBuilt_15 : decode cX6_isBuilt 15 = .ok (.invokestatic 40, 3) := by decide +kernel
theorem dX6_isBuilt_18 : decode cX6_isBuilt 18 = .ok (.ifCond .eq 21, 3) := by decide +kernel
theorem dX6_isBuilt_21 : decode cX6_isBuilt 21 = .ok (.iload_n 2, 1) := by decide +kernel
theorem dX6_isBuilt_22 : decode cX6_isBuilt 22 = .ok (.invokestatic 100, 3) := by decide +kernel
theorem dX6_isBuilt_25 : decode cX6_isBuilt 25 = .ok (.ifCond .eq 14, 3) := by decide +kernel
theorem dX6_isBuilt_28 : decode cX6_isBuilt 28 = .ok (.iload_n 3, 1) := by decide +kernel
theorem dX6_isBuilt_29 : decode cX6_isBuilt 29 = .ok (.invokestatic 103, 3) := by decide +kernel
theorem dX6_isBuilt_32 : decode cX6_isBuilt 32 = .ok (.ifCond .eq 7, 3) := by decide +kernel
theorem dX6_isBuilt_35 : decode cX6_isBuilt 35 = .ok (.iconst 1, 1) := by decide +kernel
theorem dX6_isBuilt_36 : decode cX6_isBuilt 36 = .ok (.goto 4, 3) := by decide +kernel
theorem dX6_isBuilt_39 : decode cX6_isBuilt 39 = .ok (.iconst 0, 1) := by decide +kernel
theorem dX6_isBuilt_40 : decode cX6_isBuilt 40 = .ok (.ireturn, 1) := by decide +kernel
set_option maxRecDepth 20000 in
theorem ggX6_isCap_X6_in : GoodIn wsX6_isCap wsX6_in := goodIn_r _ [4] (by decide +kernel) (by decide +kernel)
set_option maxRecDepth 20000 in
theorem gX6_isCap_X6_in : GoodIn wsX6_isCap (va_wsS RX6 40 yX6_in wsX6_in) := goodIn_app (goodIn_of _ (by decide +kernel)) ggX6_isCap_X6_in
