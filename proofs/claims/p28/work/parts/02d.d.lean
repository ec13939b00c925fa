theorem dX4_takeNewest_48 : decode cX4_takeNewest 48 = .ok (.areturn, 1) := by decide +kernel
set_option maxRecDepth 20000 in
theorem ggX5_init_X1_init : GoodIn wsX5_init wsX1_init := goodIn_r _ [27, 28, 2, 3, 29, 30, 31, 32, 33, 34, 35, 36, 37, 38, 39, 116, 117, 118, 119, 120, 121, 122, 123, 124, 125] (by decide +kernel) (by decide +kernel)
set_option maxRecDepth 20000 in
theorem gX5_init_X1_init_n9 : GoodIn wsX5_init (wsX1_init) := ggX5_init_X1_init
set_option maxRecDepth 20000 in
theorem ggX5_init_X0_init : GoodIn wsX5_init wsX0_init := goodIn_r _ [41, 42, 2, 3, 34, 43, 44, 45, 133, 134, 135, 136, 137, 138, 139, 140, 141] (by decide +kernel) (by decide +kernel)
set_option maxRecDepth 20000 in
theorem gX5_init_X0_init_n18 : GoodIn wsX5_init (wsX0_init) := ggX5_init_X0_init
set_option maxRecDepth 20000 in
theorem ggX5_init_X4_init : GoodIn wsX5_init wsX4_init := goodIn_r _ [47, 48, 2, 3, 49, 50, 51, 52, 142, 143, 144] (by decide +kernel) (by decide +kernel)
set_option maxRecDepth 20000 in
theorem gX5_init_X4_init_n31 : GoodIn wsX5_init (wsX4_init) := ggX5_init_X4_init
set_option maxRecDepth 20000 in
theorem ggX5_init_X3_init : GoodIn wsX5_init wsX3_init := goodIn_r _ [54, 55, 2, 3, 56, 57, 58, 145, 146] (by decide +kernel) (by decide +kernel)
set_option maxRecDepth 20000 in
theorem gX5_init_X3_init_n38 : GoodIn wsX5_init (wsX3_init) := ggX5_init_X3_init
set_option maxRecDepth 20000 in
theorem ggX5_init_X2_init : GoodIn wsX5_init wsX2_init := goodIn_r _ [61, 62, 2, 3, 63, 64, 65, 147, 148, 149] (by decide +kernel) (by decide +kernel)
set_option maxRecDepth 20000 in
theorem gX5_init_X2_init : GoodIn wsX5_init (wsX2_init) := ggX5_init_X2_init
set_option maxRecDepth 20000 in
theorem ggX5_init_X0_find : GoodIn wsX5_init wsX0_find := goodIn_r _ [69, 70, 71, 72, 43, 73, 74, 75, 10, 76, 77, 78, 79, 80, 81, 82, 83, 84, 85, 86, 87, 88, 89, 90, 91, 92, 93, 94, 95, 96, 97, 98, 99, 100, 101, 102, 103, 104, 105, 45, 106, 107, 108, 109, 110, 111, 112, 113, 114, 115, 133, 134, 135, 136, 137, 138, 139, 140, 141, 116, 117, 118, 119, 120, 121, 122, 123, 124, 125] (by decide +kernel) (by decide +kernel)
set_option maxRecDepth 20000 in
theorem gX5_init_X0_find : GoodIn wsX5_init (wsV RX5 52 RX0 yX0_find wsX0_find) := goodIn_app (goodIn_of _ (by decide +kernel)) ggX5_init_X0_find
theorem dX5_init_0 : decode cX5_init 0 = .ok (.aload_n 0, 1) := by decide +kernel
theorem dX5_init_1 : decode cX5_init 1 = .ok (.invokespecial 1, 3) := by decide +kernel
theorem dX5_init_4 : decode cX5_init 4 = .ok (.aload_n 0, 1) := by decide +kernel
theorem dX5_init_5 : decode cX5_init 5 = .ok (.new 7, 3) := by decide +kernel
theorem dX5_init_8 : decode cX5_init 8 = .ok (.dup, 1) := by decide +kernel
theorem dX5_init_9 : decode cX5_init 9 = .ok (.invokespecial 9, 3) := by decide +kernel
theorem dX5_init_12 : decode cX5_init 12 = .ok (.putfield 10, 3) := by decide +kernel
theorem dX5_init_15 : decode cX5_init 15 = .ok (.aload_n 0, 1) := by decide +kernel
theorem dX5_init_16 : decode cX5_init 16 = .ok (.new 16, 3) := by decide +kernel
theorem dX5_init_19 : decode cX5_init 19 = .ok (.dup, 1) := by decide +kernel
theorem dX5_init_20 : decode cX5_init 20 = .ok (.invokespecial 18, 3) := by decide +kernel
theorem dX5_init_23 : decode cX5_init 23 = .ok (.putfield 19, 3) := by decide +kernel
theorem dX5_init_26 : decode cX5_init 26 = .ok (.aload_n 0, 1) := by decide +kernel
theorem dX5_init_27 : decode cX5_init 27 = .ok (.new 7, 3) := by decide +kernel
theorem dX5_init_30 : decode cX5_init 30 = .ok (.dup, 1) := by decide +kernel
theorem dX5_init_31 : decode cX5_init 31 = .ok (.invokespecial 9, 3) := by decide +kernel
theorem dX5_init_34 : decode cX5_init 34 = .ok (.putfield 23, 3) := by decide +kernel
theorem dX5_init_37 : decode cX5_init 37 = .ok (.aload_n 0, 1) := by decide +kernel
theorem dX5_init_38 : decode cX5_init 38 = .ok (.new 16, 3) := by decide +kernel
theorem dX5_init_41 : decode cX5_init 41 = .ok (.dup, 1) := by decide +kernel
theorem dX5_init_42 : decode cX5_init 42 = .ok (.invokespecial 18, 3) := by decide +kernel
theorem dX5_init_45 : decode cX5_init 45 = .ok (.putfield 26, 3) := by decide +kernel
theorem dX5_init_48 : decode cX5_init 48 = .ok (.aload_n 0, 1) := by decide +kernel
theorem dX5_init_49 : decode cX5_init 49 = .ok (.new 29, 3) := by decide +kernel
theorem dX5_init_52 : decode cX5_init 52 = .ok (.dup, 1) := by decide +kernel
theorem dX5_init_53 : decode cX5_init 53 = .ok (.invokespecial 31, 3) := by decide +kernel
theorem dX5_init_56 : decode cX5_init 56 = .ok (.putfield 32, 3) := by decide +kernel
theorem dX5_init_59 : decode cX5_init 59 = .ok (.aload_n 0, 1) := by decide +kernel
theorem dX5_init_60 : decode cX5_init 60 = .ok (.new 36, 3) := by decide +kernel
theorem dX5_init_63 : decode cX5_init 63 = .ok (.dup, 1) := by decide +kernel
theorem dX5_init_64 : decode cX5_init 64 = .ok (.invokespecial 38, 3) := by decide +kernel
theorem dX5_init_67 : decode cX5_init 67 = .ok (.putfield 39, 3) := by decide +kernel
theorem dX5_init_70 : decode cX5_init 70 = .ok (.aload_n 0, 1) := by decide +kernel
theorem dX5_init_71 : decode cX5_init 71 = .ok (.new 43, 3) := by decide +kernel
theorem dX5_init_74 : decode cX5_init 74 = .ok (.dup, 1) := by decide +kernel
theorem dX5_init_75 : decode cX5_init 75 = .ok (.aload_n 0, 1) := by decide +kernel
theorem dX5_init_76 : decode cX5_init 76 = .ok (.getfield 39, 3) := by decide +kernel
theorem dX5_init_79 : decode cX5_init 79 = .ok (.invokespecial 45, 3) := by decide +kernel
theorem dX5_init_82 : decode cX5_init 82 = .ok (.putfield 48, 3) := by decide +kernel
theorem dX5_init_85 : decode cX5_init 85 = .ok (.aload_n 0, 1) := by decide +kernel
theorem dX5_init_86 : decode cX5_init 86 = .ok (.getfield 19, 3) := by decide +kernel
theorem dX5_init_89 : decode cX5_init 89 = .ok (.aload_n 0, 1) := by decide +kernel
theorem dX5_init_90 : decode cX5_init 90 = .ok (.getfield 10, 3) := by decide +kernel
theorem dX5_init_93 : decode cX5_init 93 = .ok (.invokevirtual 52, 3) := by decide +kernel
theorem dX5_init_96 : decode cX5_init 96 = .ok (.return_, 1) := by decide +kernel
set_option maxRecDepth 20000 in
theorem ggX5_addBlock_X5_isIn : GoodIn wsX5_addBlock wsX5_isIn := goodIn_r _ [10] (by decide +kernel) (by decide +kernel)
set_option maxRecDepth 20000 in
theorem gX5_addBlock_X5_isIn : GoodIn wsX5_addBlock (va_wsS RX5 56 yX5_isIn wsX5_isIn) := goodIn_app (goodIn_of _ (by decide +kernel)) ggX5_addBlock_X5_isIn
set_option maxRecDepth 20000 in
theorem ggX5_addBlock_X5_startTrial : GoodIn wsX5_addBlock wsX5_startTrial := goodIn_r _ [14, 6, 15, 16, 17, 18, 19, 20, 21, 22, 23, 24, 25, 26, 27, 28, 29, 30, 118, 119, 120, 121, 122, 123, 124, 125, 126, 127, 128, 129, 130, 131, 132, 133, 134] (by decide +kernel) (by decide +kernel)
set_option maxRecDepth 20000 in
theorem gX5_addBlock_X5_startTrial : GoodIn wsX5_addBlock (wsV RX5 68 RX5 yX5_startTrial wsX5_startTrial) := goodIn_app (goodIn_of _ (by decide +kernel)) ggX5_addBlock_X5_startTrial
set_option maxRecDepth 20000 in
theorem ggX5_addBlock_X1_add : GoodIn wsX5_addBlock wsX1_add := goodIn_r _ [34, 23, 26, 27, 28, 29, 30, 24, 125, 126, 127, 128, 129, 130, 131, 132, 133, 134] (by decide +kernel) (by decide +kernel)
set_option maxRecDepth 20000 in
theorem gX5_addBlock_X1_add : GoodIn wsX5_addBlock (wsV RX5 71 RX1 yX1_add wsX1_add) := goodIn_app (goodIn_of _ (by decide +kernel)) ggX5_addBlock_X1_add
set_option maxRecDepth 20000 in
theorem ggX5_addBlock_X5_keepTrial : GoodIn wsX5_addBlock wsX5_keepTrial := goodIn_r _ [38, 39, 15, 6, 40, 41, 42, 43, 44, 45, 46, 47, 48, 49, 19, 50, 51, 52, 53, 54, 55, 56, 57, 58, 59, 60, 61, 62, 63, 21, 22, 23, 24, 25, 64, 26, 27, 28, 29, 30, 65, 17, 18, 20, 16, 66, 67, 68, 69, 70, 71, 72, 73, 74, 75, 76, 77, 78, 79, 80, 81, 82, 83, 84, 85, 86, 87, 88, 89, 90, 91, 92, 93, 9, 94, 95, 96, 97, 98, 99, 100, 101, 102, 103, 104, 105, 106, 107, 108, 109, 110, 111, 112, 113, 114, 115, 116, 117, 118, 119, 120, 121, 122, 123, 124, 135, 136, 137, 125, 126, 127, 128, 129, 130, 131, 132, 133, 134, 138, 139, 140, 141, 142, 143, 144, 145, 146] (by decide +kernel) (by decide +kernel)
set_option maxRecDepth 20000 in
theorem gX5_addBlock_X5_keepTrial : GoodIn wsX5_addBlock (wsV RX5 80 RX5 yX5_keepTrial wsX5_keepTrial) := goodIn_app (goodIn_of _ (by decide +kernel)) ggX5_addBlock_X5_keepTrial
theorem dX5_addBlock_0 : decode cX5_addBlock 0 = .ok (.iload_n 1, 1) := by decide +kernel
theorem dX5_addBlock_1 : decode cX5_addBlock 1 = .ok (.iconst 0, 1) := by decide +kernel
theorem dX5_addBlock_2 : decode cX5_addBlock 2 = .ok (.sipush 400, 3) := by decide +kernel
theorem dX5_addBlock_5 : decode cX5_addBlock 5 = .ok (.invokestatic 56, 3) := by decide +kernel
theorem dX5_addBlock_8 : decode cX5_addBlock 8 = .ok (.ifCond .eq 35, 3) := by decide +kernel
theorem dX5_addBlock_11 : decode cX5_addBlock 11 = .ok (.iload_n 2, 1) := by decide +kernel
theorem dX5_addBlock_12 : decode cX5_addBlock 12 = .ok (.iconst 1, 1) := by decide +kernel
theorem dX5_addBlock_13 : decode cX5_addBlock 13 = .ok (.bipush 100, 2) := by decide +kernel
theorem dX5_addBlock_15 : decode cX5_addBlock 15 = .ok (.invokestatic 56, 3) := by decide +kernel
theorem dX5_addBlock_18 : decode cX5_addBlock 18 = .ok (.ifCond .eq 25, 3) := by decide +kernel
theorem dX5_addBlock_21 : decode cX5_addBlock 21 = .ok (.iload_n 3, 1) := by decide +kernel
theorem dX5_addBlock_22 : decode cX5_addBlock 22 = .ok (.bipush (-50), 2) := by decide +kernel
theorem dX5_addBlock_24 : decode cX5_addBlock 24 = .ok (.bipush 50, 2) := by decide +kernel
theorem dX5_addBlock_26 : decode cX5_addBlock 26 = .ok (.invokestatic 56, 3) := by decide +kernel
theorem dX5_addBlock_29 : decode cX5_addBlock 29 = .ok (.ifCond .eq 14, 3) := by decide +kernel
theorem dX5_addBlock_32 : decode cX5_addBlock 32 = .ok (.iload 4, 2) := by decide +kernel
theorem dX5_addBlock_34 : decode cX5_addBlock 34 = .ok (.iconst 1, 1) := by decide +kernel
theorem dX5_addBlock_35 : decode cX5_addBlock 35 = .ok (.ldc 60, 2) := by decide +kernel
theorem dX5_addBlock_37 : decode cX5_addBlock 37 = .ok (.invokestatic 56, 3) := by decide +kernel
theorem dX5_addBlock_40 : decode cX5_addBlock 40 = .ok (.ifCond .ne 13, 3) := by decide +kernel
theorem dX5_addBlock_43 : decode cX5_addBlock 43 = .ok (.new 61, 3) := by decide +kernel
theorem dX5_addBlock_46 : decode cX5_addBlock 46 = .ok (.dup, 1) := by decide +kernel
theorem dX5_addBlock_47 : decode cX5_addBlock 47 = .ok (.ldc 63, 2) := by decide +kernel
theorem dX5_addBlock_49 : decode cX5_addBlock 49 = .ok (.invokespecial 65, 3) := by decide +kernel
theorem dX5_addBlock_52 : decode cX5_addBlock 52 = .ok (.athrow, 1) := by decide +kernel
theorem dX5_addBlock_53 : decode cX5_addBlock 53 = .ok (.aload_n 0, 1) := by decide +kernel
theorem dX5_addBlock_54 : decode cX5_addBlock 54 = .ok (.invokevirtual 68, 3) := by decide +kernel
theorem dX5_addBlock_57 : decode cX5_addBlock 57 = .ok (.aload_n 0, 1) := by decide +kernel
theorem dX5_addBlock_58 : decode cX5_addBlock 58 = .ok (.getfield 23, 3) := by decide +kernel
theorem dX5_addBlock_61 : decode cX5_addBlock 61 = .ok (.iload_n 1, 1) := by decide +kernel
theorem dX5_addBlock_62 : decode cX5_addBlock 62 = .ok (.iload_n 2, 1) := by decide +kernel
theorem dX5_addBlock_63 : decode cX5_addBlock 63 = .ok (.iload_n 3, 1) := by decide +kernel
theorem dX5_addBlock_64 : decode cX5_addBlock 64 = .ok (.iload 4, 2) := by decide +kernel
theorem dX5_addBlock_66 : decode cX5_addBlock 66 = .ok (.invokevirtual 71, 3) := by decide +kernel
theorem dX5_addBlock_69 : decode cX5_addBlock 69 = .ok (.istore 5, 2) := by decide +kernel
theorem dX5_addBlock_71 : decode cX5_addBlock 71 = .ok (.iload 5, 2) := by decide +kernel
theorem dX5_addBlock_73 : decode cX5_addBlock 73 = .ok (.iconst (-1), 1) := by decide +kernel
theorem dX5_addBlock_74 : decode cX5_addBlock 74 = .ok (.if_icmp .ne 13, 3) := by decide +kernel
theorem dX5_addBlock_77 : decode cX5_addBlock 77 = .ok (.new 75, 3) := by decide +kernel
theorem dX5_addBlock_80 : decode cX5_addBlock 80 = .ok (.dup, 1) := by decide +kernel
theorem dX5_addBlock_81 : decode cX5_addBlock 81 = .ok (.ldc 77, 2) := by decide +kernel
theorem dX5_addBlock_83 : decode cX5_addBlock 83 = .ok (.invokespecial 79, 3) := by decide +kernel
theorem dX5_addBlock_86 : decode cX5_addBlock 86 = .ok (.athrow, 1) := by decide +kernel
theorem dX5_addBlock_87 : decode cX5_addBlock 87 = .ok (.aload_n 0, 1) := by decide +kernel
theorem dX5_addBlock_88 : decode cX5_addBlock 88 = .ok (.invokevirtual 80, 3) := by decide +kernel
theorem dX5_addBlock_91 : decode cX5_addBlock 91 = .ok (.iload 5, 2) := by decide +kernel
theorem dX5_addBlock_93 : decode cX5_addBlock 93 = .ok (.ireturn, 1) := by decide +kernel
set_option maxRecDepth 20000 in
theorem ggX5_setCap_X1_hasBlock : GoodIn wsX5_setCap wsX1_hasBlock := goodIn_r _ [12, 13, 125, 126, 127, 128, 129, 130, 131, 132, 133, 134] (by decide +kernel) (by decide +kernel)
set_option maxRecDepth 20000 in
theorem gX5_setCap_X1_hasBlock : GoodIn wsX5_setCap (wsV RX5 83 RX1 yX1_hasBlock wsX1_hasBlock) := goodIn_app (goodIn_of _ (by decide +kernel)) ggX5_setCap_X1_hasBlock
set_option maxRecDepth 20000 in
theorem ggX5_setCap_X5_isIn : GoodIn wsX5_setCap wsX5_isIn := goodIn_r _ [17] (by decide +kernel) (by decide +kernel)
set_option maxRecDepth 20000 in
theorem gX5_setCap_X5_isIn : GoodIn wsX5_setCap (va_wsS RX5 56 yX5_isIn wsX5_isIn) := goodIn_app (goodIn_of _ (by decide +kernel)) ggX5_setCap_X5_isIn
set_option maxRecDepth 20000 in
theorem ggX5_setCap_X5_startTrial : GoodIn wsX5_setCap wsX5_startTrial := goodIn_r _ [21, 7, 5, 22, 23, 24, 11, 25, 26, 27, 13, 28, 29, 30, 31, 32, 33, 34, 118, 119, 120, 121, 122, 123, 124, 125, 126, 127, 128, 129, 130, 131, 132, 133, 134] (by decide +kernel) (by decide +kernel)
set_option maxRecDepth 20000 in
theorem gX5_setCap_X5_startTrial : GoodIn wsX5_setCap (wsV RX5 68 RX5 yX5_startTrial wsX5_startTrial) := goodIn_app (goodIn_of _ (by decide +kernel)) ggX5_setCap_X5_startTrial
set_option maxRecDepth 20000 in
theorem ggX5_setCap_X5_keepTrial : GoodIn wsX5_setCap wsX5_keepTrial := goodIn_r _ [38, 39, 5, 7, 40, 41, 42, 43, 44, 45, 46, 47, 48, 49, 11, 50, 51, 52, 53, 54, 55, 56, 57, 58, 59, 60, 61, 62, 63, 26, 27, 13, 28, 29, 64, 30, 31, 32, 33, 34, 65, 23, 24, 25, 22, 66, 67, 68, 69, 70, 71, 72, 73, 74, 75, 76, 77, 78, 79, 80, 81, 82, 83, 84, 85, 86, 87, 88, 89, 90, 91, 92, 93, 16, 94, 95, 96, 97, 98, 99, 100, 101, 102, 103, 104, 105, 106, 107, 108, 109, 110, 111, 112, 113, 114, 115, 116, 117, 118, 119, 120, 121, 122, 123, 124, 135, 136, 137, 125, 126, 127, 128, 129, 130, 131, 132, 133, 134, 138, 139, 140, 141, 142, 143, 144, 145, 146] (by decide +kernel) (by decide +kernel)
set_option maxRecDepth 20000 in
theorem gX5_setCap_X5_keepTrial : GoodIn wsX5_setCap (wsV RX5 80 RX5 yX5_keepTrial wsX5_keepTrial) := goodIn_app (goodIn_of _ (by decide +kernel)) ggX5_setCap_X5_keepTrial
theorem dX5_setCap_0 : decode cX5_setCap 0 = .ok (.aload_n 0, 1) := by decide +kernel
theorem dX5_setCap_1 : decode cX5_setCap 1 = .ok (.getfield 10, 3) := by decide +kernel
theorem dX5_setCap_4 : decode cX5_setCap 4 = .ok (.iload_n 1, 1) := by decide +kernel
theorem dX5_setCap_5 : decode cX5_setCap 5 = .ok (.invokevirtual 83, 3) := by decide +kernel
theorem dX5_setCap_8 : decode cX5_setCap 8 = .ok (.ifCond .ne 13, 3) := by decide +kernel
theorem dX5_setCap_11 : decode cX5_setCap 11 = .ok (.new 87, 3) := by decide +kernel
theorem dX5_setCap_14 : decode cX5_setCap 14 = .ok (.dup, 1) := by decide +kernel
theorem dX5_setCap_15 : decode cX5_setCap 15 = .ok (.ldc 89, 2) := by decide +kernel
theorem dX5_setCap_17 : decode cX5_setCap 17 = .ok (.invokespecial 91, 3) := by decide +kernel
theorem dX5_setCap_20 : decode cX5_setCap 20 = .ok (.athrow, 1) := by decide +kernel
theorem dX5_setCap_21 : decode cX5_setCap 21 = .ok (.iload_n 2, 1) := by decide +kernel
theorem dX5_setCap_22 : decode cX5_setCap 22 = .ok (.bipush (-50), 2) := by decide +kernel
theorem dX5_setCap_24 : decode cX5_setCap 24 = .ok (.bipush 50, 2) := by decide +kernel
theorem dX5_setCap_26 : decode cX5_setCap 26 = .ok (.invokestatic 56, 3) := by decide +kernel
theorem dX5_setCap_29 : decode cX5_setCap 29 = .ok (.ifCond .ne 13, 3) := by decide +kernel
theorem dX5_setCap_32 : decode cX5_setCap 32 = .ok (.new 61, 3) := by decide +kernel
theorem dX5_setCap_35 : decode cX5_setCap 35 = .ok (.dup, 1) := by decide +kernel
theorem dX5_setCap_36 : decode cX5_setCap 36 = .ok (.ldc 92, 2) := by decide +kernel
theorem dX5_setCap_38 : decode cX5_setCap 38 = .ok (.invokespecial 65, 3) := by decide +kernel
theorem dX5_setCap_41 : decode cX5_setCap 41 = .ok (.athrow, 1) := by decide +kernel
theorem dX5_setCap_42 : decode cX5_setCap 42 = .ok (.aload_n 0, 1) := by decide +kernel
theorem dX5_setCap_43 : decode cX5_setCap 43 = .ok (.getfield 10, 3) := by decide +kernel
theorem dX5_setCap_46 : decode cX5_setCap 46 = .ok (.getfield 94, 3) := by decide +kernel
theorem dX5_setCap_49 : decode cX5_setCap 49 = .ok (.iload_n 1, 1) := by decide +kernel
theorem dX5_setCap_50 : decode cX5_setCap 50 = .ok (.iaload, 1) := by decide +kernel
theorem dX5_setCap_51 : decode cX5_setCap 51 = .ok (.istore_n 3, 1) := by decide +kernel
theorem dX5_setCap_52 : decode cX5_setCap 52 = .ok (.aload_n 0, 1) := by decide +kernel
theorem dX5_setCap_53 : decode cX5_setCap 53 = .ok (.invokevirtual 68, 3) := by decide +kernel
theorem dX5_setCap_56 : decode cX5_setCap 56 = .ok (.aload_n 0, 1) := by decide +kernel
theorem dX5_setCap_57 : decode cX5_setCap 57 = .ok (.getfield 23, 3) := by decide +kernel
theorem dX5_setCap_60 : decode cX5_setCap 60 = .ok (.getfield 94, 3) := by decide +kernel
theorem dX5_setCap_63 : decode cX5_setCap 63 = .ok (.iload_n 1, 1) := by decide +kernel
theorem dX5_setCap_64 : decode cX5_setCap 64 = .ok (.iload_n 2, 1) := by decide +kernel
theorem dX5_setCap_65 : decode cX5_setCap 65 = .ok (.iastore, 1) := by decide +kernel
theorem dX5_setCap_66 : decode cX5_setCap 66 = .ok (.aload_n 0, 1) := by decide +kernel
theorem dX5_setCap_67 : decode cX5_setCap 67 = .ok (.invokevirtual 80, 3) := by decide +kernel
theorem dX5_setCap_70 : decode cX5_setCap 70 = .ok (.iload_n 3, 1) := by decide +kernel
theorem dX5_setCap_71 : decode cX5_setCap 71 = .ok (.ireturn, 1) := by decide +kernel
set_option maxRecDepth 20000 in
theorem ggX5_setLimit_X1_hasBlock : GoodIn wsX5_setLimit wsX1_hasBlock := goodIn_r _ [13, 14, 126, 127, 128, 129, 130, 131, 132, 133, 134, 135] (by decide +kernel) (by decide +kernel)
set_option maxRecDepth 20000 in
theorem gX5_setLimit_X1_hasBlock : GoodIn wsX5_setLimit (wsV RX5 83 RX1 yX1_hasBlock wsX1_hasBlock) := goodIn_app (goodIn_of _ (by decide +kernel)) ggX5_setLimit_X1_hasBlock
set_option maxRecDepth 20000 in
theorem ggX5_setLimit_X5_isIn : GoodIn wsX5_setLimit wsX5_isIn := goodIn_r _ [18] (by decide +kernel) (by decide +kernel)
set_option maxRecDepth 20000 in
theorem gX5_setLimit_X5_isIn : GoodIn wsX5_setLimit (va_wsS RX5 56 yX5_isIn wsX5_isIn) := goodIn_app (goodIn_of _ (by decide +kernel)) ggX5_setLimit_X5_isIn
set_option maxRecDepth 20000 in
theorem ggX5_setLimit_X5_startTrial : GoodIn wsX5_setLimit wsX5_startTrial := goodIn_r _ [22, 8, 5, 23, 24, 25, 12, 26, 27, 28, 14, 29, 30, 31, 32, 33, 34, 35, 119, 120, 121, 122, 123, 124, 125, 126, 127, 128, 129, 130, 131, 132, 133, 134, 135] (by decide +kernel) (by decide +kernel)
set_option maxRecDepth 20000 in
theorem gX5_setLimit_X5_startTrial : GoodIn wsX5_setLimit (wsV RX5 68 RX5 yX5_startTrial wsX5_startTrial) := goodIn_app (goodIn_of _ (by decide +kernel)) ggX5_setLimit_X5_startTrial
set_option maxRecDepth 20000 in
theorem ggX5_setLimit_X5_keepTrial : GoodIn wsX5_setLimit wsX5_keepTrial := goodIn_r _ [39, 40, 5, 8, 41, 42, 43, 44, 45, 46, 47, 48, 49, 50, 12, 51, 52, 53, 54, 55, 56, 57, 58, 59, 60, 61, 62, 63, 64, 27, 28, 14, 29, 30, 65, 31, 32, 33, 34, 35, 66, 24, 25, 26, 23, 67, 68, 69, 70, 71, 72, 73, 74, 75, 76, 77, 78, 79, 80, 81, 82, 83, 84, 85, 86, 87, 88, 89, 90, 91, 92, 93, 94, 17, 95, 96, 97, 98, 99, 100, 101, 102, 103, 104, 105, 106, 107, 108, 109, 110, 111, 112, 113, 114, 115, 116, 117, 118, 119, 120, 121, 122, 123, 124, 125, 136, 137, 138, 126, 127, 128, 129, 130, 131, 132, 133, 134, 135, 139, 140, 141, 142, 143, 144, 145, 146, 147] (by decide +kernel) (by decide +kernel)
set_option maxRecDepth 20000 in
theorem gX5_setLimit_X5_keepTrial : GoodIn wsX5_setLimit (wsV RX5 80 RX5 yX5_keepTrial wsX5_keepTrial) := goodIn_app (goodIn_of _ (by decide +kernel)) ggX5_setLimit_X5_keepTrial
theorem dX5_setLimit_0 : decode cX5_setLimit 0 = .ok (.aload_n 0, 1) := by decide +kernel
theorem dX5_setLimit_1 : decode cX5_setLimit 1 = .ok (.getfield 10, 3) := by decide +kernel
theorem dX5_setLimit_4 : decode cX5_setLimit 4 = .ok (.iload_n 1, 1) := by decide +kernel
theorem dX5_setLimit_5 : decode cX5_setLimit 5 = .ok (.invokevirtual 83, 3) := by decide +kernel
theorem dX5_setLimit_8 : decode cX5_setLimit 8 = .ok (.ifCond .ne 13, 3) := by decide +kernel
theorem dX5_setLimit_11 : decode cX5_setLimit 11 = .ok (.new 87, 3) := by decide +kernel
theorem dX5_setLimit_14 : decode cX5_setLimit 14 = .ok (.dup, 1) := by decide +kernel
theorem dX5_setLimit_15 : decode cX5_setLimit 15 = .ok (.ldc 89, 2) := by decide +kernel
theorem dX5_setLimit_17 : decode cX5_setLimit 17 = .ok (.invokespecial 91, 3) := by decide +kernel
theorem dX5_setLimit_20 : decode cX5_setLimit 20 = .ok (.athrow, 1) := by decide +kernel
theorem dX5_setLimit_21 : decode cX5_setLimit 21 = .ok (.iload_n 2, 1) := by decide +kernel
theorem dX5_setLimit_22 : decode cX5_setLimit 22 = .ok (.iconst 1, 1) := by decide +kernel
theorem dX5_setLimit_23 : decode cX5_setLimit 23 = .ok (.ldc 60, 2) := by decide +kernel
theorem dX5_setLimit_25 : decode cX5_setLimit 25 = .ok (.invokestatic 56, 3) := by decide +kernel
theorem dX5_setLimit_28 : decode cX5_setLimit 28 = .ok (.ifCond .ne 13, 3) := by decide +kernel
theorem dX5_setLimit_31 : decode cX5_setLimit 31 = .ok (.new 61, 3) := by decide +kernel
theorem dX5_setLimit_34 : decode cX5_setLimit 34 = .ok (.dup, 1) := by decide +kernel
theorem dX5_setLimit_35 : decode cX5_setLimit 35 = .ok (.ldc 98, 2) := by decide +kernel
theorem dX5_setLimit_37 : decode cX5_setLimit 37 = .ok (.invokespecial 65, 3) := by decide +kernel
theorem dX5_setLimit_40 : decode cX5_setLimit 40 = .ok (.athrow, 1) := by decide +kernel
theorem dX5_setLimit_41 : decode cX5_setLimit 41 = .ok (.aload_n 0, 1) := by decide +kernel
theorem dX5_setLimit_42 : decode cX5_setLimit 42 = .ok (.getfield 10, 3) := by decide +kernel
theorem dX5_setLimit_45 : decode cX5_setLimit 45 = .ok (.getfield 100, 3) := by decide +kernel
theorem dX5_setLimit_48 : decode cX5_setLimit 48 = .ok (.iload_n 1, 1) := by decide +kernel
theorem dX5_setLimit_49 : decode cX5_setLimit 49 = .ok (.iaload, 1) := by decide +kernel
theorem dX5_setLimit_50 : decode cX5_setLimit 50 = .ok (.istore_n 3, 1) := by decide +kernel
theorem dX5_setLimit_51 : decode cX5_setLimit 51 = .ok (.aload_n 0, 1) := by decide +kernel
theorem dX5_setLimit_52 : decode cX5_setLimit 52 = .ok (.invokevirtual 68, 3) := by decide +kernel
theorem dX5_setLimit_55 : decode cX5_setLimit 55 = .ok (.aload_n 0, 1) := by decide +kernel
theorem dX5_setLimit_56 : decode cX5_setLimit 56 = .ok (.getfield 23, 3) := by decide +kernel
theorem dX5_setLimit_59 : decode cX5_setLimit 59 = .ok (.getfield 100, 3) := by decide +kernel
theorem dX5_setLimit_62 : decode cX5_setLimit 62 = .ok (.iload_n 1, 1) := by decide +kernel
theorem dX5_setLimit_63 : decode cX5_setLimit 63 = .ok (.iload_n 2, 1) := by decide +kernel
theorem dX5_setLimit_64 : decode cX5_setLimit 64 = .ok (.iastore, 1) := by decide +kernel
theorem dX5_setLimit_65 : decode cX5_setLimit 65 = .ok (.aload_n 0, 1) := by decide +kernel
theorem dX5_setLimit_66 : decode cX5_setLimit 66 = .ok (.invokevirtual 80, 3) := by decide +kernel
theorem dX5_setLimit_69 : decode cX5_setLimit 69 = .ok (.iload_n 3, 1) := by decide +kernel
theorem dX5_setLimit_70 : decode cX5_setLimit 70 = .ok (.ireturn, 1) := by decide +kernel
set_option maxRecDepth 20000 in
theorem ggX5_setShip_X5_isIn : GoodIn wsX5_setShip wsX5_isIn := goodIn_r _ [11] (by decide +kernel) (by decide +kernel)
set_option maxRecDepth 20000 in
theorem gX5_setShip_X5_isIn : GoodIn wsX5_setShip (va_wsS RX5 56 yX5_isIn wsX5_isIn) := goodIn_app (goodIn_of _ (by decide +kernel)) ggX5_setShip_X5_isIn
set_option maxRecDepth 20000 in
theorem ggX5_setShip_X5_startTrial : GoodIn wsX5_setShip wsX5_startTrial := goodIn_r _ [15, 6, 4, 16, 17, 18, 19, 20, 21, 22, 23, 24, 25, 26, 27, 28, 29, 30, 114, 115, 116, 117, 118, 119, 120, 121, 122, 123, 124, 125, 126, 127, 128, 129, 130] (by decide +kernel) (by decide +kernel)
set_option maxRecDepth 20000 in
theorem gX5_setShip_X5_startTrial : GoodIn wsX5_setShip (wsV RX5 68 RX5 yX5_startTrial wsX5_startTrial) := goodIn_app (goodIn_of _ (by decide +kernel)) ggX5_setShip_X5_startTrial
set_option maxRecDepth 20000 in
theorem ggX5_setShip_X5_keepTrial : GoodIn wsX5_setShip wsX5_keepTrial := goodIn_r _ [34, 35, 4, 6, 36, 37, 38, 39, 40, 41, 42, 43, 44, 45, 19, 46, 47, 48, 49, 50, 51, 52, 53, 54, 55, 56, 57, 58, 59, 21, 22, 23, 24, 25, 60, 26, 27, 28, 29, 30, 61, 17, 18, 20, 16, 62, 63, 64, 65, 66, 67, 68, 69, 70, 71, 72, 73, 74, 75, 76, 77, 78, 79, 80, 81, 82, 83, 84, 85, 86, 87, 88, 89, 10, 90, 91, 92, 93, 94, 95, 96, 97, 98, 99, 100, 101, 102, 103, 104, 105, 106, 107, 108, 109, 110, 111, 112, 113, 114, 115, 116, 117, 118, 119, 120, 131, 132, 133, 121, 122, 123, 124, 125, 126, 127, 128, 129, 130, 134, 135, 136, 137, 138, 139, 140, 141, 142] (by decide +kernel) (by decide +kernel)
set_option maxRecDepth 20000 in
theorem gX5_setShip_X5_keepTrial : GoodIn wsX5_setShip (wsV RX5 80 RX5 yX5_keepTrial wsX5_keepTrial) := goodIn_app (goodIn_of _ (by decide +kernel)) ggX5_setShip_X5_keepTrial
theorem dX5_setShip_0 : decode cX5_setShip 0 = .ok (.iload_n 1, 1) := by decide +kernel
theorem dX5_setShip_1 : decode cX5_setShip 1 = .ok (.iconst 1, 1) := by decide +kernel
theorem dX5_setShip_2 : decode cX5_setShip 2 = .ok (.ldc 103, 2) := by decide +kernel
theorem dX5_setShip_4 : decode cX5_setShip 4 = .ok (.invokestatic 56, 3) := by decide +kernel
theorem dX5_setShip_7 : decode cX5_setShip 7 = .ok (.ifCond .eq 14, 3) := by decide +kernel
theorem dX5_setShip_10 : decode cX5_setShip 10 = .ok (.iload_n 2, 1) := by decide +kernel
theorem dX5_setShip_11 : decode cX5_setShip 11 = .ok (.iconst 0, 1) := by decide +kernel
theorem dX5_setShip_12 : decode cX5_setShip 12 = .ok (.sipush 400, 3) := by decide +kernel
theorem dX5_setShip_15 : decode cX5_setShip 15 = .ok (.invokestatic 56, 3) := by decide +kernel
theorem dX5_setShip_18 : decode cX5_setShip 18 = .ok (.ifCond .ne 13, 3) := by decide +kernel
theorem dX5_setShip_21 : decode cX5_setShip 21 = .ok (.new 61, 3) := by decide +kernel
theorem dX5_setShip_24 : decode cX5_setShip 24 = .ok (.dup, 1) := by decide +kernel
theorem dX5_setShip_25 : decode cX5_setShip 25 = .ok (.ldc 104, 2) := by decide +kernel
theorem dX5_setShip_27 : decode cX5_setShip 27 = .ok (.invokespecial 65, 3) := by decide +kernel
theorem dX5_setShip_30 : decode cX5_setShip 30 = .ok (.athrow, 1) := by decide +kernel
theorem dX5_setShip_31 : decode cX5_setShip 31 = .ok (.aload_n 0, 1) := by decide +kernel
theorem dX5_setShip_32 : decode cX5_setShip 32 = .ok (.getfield 10, 3) := by decide +kernel
theorem dX5_setShip_35 : decode cX5_setShip 35 = .ok (.getfield 106, 3) := by decide +kernel
theorem dX5_setShip_38 : decode cX5_setShip 38 = .ok (.istore_n 3, 1) := by decide +kernel
theorem dX5_setShip_39 : decode cX5_setShip 39 = .ok (.aload_n 0, 1) := by decide +kernel
theorem dX5_setShip_40 : decode cX5_setShip 40 = .ok (.invokevirtual 68, 3) := by decide +kernel
theorem dX5_setShip_43 : decode cX5_setShip 43 = .ok (.aload_n 0, 1) := by decide +kernel
theorem dX5_setShip_44 : decode cX5_setShip 44 = .ok (.getfield 23, 3) := by decide +kernel
theorem dX5_setShip_47 : decode cX5_setShip 47 = .ok (.iload_n 1, 1) := by decide +kernel
theorem dX5_setShip_48 : decode cX5_setShip 48 = .ok (.putfield 106, 3) := by decide +kernel
theorem dX5_setShip_51 : decode cX5_setShip 51 = .ok (.aload_n 0, 1) := by decide +kernel
theorem dX5_setShip_52 : decode cX5_setShip 52 = .ok (.getfield 23, 3) := by decide +kernel
theorem dX5_setShip_55 : decode cX5_setShip 55 = .ok (.iload_n 2, 1) := by decide +kernel
theorem dX5_setShip_56 : decode cX5_setShip 56 = .ok (.putfield 110, 3) := by decide +kernel
theorem dX5_setShip_59 : decode cX5_setShip 59 = .ok (.aload_n 0, 1) := by decide +kernel
theorem dX5_setShip_60 : decode cX5_setShip 60 = .ok (.invokevirtual 80, 3) := by decide +kernel
theorem dX5_setShip_63 : decode cX5_setShip 63 = .ok (.iload_n 3, 1) := by decide +kernel
theorem dX5_setShip_64 : decode cX5_setShip 64 = .ok (.ireturn, 1) := by decide +kernel
set_option maxRecDepth 20000 in
theorem ggX5_pull_X1_hasBlock : GoodIn wsX5_pull wsX1_hasBlock := goodIn_r _ [11, 12, 143, 144, 145, 146, 147, 148, 149, 150, 151, 152] (by decide +kernel) (by decide +kernel)
set_option maxRecDepth 20000 in
theorem gX5_pull_X1_hasBlock : GoodIn wsX5_pull (wsV RX5 83 RX1 yX1_hasBlock wsX1_hasBlock) := goodIn_app (goodIn_of _ (by decide +kernel)) ggX5_pull_X1_hasBlock
set_option maxRecDepth 20000 in
theorem ggX5_pull_X5_canPull : GoodIn wsX5_pull wsX5_canPull := goodIn_r _ [17, 5, 18, 19, 20, 21, 22, 16, 23, 24, 25, 26, 27, 28, 29, 30, 10, 31, 32, 33, 12, 34, 35, 36, 37, 38, 39, 40, 41, 42, 43, 44, 45, 46, 47, 48, 49, 50, 51, 52, 53, 54, 55, 56, 57, 58, 59, 60, 61, 62, 63, 64, 65, 66, 67, 68, 69, 70, 71, 72, 73, 74, 75, 76, 77, 78, 79, 80, 81, 82, 83, 84, 85, 86, 87, 88, 89, 90, 91, 92, 93, 94, 95, 96, 97, 98, 136, 137, 138, 139, 140, 141, 142, 143, 144, 145, 146, 147, 148, 149, 150, 151, 152, 153, 154, 155, 156, 157, 158, 159, 160, 161] (by decide +kernel) (by decide +kernel)
set_option maxRecDepth 20000 in
theorem gX5_pull_X5_canPull : GoodIn wsX5_pull (wsV RX5 113 RX5 yX5_canPull wsX5_canPull) := goodIn_app (goodIn_of _ (by decide +kernel)) ggX5_pull_X5_canPull
set_option maxRecDepth 20000 in
theorem ggX5_pull_X5_keepTrial : GoodIn wsX5_pull wsX5_keepTrial := goodIn_r _ [102, 103, 5, 19, 6, 104, 105, 106, 107, 108, 109, 110, 111, 112, 10, 113, 114, 115, 116, 117, 118, 119, 120, 121, 122, 123, 124, 125, 126, 32, 33, 12, 34, 35, 127, 36, 37, 38, 39, 40, 128, 29, 30, 31, 28, 45, 46, 47, 48, 49, 50, 51, 52, 53, 54, 55, 56, 57, 58, 59, 60, 61, 62, 63, 64, 65, 66, 67, 68, 69, 70, 71, 22, 16, 23, 72, 73, 74, 75, 76, 77, 78, 79, 80, 81, 82, 83, 84, 85, 86, 87, 88, 89, 90, 91, 92, 93, 94, 136, 137, 138, 139, 140, 141, 142, 162, 163, 164, 143, 144, 145, 146, 147, 148, 149, 150, 151, 152, 153, 154, 155, 156, 157, 158, 159, 160, 161] (by decide +kernel) (by decide +kernel)
set_option maxRecDepth 20000 in
theorem gX5_pull_X5_keepTrial : GoodIn wsX5_pull (wsV RX5 80 RX5 yX5_keepTrial wsX5_keepTrial) := goodIn_app (goodIn_of _ (by decide +kernel)) ggX5_pull_X5_keepTrial
set_option maxRecDepth 20000 in
theorem ggX5_pull_X0_greatestLoad : GoodIn wsX5_pull wsX0_greatestLoad := goodIn_r _ [132, 53, 133, 134, 116, 135, 153, 154, 155, 156, 157, 158, 159, 160, 161] (by decide +kernel) (by decide +kernel)
set_option maxRecDepth 20000 in
theorem gX5_pull_X0_greatestLoad : GoodIn wsX5_pull (wsV RX5 118 RX0 yX0_greatestLoad wsX0_greatestLoad) := goodIn_app (goodIn_of _ (by decide +kernel)) ggX5_pull_X0_greatestLoad
theorem dX5_pull_0 : decode cX5_pull 0 = .ok (.aload_n 0, 1) := by decide +kernel
theorem dX5_pull_1 : decode cX5_pull 1 = .ok (.getfield 10, 3) := by decide +kernel
theorem dX5_pull_4 : decode cX5_pull 4 = .ok (.iload_n 1, 1) := by decide +kernel
theorem dX5_pull_5 : decode cX5_pull 5 = .ok (.invokevirtual 83, 3) := by decide +kernel
theorem dX5_pull_8 : decode cX5_pull 8 = .ok (.ifCond .ne 13, 3) := by decide +kernel
theorem dX5_pull_11 : decode cX5_pull 11 = .ok (.new 87, 3) := by decide +kernel
theorem dX5_pull_14 : decode cX5_pull 14 = .ok (.dup, 1) := by decide +kernel
theorem dX5_pull_15 : decode cX5_pull 15 = .ok (.ldc 89, 2) := by decide +kernel
theorem dX5_pull_17 : decode cX5_pull 17 = .ok (.invokespecial 91, 3) := by decide +kernel
theorem dX5_pull_20 : decode cX5_pull 20 = .ok (.athrow, 1) := by decide +kernel
theorem dX5_pull_21 : decode cX5_pull 21 = .ok (.aload_n 0, 1) := by decide +kernel
theorem dX5_pull_22 : decode cX5_pull 22 = .ok (.iload_n 1, 1) := by decide +kernel
theorem dX5_pull_23 : decode cX5_pull 23 = .ok (.invokevirtual 113, 3) := by decide +kernel
theorem dX5_pull_26 : decode cX5_pull 26 = .ok (.ifCond .ne 13, 3) := by decide +kernel
theorem dX5_pull_29 : decode cX5_pull 29 = .ok (.new 75, 3) := by decide +kernel
theorem dX5_pull_32 : decode cX5_pull 32 = .ok (.dup, 1) := by decide +kernel
theorem dX5_pull_33 : decode cX5_pull 33 = .ok (.ldc 116, 2) := by decide +kernel
theorem dX5_pull_35 : decode cX5_pull 35 = .ok (.invokespecial 79, 3) := by decide +kernel
theorem dX5_pull_38 : decode cX5_pull 38 = .ok (.athrow, 1) := by decide +kernel
theorem dX5_pull_39 : decode cX5_pull 39 = .ok (.aload_n 0, 1) := by decide +kernel
theorem dX5_pull_40 : decode cX5_pull 40 = .ok (.invokevirtual 80, 3) := by decide +kernel
theorem dX5_pull_43 : decode cX5_pull 43 = .ok (.aload_n 0, 1) := by decide +kernel
theorem dX5_pull_44 : decode cX5_pull 44 = .ok (.getfield 19, 3) := by decide +kernel
theorem dX5_pull_47 : decode cX5_pull 47 = .ok (.invokevirtual 118, 3) := by decide +kernel
theorem dX5_pull_50 : decode cX5_pull 50 = .ok (.ireturn, 1) := by decide +kernel
set_option maxRecDepth 20000 in
theorem ggX5_put_X1_hasBlock : GoodIn wsX5_put wsX1_hasBlock := goodIn_r _ [15, 16, 129, 130, 131, 132, 133, 134, 135, 136, 137, 138] (by decide +kernel) (by decide +kernel)
set_option maxRecDepth 20000 in
theorem gX5_put_X1_hasBlock : GoodIn wsX5_put (wsV RX5 83 RX1 yX1_hasBlock wsX1_hasBlock) := goodIn_app (goodIn_of _ (by decide +kernel)) ggX5_put_X1_hasBlock
set_option maxRecDepth 20000 in
theorem ggX5_put_X5_isMember : GoodIn wsX5_put wsX5_isMember := goodIn_r _ [20] (by decide +kernel) (by decide +kernel)
set_option maxRecDepth 20000 in
theorem gX5_put_X5_isMember : GoodIn wsX5_put (va_wsS RX5 125 yX5_isMember wsX5_isMember) := goodIn_app (goodIn_of _ (by decide +kernel)) ggX5_put_X5_isMember
set_option maxRecDepth 20000 in
theorem ggX5_put_X5_startTrial : GoodIn wsX5_put wsX5_startTrial := goodIn_r _ [24, 7, 5, 25, 26, 27, 14, 28, 29, 30, 16, 31, 32, 33, 34, 35, 36, 37, 122, 123, 124, 125, 126, 127, 128, 129, 130, 131, 132, 133, 134, 135, 136, 137, 138] (by decide +kernel) (by decide +kernel)
set_option maxRecDepth 20000 in
theorem gX5_put_X5_startTrial : GoodIn wsX5_put (wsV RX5 68 RX5 yX5_startTrial wsX5_startTrial) := goodIn_app (goodIn_of _ (by decide +kernel)) ggX5_put_X5_startTrial
set_option maxRecDepth 20000 in
theorem ggX5_put_X1_putBack : GoodIn wsX5_put wsX1_putBack := goodIn_r _ [41, 31, 32, 129, 130, 131, 132, 133, 134, 135, 136, 137, 138] (by decide +kernel) (by decide +kernel)
set_option maxRecDepth 20000 in
theorem gX5_put_X1_putBack : GoodIn wsX5_put (wsV RX5 131 RX1 yX1_putBack wsX1_putBack) := goodIn_app (goodIn_of _ (by decide +kernel)) ggX5_put_X1_putBack
set_option maxRecDepth 20000 in
theorem ggX5_put_X5_keepTrial : GoodIn wsX5_put wsX5_keepTrial := goodIn_r _ [45, 46, 5, 7, 8, 47, 48, 49, 50, 51, 52, 53, 54, 55, 14, 56, 57, 58, 59, 60, 61, 62, 63, 64, 65, 66, 67, 68, 69, 29, 30, 16, 31, 32, 70, 33, 34, 35, 36, 37, 71, 26, 27, 28, 25, 72, 73, 74, 75, 76, 77, 78, 79, 80, 81, 82, 83, 84, 85, 86, 87, 88, 89, 90, 91, 92, 93, 94, 95, 96, 97, 98, 18, 19, 20, 99, 100, 101, 102, 103, 104, 105, 106, 107, 108, 109, 110, 111, 112, 113, 114, 115, 116, 117, 118, 119, 120, 121, 122, 123, 124, 125, 126, 127, 128, 148, 149, 150, 129, 130, 131, 132, 133, 134, 135, 136, 137, 138, 139, 140, 141, 142, 143, 144, 145, 146, 147] (by decide +kernel) (by decide +kernel)
set_option maxRecDepth 20000 in
theorem gX5_put_X5_keepTrial : GoodIn wsX5_put (wsV RX5 80 RX5 yX5_keepTrial wsX5_keepTrial) := goodIn_app (goodIn_of _ (by decide +kernel)) ggX5_put_X5_keepTrial
theorem dX5_put_0 : decode cX5_put 0 = .ok (.aload_n 0, 1) := by decide +kernel
theorem dX5_put_1 : decode cX5_put 1 = .ok (.getfield 10, 3) := by decide +kernel
theorem dX5_put_4 : decode cX5_put 4 = .ok (.iload_n 1, 1) := by decide +kernel
theorem dX5_put_5 : decode cX5_put 5 = .ok (.invokevirtual 83, 3) := by decide +kernel
theorem dX5_put_8 : decode cX5_put 8 = .ok (.ifCond .ne 13, 3) := by decide +kernel
theorem dX5_put_11 : decode cX5_put 11 = .ok (.new 87, 3) := by decide +kernel
theorem dX5_put_14 : decode cX5_put 14 = .ok (.dup, 1) := by decide +kernel
theorem dX5_put_15 : decode cX5_put 15 = .ok (.ldc 89, 2) := by decide +kernel
theorem dX5_put_17 : decode cX5_put 17 = .ok (.invokespecial 91, 3) := by decide +kernel
theorem dX5_put_20 : decode cX5_put 20 = .ok (.athrow, 1) := by decide +kernel
theorem dX5_put_21 : decode cX5_put 21 = .ok (.aload_n 0, 1) := by decide +kernel
theorem dX5_put_22 : decode cX5_put 22 = .ok (.getfield 10, 3) := by decide +kernel
theorem dX5_put_25 : decode cX5_put 25 = .ok (.getfield 122, 3) := by decide +kernel
theorem dX5_put_28 : decode cX5_put 28 = .ok (.iload_n 1, 1) := by decide +kernel
theorem dX5_put_29 : decode cX5_put 29 = .ok (.invokestatic 125, 3) := by decide +kernel
theorem dX5_put_32 : decode cX5_put 32 = .ok (.ifCond .eq 13, 3) := by decide +kernel
theorem dX5_put_35 : decode cX5_put 35 = .ok (.new 75, 3) := by decide +kernel
theorem dX5_put_38 : decode cX5_put 38 = .ok (.dup, 1) := by decide +kernel
theorem dX5_put_39 : decode cX5_put 39 = .ok (.ldc 129, 2) := by decide +kernel
theorem dX5_put_41 : decode cX5_put 41 = .ok (.invokespecial 79, 3) := by decide +kernel
theorem dX5_put_44 : decode cX5_put 44 = .ok (.athrow, 1) := by decide +kernel
theorem dX5_put_45 : decode cX5_put 45 = .ok (.aload_n 0, 1) := by decide +kernel
theorem dX5_put_46 : decode cX5_put 46 = .ok (.invokevirtual 68, 3) := by decide +kernel
theorem dX5_put_49 : decode cX5_put 49 = .ok (.aload_n 0, 1) := by decide +kernel
theorem dX5_put_50 : decode cX5_put 50 = .ok (.getfield 23, 3) := by decide +kernel
theorem dX5_put_53 : decode cX5_put 53 = .ok (.iload_n 1, 1) := by decide +kernel
theorem dX5_put_54 : decode cX5_put 54 = .ok (.invokevirtual 131, 3) := by decide +kernel
theorem dX5_put_57 : decode cX5_put 57 = .ok (.aload_n 0, 1) := by decide +kernel
theorem dX5_put_58 : decode cX5_put 58 = .ok (.invokevirtual 80, 3) := by decide +kernel
theorem dX5_put_61 : decode cX5_put 61 = .ok (.aload_n 0, 1) := by decide +kernel
theorem dX5_put_62 : decode cX5_put 62 = .ok (.getfield 19, 3) := by decide +kernel
theorem dX5_put_65 : decode cX5_put 65 = .ok (.getfield 135, 3) := by decide +kernel
theorem dX5_put_68 : decode cX5_put 68 = .ok (.ifCond .eq 15, 3) := by decide +kernel
theorem dX5_put_71 : decode cX5_put 71 = .ok (.aload_n 0, 1) := by decide +kernel
theorem dX5_put_72 : decode cX5_put 72 = .ok (.getfield 19, 3) := by decide +kernel
theorem dX5_put_75 : decode cX5_put 75 = .ok (.getfield 139, 3) := by decide +kernel
theorem dX5_put_78 : decode cX5_put 78 = .ok (.iload_n 1, 1) := by decide +kernel
theorem dX5_put_79 : decode cX5_put 79 = .ok (.iaload, 1) := by decide +kernel
theorem dX5_put_80 : decode cX5_put 80 = .ok (.goto 4, 3) := by decide +kernel
theorem dX5_put_83 : decode cX5_put 83 = .ok (.iconst (-1), 1) := by decide +kernel
theorem dX5_put_84 : decode cX5_put 84 = .ok (.ireturn, 1) := by decide +kernel
set_option maxRecDepth 20000 in
theorem ggX5_cascade_X5_tryCascade : GoodIn wsX5_cascade wsX5_tryCascade := goodIn_r _ [8, 9, 3, 10, 11, 12, 13, 7, 14, 1, 15, 16, 17, 18, 19, 20, 21, 22, 23, 24, 25, 26, 27, 28, 29, 30, 31, 32, 33, 34, 35, 36, 37, 38, 39, 40, 41, 42, 43, 44, 45, 46, 47, 48, 49, 50, 51, 52, 53, 54, 55, 56, 57, 58, 59, 60, 61, 62, 63, 64, 65, 66, 67, 68, 69, 70, 71, 72, 73, 74, 75, 76, 77, 78, 79, 80, 81, 82, 83, 84, 85, 124, 125, 126, 127, 128, 129, 130, 141, 142, 143, 144, 145, 146, 147, 148, 149, 131, 132, 133, 134, 135, 136, 137, 138, 139, 140] (by decide +kernel) (by decide +kernel)
set_option maxRecDepth 20000 in
theorem gX5_cascade_X5_tryCascade : GoodIn wsX5_cascade (wsV RX5 142 RX5 yX5_tryCascade wsX5_tryCascade) := goodIn_app (goodIn_of _ (by decide +kernel)) ggX5_cascade_X5_tryCascade
set_option maxRecDepth 20000 in
theorem ggX5_cascade_J6_bitCount_0f7a4 : GoodIn wsX5_cascade wsJ6_bitCount_0f7a4 := goodIn_r _ [89, 90, 91, 92] (by decide +kernel) (by decide +kernel)
set_option maxRecDepth 20000 in
theorem gX5_cascade_J6_bitCount_0f7a4 : GoodIn wsX5_cascade (va_wsS RX5 145 yJ6_bitCount_0f7a4 wsJ6_bitCount_0f7a4) := goodIn_app (goodIn_of _ (by decide +kernel)) ggX5_cascade_J6_bitCount_0f7a4
set_option maxRecDepth 20000 in
theorem ggX5_cascade_X5_keepTrial : GoodIn wsX5_cascade wsX5_keepTrial := goodIn_r _ [96, 97, 1, 3, 98, 99, 100, 101, 102, 103, 104, 105, 106, 107, 18, 108, 109, 110, 111, 112, 113, 114, 115, 116, 117, 118, 119, 120, 121, 20, 21, 22, 23, 24, 122, 25, 26, 27, 28, 29, 123, 16, 17, 19, 15, 30, 31, 32, 33, 34, 35, 36, 37, 38, 39, 40, 41, 42, 43, 44, 45, 46, 47, 48, 49, 50, 51, 52, 53, 54, 55, 56, 57, 7, 58, 59, 60, 61, 62, 63, 64, 65, 66, 67, 68, 69, 70, 71, 72, 73, 74, 75, 76, 77, 78, 79, 80, 81, 124, 125, 126, 127, 128, 129, 130, 150, 151, 152, 131, 132, 133, 134, 135, 136, 137, 138, 139, 140, 141, 142, 143, 144, 145, 146, 147, 148, 149] (by decide +kernel) (by decide +kernel)
set_option maxRecDepth 20000 in
theorem gX5_cascade_X5_keepTrial : GoodIn wsX5_cascade (wsV RX5 80 RX5 yX5_keepTrial wsX5_keepTrial) := goodIn_app (goodIn_of _ (by decide +kernel)) ggX5_cascade_X5_keepTrial
theorem dX5_cascade_0 : decode cX5_cascade 0 = .ok (.aload_n 0, 1) := by decide +kernel
theorem dX5_cascade_1 : decode cX5_cascade 1 = .ok (.invokevirtual 142, 3) := by decide +kernel
theorem dX5_cascade_4 : decode cX5_cascade 4 = .ok (.pop, 1) := by decide +kernel
theorem dX5_cascade_5 : decode cX5_cascade 5 = .ok (.aload_n 0, 1) := by decide +kernel
theorem dX5_cascade_6 : decode cX5_cascade 6 = .ok (.getfield 10, 3) := by decide +kernel
theorem dX5_cascade_9 : decode cX5_cascade 9 = .ok (.getfield 122, 3) := by decide +kernel
theorem dX5_cascade_12 : decode cX5_cascade 12 = .ok (.invokestatic 145, 3) := by decide +kernel
theorem dX5_cascade_15 : decode cX5_cascade 15 = .ok (.aload_n 0, 1) := by decide +kernel
theorem dX5_cascade_16 : decode cX5_cascade 16 = .ok (.getfield 23, 3) := by decide +kernel
theorem dX5_cascade_19 : decode cX5_cascade 19 = .ok (.getfield 122, 3) := by decide +kernel
theorem dX5_cascade_22 : decode cX5_cascade 22 = .ok (.invokestatic 145, 3) := by decide +kernel
theorem dX5_cascade_25 : decode cX5_cascade 25 = .ok (.isub, 1) := by decide +kernel
theorem dX5_cascade_26 : decode cX5_cascade 26 = .ok (.istore_n 1, 1) := by decide +kernel
theorem dX5_cascade_27 : decode cX5_cascade 27 = .ok (.aload_n 0, 1) := by decide +kernel
theorem dX5_cascade_28 : decode cX5_cascade 28 = .ok (.invokevirtual 80, 3) := by decide +kernel
theorem dX5_cascade_31 : decode cX5_cascade 31 = .ok (.iload_n 1, 1) := by decide +kernel
theorem dX5_cascade_32 : decode cX5_cascade 32 = .ok (.ireturn, 1) := by decide +kernel
set_option maxRecDepth 20000 in
theorem ggX5_shave_X5_tryShaving : GoodIn wsX5_shave wsX5_tryShaving := goodIn_r _ [5, 6, 7, 8, 9, 10, 4, 11, 12, 13, 14, 15, 16, 17, 18, 19, 20, 21, 22, 23, 24, 25, 26, 27, 28, 29, 30, 31, 32, 33, 34, 35, 36, 37, 38, 39, 40, 41, 42, 43, 44, 45, 46, 47, 48, 49, 50, 51, 52, 53, 54, 55, 56, 57, 58, 59, 60, 61, 62, 63, 64, 65, 66, 67, 68, 69, 70, 71, 72, 73, 74, 75, 76, 77, 78, 79, 80, 81, 82, 83, 84, 85, 86, 87, 88, 89, 90, 91, 123, 124, 125, 126, 127, 128, 129, 130, 131, 132, 133, 134, 135, 136, 137, 138, 139, 140, 141, 142, 143, 144, 145, 146, 147, 148] (by decide +kernel) (by decide +kernel)
set_option maxRecDepth 20000 in
theorem gX5_shave_X5_tryShaving : GoodIn wsX5_shave (wsV RX5 151 RX5 yX5_tryShaving wsX5_tryShaving) := goodIn_app (goodIn_of _ (by decide +kernel)) ggX5_shave_X5_tryShaving
set_option maxRecDepth 20000 in
theorem ggX5_shave_X5_keepTrial : GoodIn wsX5_shave wsX5_keepTrial := goodIn_r _ [95, 96, 12, 7, 97, 98, 99, 100, 101, 102, 103, 104, 105, 106, 16, 107, 108, 109, 110, 111, 112, 113, 114, 115, 116, 117, 118, 119, 120, 18, 19, 20, 21, 22, 121, 23, 24, 25, 26, 27, 122, 14, 15, 17, 13, 28, 29, 30, 31, 32, 33, 34, 35, 36, 37, 38, 39, 40, 41, 42, 43, 44, 45, 46, 47, 48, 49, 50, 51, 52, 53, 54, 55, 4, 56, 57, 58, 59, 60, 61, 62, 63, 64, 65, 66, 67, 68, 69, 70, 71, 72, 73, 74, 75, 76, 77, 78, 79, 123, 124, 125, 126, 127, 128, 129, 149, 150, 151, 130, 131, 132, 133, 134, 135, 136, 137, 138, 139, 140, 141, 142, 143, 144, 145, 146, 147, 148] (by decide +kernel) (by decide +kernel)
set_option maxRecDepth 20000 in
theorem gX5_shave_X5_keepTrial : GoodIn wsX5_shave (wsV RX5 80 RX5 yX5_keepTrial wsX5_keepTrial) := goodIn_app (goodIn_of _ (by decide +kernel)) ggX5_shave_X5_keepTrial
theorem dX5_shave_0 : decode cX5_shave 0 = .ok (.aload_n 0, 1) := by decide +kernel
theorem dX5_shave_1 : decode cX5_shave 1 = .ok (.invokevirtual 151, 3) := by decide +kernel
theorem dX5_shave_4 : decode cX5_shave 4 = .ok (.istore_n 1, 1) := by decide +kernel
theorem dX5_shave_5 : decode cX5_shave 5 = .ok (.aload_n 0, 1) := by decide +kernel
theorem dX5_shave_6 : decode cX5_shave 6 = .ok (.invokevirtual 80, 3) := by decide +kernel
theorem dX5_shave_9 : decode cX5_shave 9 = .ok (.iload_n 1, 1) := by decide +kernel
theorem dX5_shave_10 : decode cX5_shave 10 = .ok (.ireturn, 1) := by decide +kernel
set_option maxRecDepth 20000 in
theorem ggX5_block_X1_hasBlock : GoodIn wsX5_block wsX1_hasBlock := goodIn_r _ [19, 20, 38, 39, 40, 41, 42, 43, 44, 45, 46, 47] (by decide +kernel) (by decide +kernel)
set_option maxRecDepth 20000 in
theorem gX5_block_X1_hasBlock : GoodIn wsX5_block (wsV RX5 83 RX1 yX1_hasBlock wsX1_hasBlock) := goodIn_app (goodIn_of _ (by decide +kernel)) ggX5_block_X1_hasBlock
set_option maxRecDepth 20000 in
theorem ggX5_block_X1_stateOf : GoodIn wsX5_block wsX1_stateOf := goodIn_r _ [24, 25, 26, 27, 28, 29, 38, 39, 40, 41, 42, 43, 44, 45, 46, 47] (by decide +kernel) (by decide +kernel)
set_option maxRecDepth 20000 in
theorem gX5_block_X1_stateOf : GoodIn wsX5_block (wsV RX5 160 RX1 yX1_stateOf wsX1_stateOf) := goodIn_app (goodIn_of _ (by decide +kernel)) ggX5_block_X1_stateOf
set_option maxRecDepth 20000 in
theorem ggX5_block_X5_isMember : GoodIn wsX5_block wsX5_isMember := goodIn_r _ [29] (by decide +kernel) (by decide +kernel)
set_option maxRecDepth 20000 in
theorem gX5_block_X5_isMember : GoodIn wsX5_block (va_wsS RX5 125 yX5_isMember wsX5_isMember) := goodIn_app (goodIn_of _ (by decide +kernel)) ggX5_block_X5_isMember
theorem dX5_block_0 : decode cX5_block 0 = .ok (.aload_n 0, 1) := by decide +kernel
theorem dX5_block_1 : decode cX5_block 1 = .ok (.getfield 10, 3) := by decide +kernel
theorem dX5_block_4 : decode cX5_block 4 = .ok (.iload_n 1, 1) := by decide +kernel
theorem dX5_block_5 : decode cX5_block 5 = .ok (.invokevirtual 83, 3) := by decide +kernel
theorem dX5_block_8 : decode cX5_block 8 = .ok (.ifCond .ne 13, 3) := by decide +kernel
theorem dX5_block_11 : decode cX5_block 11 = .ok (.new 87, 3) := by decide +kernel
theorem dX5_block_14 : decode cX5_block 14 = .ok (.dup, 1) := by decide +kernel
theorem dX5_block_15 : decode cX5_block 15 = .ok (.ldc 89, 2) := by decide +kernel
theorem dX5_block_17 : decode cX5_block 17 = .ok (.invokespecial 91, 3) := by decide +kernel
theorem dX5_block_20 : decode cX5_block 20 = .ok (.athrow, 1) := by decide +kernel
theorem dX5_block_21 : decode cX5_block 21 = .ok (.iload_n 2, 1) := by decide +kernel
theorem dX5_block_22 : decode cX5_block 22 = .ok (.tableswitch 159 0 8 #[50, 60, 70, 80, 90, 99, 109, 129, 149], 50) := by decide +kernel
theorem dX5_block_72 : decode cX5_block 72 = .ok (.aload_n 0, 1) := by decide +kernel
theorem dX5_block_73 : decode cX5_block 73 = .ok (.getfield 10, 3) := by decide +kernel
theorem dX5_block_76 : decode cX5_block 76 = .ok (.getfield 154, 3) := by decide +kernel
theorem dX5_block_79 : decode cX5_block 79 = .ok (.iload_n 1, 1) := by decide +kernel
theorem dX5_block_80 : decode cX5_block 80 = .ok (.iaload, 1) := by decide +kernel
theorem dX5_block_81 : decode cX5_block 81 = .ok (.ireturn, 1) := by decide +kernel
theorem dX5_block_82 : decode cX5_block 82 = .ok (.aload_n 0, 1) := by decide +kernel
theorem dX5_block_83 : decode cX5_block 83 = .ok (.getfield 10, 3) := by decide +kernel
theorem dX5_block_86 : decode cX5_block 86 = .ok (.getfield 157, 3) := by decide +kernel
theorem dX5_block_89 : decode cX5_block 89 = .ok (.iload_n 1, 1) := by decide +kernel
theorem dX5_block_90 : decode cX5_block 90 = .ok (.iaload, 1) := by decide +kernel
theorem dX5_block_91 : decode cX5_block 91 = .ok (.ireturn, 1) := by decide +kernel
theorem dX5_block_92 : decode cX5_block 92 = .ok (.aload_n 0, 1) := by decide +kernel
theorem dX5_block_93 : decode cX5_block 93 = .ok (.getfield 10, 3) := by decide +kernel
theorem dX5_block_96 : decode cX5_block 96 = .ok (.getfield 94, 3) := by decide +kernel
theorem dX5_block_99 : decode cX5_block 99 = .ok (.iload_n 1, 1) := by decide +kernel
theorem dX5_block_100 : decode cX5_block 100 = .ok (.iaload, 1) := by decide +kernel
theorem dX5_block_101 : decode cX5_block 101 = .ok (.ireturn, 1) := by decide +kernel
theorem dX5_block_102 : decode cX5_block 102 = .ok (.aload_n 0, 1) := by decide +kernel
theorem dX5_block_103 : decode cX5_block 103 = .ok (.getfield 10, 3) := by decide +kernel
theorem dX5_block_106 : decode cX5_block 106 = .ok (.getfield 100, 3) := by decide +kernel
theorem dX5_block_109 : decode cX5_block 109 = .ok (.iload_n 1, 1) := by decide +kernel
theorem dX5_block_110 : decode cX5_block 110 = .ok (.iaload, 1) := by decide +kernel
theorem dX5_block_111 : decode cX5_block 111 = .ok (.ireturn, 1) := by decide +kernel
theorem dX5_block_112 : decode cX5_block 112 = .ok (.aload_n 0, 1) := by decide +kernel
theorem dX5_block_113 : decode cX5_block 113 = .ok (.getfield 10, 3) := by decide +kernel
theorem dX5_block_116 : decode cX5_block 116 = .ok (.iload_n 1, 1) := by decide +kernel
theorem dX5_block_117 : decode cX5_block 117 = .ok (.invokevirtual 160, 3) := by decide +kernel
theorem dX5_block_120 : decode cX5_block 120 = .ok (.ireturn, 1) := by decide +kernel
theorem dX5_block_121 : decode cX5_block 121 = .ok (.aload_n 0, 1) := by decide +kernel
theorem dX5_block_122 : decode cX5_block 122 = .ok (.getfield 19, 3) := by decide +kernel
theorem dX5_block_125 : decode cX5_block 125 = .ok (.getfield 139, 3) := by decide +kernel
theorem dX5_block_128 : decode cX5_block 128 = .ok (.iload_n 1, 1) := by decide +kernel
theorem dX5_block_129 : decode cX5_block 129 = .ok (.iaload, 1) := by decide +kernel
theorem dX5_block_130 : decode cX5_block 130 = .ok (.ireturn, 1) := by decide +kernel
theorem dX5_block_131 : decode cX5_block 131 = .ok (.aload_n 0, 1) := by decide +kernel
theorem dX5_block_132 : decode cX5_block 132 = .ok (.getfield 19, 3) := by decide +kernel
theorem dX5_block_135 : decode cX5_block 135 = .ok (.getfield 163, 3) := by decide +kernel
theorem dX5_block_138 : decode cX5_block 138 = .ok (.iload_n 1, 1) := by decide +kernel
theorem dX5_block_139 : decode cX5_block 139 = .ok (.invokestatic 125, 3) := by decide +kernel
theorem dX5_block_142 : decode cX5_block 142 = .ok (.ifCond .eq 7, 3) := by decide +kernel
theorem dX5_block_145 : decode cX5_block 145 = .ok (.iconst 1, 1) := by decide +kernel
theorem dX5_block_146 : decode cX5_block 146 = .ok (.goto 4, 3) := by decide +kernel
theorem dX5_block_149 : decode cX5_block 149 = .ok (.iconst 0, 1) := by decide +kernel
theorem dX5_block_150 : decode cX5_block 150 = .ok (.ireturn, 1) := by decide +kernel
theorem dX5_block_151 : decode cX5_block 151 = .ok (.aload_n 0, 1) := by decide +kernel
theorem dX5_block_152 : decode cX5_block 152 = .ok (.getfield 19, 3) := by decide +kernel
theorem dX5_block_155 : decode cX5_block 155 = .ok (.getfield 166, 3) := by decide +kernel
theorem dX5_block_158 : decode cX5_block 158 = .ok (.iload_n 1, 1) := by decide +kernel
theorem dX5_block_159 : decode cX5_block 159 = .ok (.invokestatic 125, 3) := by decide +kernel
theorem dX5_block_162 : decode cX5_block 162 = .ok (.ifCond .eq 7, 3) := by decide +kernel
theorem dX5_block_165 : decode cX5_block 165 = .ok (.iconst 1, 1) := by decide +kernel
theorem dX5_block_166 : decode cX5_block 166 = .ok (.goto 4, 3) := by decide +kernel
theorem dX5_block_169 : decode cX5_block 169 = .ok (.iconst 0, 1) := by decide +kernel
theorem dX5_block_170 : decode cX5_block 170 = .ok (.ireturn, 1) := by decide +kernel
theorem dX5_block_171 : decode cX5_block 171 = .ok (.aload_n 0, 1) := by decide +kernel
theorem dX5_block_172 : decode cX5_block 172 = .ok (.getfield 10, 3) := by decide +kernel
theorem dX5_block_175 : decode cX5_block 175 = .ok (.getfield 169, 3) := by decide +kernel
theorem dX5_block_178 : decode cX5_block 178 = .ok (.iload_n 1, 1) := by decide +kernel
theorem dX5_block_179 : decode cX5_block 179 = .ok (.iaload, 1) := by decide +kernel
theorem dX5_block_180 : decode cX5_block 180 = .ok (.ireturn, 1) := by decide +kernel
theorem dX5_block_181 : decode cX5_block 181 = .ok (.new 61, 3) := by decide +kernel
theorem dX5_block_184 : decode cX5_block 184 = .ok (.dup, 1) := by decide +kernel
theorem dX5_block_185 : decode cX5_block 185 = .ok (.ldc 172, 2) := by decide +kernel
theorem dX5_block_187 : decode cX5_block 187 = .ok (.invokespecial 65, 3) := by decide +kernel
theorem dX5_block_190 : decode cX5_block 190 = .ok (.athrow, 1) := by decide +kernel
set_option maxRecDepth 20000 in
theorem ggX5_value_J6_bitCount_0f7a4 : GoodIn wsX5_value wsJ6_bitCount_0f7a4 := goodIn_r _ [16, 17, 18, 19] (by decide +kernel) (by decide +kernel)
set_option maxRecDepth 20000 in
theorem gX5_value_J6_bitCount_0f7a4 : GoodIn wsX5_value (va_wsS RX5 145 yJ6_bitCount_0f7a4 wsJ6_bitCount_0f7a4) := goodIn_app (goodIn_of _ (by decide +kernel)) ggX5_value_J6_bitCount_0f7a4
set_option maxRecDepth 20000 in
theorem ggX5_value_X0_greatestLoad : GoodIn wsX5_value wsX0_greatestLoad := goodIn_r _ [24, 25, 26, 27, 28, 29, 52, 53, 54, 55, 56, 57, 58, 59, 60] (by decide +kernel) (by decide +kernel)
set_option maxRecDepth 20000 in
theorem gX5_value_X0_greatestLoad : GoodIn wsX5_value (wsV RX5 118 RX0 yX0_greatestLoad wsX0_greatestLoad) := goodIn_app (goodIn_of _ (by decide +kernel)) ggX5_value_X0_greatestLoad
set_option maxRecDepth 20000 in
theorem ggX5_value_X0_mostLoaded : GoodIn wsX5_value wsX0_mostLoaded := goodIn_r _ [33, 34, 25, 52, 53, 54, 55, 56, 57, 58, 59, 60] (by decide +kernel) (by decide +kernel)
set_option maxRecDepth 20000 in
theorem gX5_value_X0_mostLoaded : GoodIn wsX5_value (wsV RX5 180 RX0 yX0_mostLoaded wsX0_mostLoaded) := goodIn_app (goodIn_of _ (by decide +kernel)) ggX5_value_X0_mostLoaded
theorem dX5_value_0 : decode cX5_value 0 = .ok (.iload_n 1, 1) := by decide +kernel
theorem dX5_value_1 : decode cX5_value 1 = .ok (.tableswitch 152 0 9 #[55, 63, 71, 79, 90, 101, 112, 128, 136, 144], 55) := by decide +kernel
theorem dX5_value_56 : decode cX5_value 56 = .ok (.aload_n 0, 1) := by decide +kernel
theorem dX5_value_57 : decode cX5_value 57 = .ok (.getfield 10, 3) := by decide +kernel
theorem dX5_value_60 : decode cX5_value 60 = .ok (.getfield 106, 3) := by decide +kernel
theorem dX5_value_63 : decode cX5_value 63 = .ok (.ireturn, 1) := by decide +kernel
theorem dX5_value_64 : decode cX5_value 64 = .ok (.aload_n 0, 1) := by decide +kernel
theorem dX5_value_65 : decode cX5_value 65 = .ok (.getfield 10, 3) := by decide +kernel
theorem dX5_value_68 : decode cX5_value 68 = .ok (.getfield 110, 3) := by decide +kernel
theorem dX5_value_71 : decode cX5_value 71 = .ok (.ireturn, 1) := by decide +kernel
theorem dX5_value_72 : decode cX5_value 72 = .ok (.aload_n 0, 1) := by decide +kernel
theorem dX5_value_73 : decode cX5_value 73 = .ok (.getfield 10, 3) := by decide +kernel
theorem dX5_value_76 : decode cX5_value 76 = .ok (.getfield 174, 3) := by decide +kernel
theorem dX5_value_79 : decode cX5_value 79 = .ok (.ireturn, 1) := by decide +kernel
theorem dX5_value_80 : decode cX5_value 80 = .ok (.aload_n 0, 1) := by decide +kernel
theorem dX5_value_81 : decode cX5_value 81 = .ok (.getfield 10, 3) := by decide +kernel
theorem dX5_value_84 : decode cX5_value 84 = .ok (.getfield 122, 3) := by decide +kernel
theorem dX5_value_87 : decode cX5_value 87 = .ok (.invokestatic 145, 3) := by decide +kernel
theorem dX5_value_90 : decode cX5_value 90 = .ok (.ireturn, 1) := by decide +kernel
theorem dX5_value_91 : decode cX5_value 91 = .ok (.aload_n 0, 1) := by decide +kernel
theorem dX5_value_92 : decode cX5_value 92 = .ok (.getfield 19, 3) := by decide +kernel
theorem dX5_value_95 : decode cX5_value 95 = .ok (.getfield 163, 3) := by decide +kernel
theorem dX5_value_98 : decode cX5_value 98 = .ok (.invokestatic 145, 3) := by decide +kernel
theorem dX5_value_101 : decode cX5_value 101 = .ok (.ireturn, 1) := by decide +kernel
theorem dX5_value_102 : decode cX5_value 102 = .ok (.aload_n 0, 1) := by decide +kernel
theorem dX5_value_103 : decode cX5_value 103 = .ok (.getfield 19, 3) := by decide +kernel
theorem dX5_value_106 : decode cX5_value 106 = .ok (.getfield 166, 3) := by decide +kernel
theorem dX5_value_109 : decode cX5_value 109 = .ok (.invokestatic 145, 3) := by decide +kernel
theorem dX5_value_112 : decode cX5_value 112 = .ok (.ireturn, 1) := by decide +kernel
theorem dX5_value_113 : decode cX5_value 113 = .ok (.aload_n 0, 1) := by decide +kernel
theorem dX5_value_114 : decode cX5_value 114 = .ok (.getfield 19, 3) := by decide +kernel
theorem dX5_value_117 : decode cX5_value 117 = .ok (.getfield 135, 3) := by decide +kernel
theorem dX5_value_120 : decode cX5_value 120 = .ok (.ifCond .eq 7, 3) := by decide +kernel
theorem dX5_value_123 : decode cX5_value 123 = .ok (.iconst 1, 1) := by decide +kernel
theorem dX5_value_124 : decode cX5_value 124 = .ok (.goto 4, 3) := by decide +kernel
theorem dX5_value_127 : decode cX5_value 127 = .ok (.iconst 0, 1) := by decide +kernel
theorem dX5_value_128 : decode cX5_value 128 = .ok (.ireturn, 1) := by decide +kernel
theorem dX5_value_129 : decode cX5_value 129 = .ok (.aload_n 0, 1) := by decide +kernel
theorem dX5_value_130 : decode cX5_value 130 = .ok (.getfield 19, 3) := by decide +kernel
theorem dX5_value_133 : decode cX5_value 133 = .ok (.getfield 177, 3) := by decide +kernel
theorem dX5_value_136 : decode cX5_value 136 = .ok (.ireturn, 1) := by decide +kernel
theorem dX5_value_137 : decode cX5_value 137 = .ok (.aload_n 0, 1) := by decide +kernel
theorem dX5_value_138 : decode cX5_value 138 = .ok (.getfield 19, 3) := by decide +kernel
theorem dX5_value_141 : decode cX5_value 141 = .ok (.invokevirtual 118, 3) := by decide +kernel
theorem dX5_value_144 : decode cX5_value 144 = .ok (.ireturn, 1) := by decide +kernel
theorem dX5_value_145 : decode cX5_value 145 = .ok (.aload_n 0, 1) := by decide +kernel
theorem dX5_value_146 : decode cX5_value 146 = .ok (.getfield 19, 3) := by decide +kernel
theorem dX5_value_149 : decode cX5_value 149 = .ok (.invokevirtual 180, 3) := by decide +kernel
theorem dX5_value_152 : decode cX5_value 152 = .ok (.ireturn, 1) := by decide +kernel
theorem dX5_value_153 : decode cX5_value 153 = .ok (.new 61, 3) := by decide +kernel
theorem dX5_value_156 : decode cX5_value 156 = .ok (.dup, 1) := by decide +kernel
theorem dX5_value_157 : decode cX5_value 157 = .ok (.ldc 172, 2) := by decide +kernel
theorem dX5_value_159 : decode cX5_value 159 = .ok (.invokespecial 65, 3) := by decide +kernel
theorem dX5_value_162 : decode cX5_value 162 = .ok (.athrow, 1) := by decide +kernel
set_option maxRecDepth 20000 in
theorem ggX5_balance_X5_isIn : GoodIn wsX5_balance wsX5_isIn := goodIn_r _ [11] (by decide +kernel) (by decide +kernel)
set_option maxRecDepth 20000 in
theorem gX5_balance_X5_isIn : GoodIn wsX5_balance (va_wsS RX5 56 yX5_isIn wsX5_isIn) := goodIn_app (goodIn_of _ (by decide +kernel)) ggX5_balance_X5_isIn
theorem dX5_balance_0 : decode cX5_balance 0 = .ok (.iload_n 1, 1) := by decide +kernel
theorem dX5_balance_1 : decode cX5_balance 1 = .ok (.iconst 0, 1) := by decide +kernel
theorem dX5_balance_2 : decode cX5_balance 2 = .ok (.iconst 2, 1) := by decide +kernel
theorem dX5_balance_3 : decode cX5_balance 3 = .ok (.invokestatic 56, 3) := by decide +kernel
theorem dX5_balance_6 : decode cX5_balance 6 = .ok (.ifCond .ne 13, 3) := by decide +kernel
theorem dX5_balance_9 : decode cX5_balance 9 = .ok (.new 61, 3) := by decide +kernel
theorem dX5_balance_12 : decode cX5_balance 12 = .ok (.dup, 1) := by decide +kernel
theorem dX5_balance_13 : decode cX5_balance 13 = .ok (.ldc 172, 2) := by decide +kernel
theorem dX5_balance_15 : decode cX5_balance 15 = .ok (.invokespecial 65, 3) := by decide +kernel
theorem dX5_balance_18 : decode cX5_balance 18 = .ok (.athrow, 1) := by decide +kernel
theorem dX5_balance_19 : decode cX5_balance 19 = .ok (.aload_n 0, 1) := by decide +kernel
theorem dX5_balance_20 : decode cX5_balance 20 = .ok (.getfield 19, 3) := by decide +kernel
theorem dX5_balance_23 : decode cX5_balance 23 = .ok (.getfield 135, 3) := by decide +kernel
theorem dX5_balance_26 : decode cX5_balance 26 = .ok (.ifCond .ne 5, 3) := by decide +kernel
theorem dX5_balance_29 : decode cX5_balance 29 = .ok (.lconst 0, 1) := by decide +kernel
theorem dX5_balance_30 : decode cX5_balance 30 = .ok (.lreturn, 1) := by decide +kernel
theorem dX5_balance_31 : decode cX5_balance 31 = .ok (.iload_n 1, 1) := by decide +kernel
theorem dX5_balance_32 : decode cX5_balance 32 = .ok (.ifCond .ne 11, 3) := by decide +kernel
theorem dX5_balance_35 : decode cX5_balance 35 = .ok (.aload_n 0, 1) := by decide +kernel
theorem dX5_balance_36 : decode cX5_balance 36 = .ok (.getfield 19, 3) := by decide +kernel
theorem dX5_balance_39 : decode cX5_balance 39 = .ok (.getfield 183, 3) := by decide +kernel
theorem dX5_balance_42 : decode cX5_balance 42 = .ok (.lreturn, 1) := by decide +kernel
theorem dX5_balance_43 : decode cX5_balance 43 = .ok (.iload_n 1, 1) := by decide +kernel
theorem dX5_balance_44 : decode cX5_balance 44 = .ok (.iconst 1, 1) := by decide +kernel
theorem dX5_balance_45 : decode cX5_balance 45 = .ok (.if_icmp .ne 13, 3) := by decide +kernel
theorem dX5_balance_48 : decode cX5_balance 48 = .ok (.aload_n 0, 1) := by decide +kernel
theorem dX5_balance_49 : decode cX5_balance 49 = .ok (.getfield 19, 3) := by decide +kernel
theorem dX5_balance_52 : decode cX5_balance 52 = .ok (.getfield 187, 3) := by decide +kernel
theorem dX5_balance_55 : decode cX5_balance 55 = .ok (.goto 10, 3) := by decide +kernel
theorem dX5_balance_58 : decode cX5_balance 58 = .ok (.aload_n 0, 1) := by decide +kernel
theorem dX5_balance_59 : decode cX5_balance 59 = .ok (.getfield 19, 3) := by decide +kernel
theorem dX5_balance_62 : decode cX5_balance 62 = .ok (.getfield 190, 3) := by decide +kernel
theorem dX5_balance_65 : decode cX5_balance 65 = .ok (.lreturn, 1) := by decide +kernel
theorem dX5_tilt_0 : decode cX5_tilt 0 = .ok (.aload_n 0, 1) := by decide +kernel
theorem dX5_tilt_1 : decode cX5_tilt 1 = .ok (.getfield 19, 3) := by decide +kernel
theorem dX5_tilt_4 : decode cX5_tilt 4 = .ok (.getfield 190, 3) := by decide +kernel
theorem dX5_tilt_7 : decode cX5_tilt 7 = .ok (.l2d, 1) := by decide +kernel
theorem dX5_tilt_8 : decode cX5_tilt 8 = .ok (.dstore_n 1, 1) := by decide +kernel
theorem dX5_tilt_9 : decode cX5_tilt 9 = .ok (.aload_n 0, 1) := by decide +kernel
theorem dX5_tilt_10 : decode cX5_tilt 10 = .ok (.getfield 19, 3) := by decide +kernel
theorem dX5_tilt_13 : decode cX5_tilt 13 = .ok (.getfield 135, 3) := by decide +kernel
theorem dX5_tilt_16 : decode cX5_tilt 16 = .ok (.ifCond .eq 9, 3) := by decide +kernel
theorem dX5_tilt_19 : decode cX5_tilt 19 = .ok (.dload_n 1, 1) := by decide +kernel
theorem dX5_tilt_20 : decode cX5_tilt 20 = .ok (.dconst 0, 1) := by decide +kernel
theorem dX5_tilt_21 : decode cX5_tilt 21 = .ok (.dcmp .l, 1) := by decide +kernel
theorem dX5_tilt_22 : decode cX5_tilt 22 = .ok (.ifCond .ne 5, 3) := by decide +kernel
theorem dX5_tilt_25 : decode cX5_tilt 25 = .ok (.dconst 0, 1) := by decide +kernel
theorem dX5_tilt_26 : decode cX5_tilt 26 = .ok (.dreturn, 1) := by decide +kernel
theorem dX5_tilt_27 : decode cX5_tilt 27 = .ok (.aload_n 0, 1) := by decide +kernel
theorem dX5_tilt_28 : decode cX5_tilt 28 = .ok (.getfield 19, 3) := by decide +kernel
theorem dX5_tilt_31 : decode cX5_tilt 31 = .ok (.getfield 187, 3) := by decide +kernel
theorem dX5_tilt_34 : decode cX5_tilt 34 = .ok (.l2d, 1) := by decide +kernel
theorem dX5_tilt_35 : decode cX5_tilt 35 = .ok (.dload_n 1, 1) := by decide +kernel
theorem dX5_tilt_36 : decode cX5_tilt 36 = .ok (.ddiv, 1) := by decide +kernel
theorem dX5_tilt_37 : decode cX5_tilt 37 = .ok (.dreturn, 1) := by decide +kernel
set_option maxRecDepth 20000 in
theorem ggX5_loadWithout_X1_hasBlock : GoodIn wsX5_loadWithout wsX1_hasBlock := goodIn_r _ [12, 13, 104, 105, 106, 107, 108, 109, 110, 111, 112, 113] (by decide +kernel) (by decide +kernel)
set_option maxRecDepth 20000 in
theorem gX5_loadWithout_X1_hasBlock : GoodIn wsX5_loadWithout (wsV RX5 83 RX1 yX1_hasBlock wsX1_hasBlock) := goodIn_app (goodIn_of _ (by decide +kernel)) ggX5_loadWithout_X1_hasBlock
set_option maxRecDepth 20000 in
theorem ggX5_loadWithout_X5_startTrial : GoodIn wsX5_loadWithout wsX5_startTrial := goodIn_r _ [18, 4, 3, 19, 20, 21, 11, 22, 23, 24, 13, 25, 26, 27, 28, 29, 30, 31, 88, 89, 90, 91, 92, 93, 94, 104, 105, 106, 107, 108, 109, 110, 111, 112, 113] (by decide +kernel) (by decide +kernel)
set_option maxRecDepth 20000 in
theorem gX5_loadWithout_X5_startTrial : GoodIn wsX5_loadWithout (wsV RX5 68 RX5 yX5_startTrial wsX5_startTrial) := goodIn_app (goodIn_of _ (by decide +kernel)) ggX5_loadWithout_X5_startTrial
set_option maxRecDepth 20000 in
theorem ggX5_loadWithout_X1_pullOut : GoodIn wsX5_loadWithout wsX1_pullOut := goodIn_r _ [35, 25, 104, 105, 106, 107, 108, 109, 110, 111, 112, 113] (by decide +kernel) (by decide +kernel)
set_option maxRecDepth 20000 in
theorem gX5_loadWithout_X1_pullOut : GoodIn wsX5_loadWithout (wsV RX5 193 RX1 yX1_pullOut wsX1_pullOut) := goodIn_app (goodIn_of _ (by decide +kernel)) ggX5_loadWithout_X1_pullOut
set_option maxRecDepth 20000 in
theorem ggX5_loadWithout_X0_find : GoodIn wsX5_loadWithout wsX0_find := goodIn_r _ [40, 41, 42, 43, 44, 45, 46, 47, 39, 48, 49, 50, 51, 52, 53, 54, 55, 56, 57, 58, 59, 60, 61, 62, 63, 17, 64, 65, 66, 67, 68, 69, 70, 71, 72, 73, 74, 75, 76, 77, 78, 79, 80, 81, 82, 83, 84, 85, 86, 87, 95, 96, 97, 98, 99, 100, 101, 102, 103, 104, 105, 106, 107, 108, 109, 110, 111, 112, 113] (by decide +kernel) (by decide +kernel)
set_option maxRecDepth 20000 in
theorem gX5_loadWithout_X0_find : GoodIn wsX5_loadWithout (wsV RX5 52 RX0 yX0_find wsX0_find) := goodIn_app (goodIn_of _ (by decide +kernel)) ggX5_loadWithout_X0_find
theorem dX5_loadWithout_0 : decode cX5_loadWithout 0 = .ok (.aload_n 0, 1) := by decide +kernel
theorem dX5_loadWithout_1 : decode cX5_loadWithout 1 = .ok (.getfield 10, 3) := by decide +kernel
theorem dX5_loadWithout_4 : decode cX5_loadWithout 4 = .ok (.iload_n 1, 1) := by decide +kernel
theorem dX5_loadWithout_5 : decode cX5_loadWithout 5 = .ok (.invokevirtual 83, 3) := by decide +kernel
theorem dX5_loadWithout_8 : decode cX5_loadWithout 8 = .ok (.ifCond .eq 14, 3) := by decide +kernel
theorem dX5_loadWithout_11 : decode cX5_loadWithout 11 = .ok (.aload_n 0, 1) := by decide +kernel
theorem dX5_loadWithout_12 : decode cX5_loadWithout 12 = .ok (.getfield 10, 3) := by decide +kernel
theorem dX5_loadWithout_15 : decode cX5_loadWithout 15 = .ok (.iload_n 2, 1) := by decide +kernel
theorem dX5_loadWithout_16 : decode cX5_loadWithout 16 = .ok (.invokevirtual 83, 3) := by decide +kernel
theorem dX5_loadWithout_19 : decode cX5_loadWithout 19 = .ok (.ifCond .ne 13, 3) := by decide +kernel
theorem dX5_loadWithout_22 : decode cX5_loadWithout 22 = .ok (.new 87, 3) := by decide +kernel
theorem dX5_loadWithout_25 : decode cX5_loadWithout 25 = .ok (.dup, 1) := by decide +kernel
theorem dX5_loadWithout_26 : decode cX5_loadWithout 26 = .ok (.ldc 89, 2) := by decide +kernel
theorem dX5_loadWithout_28 : decode cX5_loadWithout 28 = .ok (.invokespecial 91, 3) := by decide +kernel
theorem dX5_loadWithout_31 : decode cX5_loadWithout 31 = .ok (.athrow, 1) := by decide +kernel
theorem dX5_loadWithout_32 : decode cX5_loadWithout 32 = .ok (.aload_n 0, 1) := by decide +kernel
theorem dX5_loadWithout_33 : decode cX5_loadWithout 33 = .ok (.invokevirtual 68, 3) := by decide +kernel
theorem dX5_loadWithout_36 : decode cX5_loadWithout 36 = .ok (.aload_n 0, 1) := by decide +kernel
theorem dX5_loadWithout_37 : decode cX5_loadWithout 37 = .ok (.getfield 23, 3) := by decide +kernel
theorem dX5_loadWithout_40 : decode cX5_loadWithout 40 = .ok (.iload_n 2, 1) := by decide +kernel
theorem dX5_loadWithout_41 : decode cX5_loadWithout 41 = .ok (.invokevirtual 193, 3) := by decide +kernel
theorem dX5_loadWithout_44 : decode cX5_loadWithout 44 = .ok (.aload_n 0, 1) := by decide +kernel
theorem dX5_loadWithout_45 : decode cX5_loadWithout 45 = .ok (.getfield 26, 3) := by decide +kernel
theorem dX5_loadWithout_48 : decode cX5_loadWithout 48 = .ok (.aload_n 0, 1) := by decide +kernel
theorem dX5_loadWithout_49 : decode cX5_loadWithout 49 = .ok (.getfield 23, 3) := by decide +kernel
theorem dX5_loadWithout_52 : decode cX5_loadWithout 52 = .ok (.invokevirtual 52, 3) := by decide +kernel
theorem dX5_loadWithout_55 : decode cX5_loadWithout 55 = .ok (.aload_n 0, 1) := by decide +kernel
theorem dX5_loadWithout_56 : decode cX5_loadWithout 56 = .ok (.getfield 26, 3) := by decide +kernel
theorem dX5_loadWithout_59 : decode cX5_loadWithout 59 = .ok (.getfield 135, 3) := by decide +kernel
theorem dX5_loadWithout_62 : decode cX5_loadWithout 62 = .ok (.ifCond .eq 15, 3) := by decide +kernel
theorem dX5_loadWithout_65 : decode cX5_loadWithout 65 = .ok (.aload_n 0, 1) := by decide +kernel
theorem dX5_loadWithout_66 : decode cX5_loadWithout 66 = .ok (.getfield 26, 3) := by decide +kernel
theorem dX5_loadWithout_69 : decode cX5_loadWithout 69 = .ok (.getfield 139, 3) := by decide +kernel
theorem dX5_loadWithout_72 : decode cX5_loadWithout 72 = .ok (.iload_n 1, 1) := by decide +kernel
theorem dX5_loadWithout_73 : decode cX5_loadWithout 73 = .ok (.iaload, 1) := by decide +kernel
theorem dX5_loadWithout_74 : decode cX5_loadWithout 74 = .ok (.goto 4, 3) := by decide +kernel
theorem dX5_loadWithout_77 : decode cX5_loadWithout 77 = .ok (.iconst (-1), 1) := by decide +kernel
theorem dX5_loadWithout_78 : decode cX5_loadWithout 78 = .ok (.ireturn, 1) := by decide +kernel
set_option maxRecDepth 20000 in
theorem ggX5_pullable_X5_canPull : GoodIn wsX5_pullable wsX5_canPull := goodIn_r _ [5, 6, 7, 8, 9, 10, 11, 4, 12, 13, 14, 15, 16, 17, 18, 19, 20, 21, 22, 23, 24, 25, 26, 27, 28, 29, 30, 31, 32, 33, 34, 35, 36, 37, 38, 39, 40, 41, 42, 43, 44, 45, 46, 47, 48, 49, 50, 51, 52, 53, 54, 55, 56, 57, 58, 59, 60, 61, 62, 63, 64, 65, 66, 67, 68, 69, 70, 71, 72, 73, 74, 75, 76, 77, 78, 79, 80, 81, 82, 83, 84, 85, 86, 87, 88, 89, 90, 91, 92, 93, 94, 95, 96, 97, 98, 99, 100, 101, 102, 103, 104, 105, 106, 107, 108, 109, 110, 111, 112, 113, 114, 115] (by decide +kernel) (by decide +kernel)
set_option maxRecDepth 20000 in
theorem gX5_pullable_X5_canPull : GoodIn wsX5_pullable (wsV RX5 113 RX5 yX5_canPull wsX5_canPull) := goodIn_app (goodIn_of _ (by decide +kernel)) ggX5_pullable_X5_canPull
theorem dX5_pullable_0 : decode cX5_pullable 0 = .ok (.iconst 0, 1) := by decide +kernel
theorem dX5_pullable_1 : decode cX5_pullable 1 = .ok (.istore_n 1, 1) := by decide +kernel
theorem dX5_pullable_2 : decode cX5_pullable 2 = .ok (.iconst 0, 1) := by decide +kernel
theorem dX5_pullable_3 : decode cX5_pullable 3 = .ok (.istore_n 2, 1) := by decide +kernel
theorem dX5_pullable_4 : decode cX5_pullable 4 = .ok (.iload_n 2, 1) := by decide +kernel
theorem dX5_pullable_5 : decode cX5_pullable 5 = .ok (.bipush 16, 2) := by decide +kernel
theorem dX5_pullable_7 : decode cX5_pullable 7 = .ok (.if_icmp .ge 20, 3) := by decide +kernel
theorem dX5_pullable_10 : decode cX5_pullable 10 = .ok (.aload_n 0, 1) := by decide +kernel
theorem dX5_pullable_11 : decode cX5_pullable 11 = .ok (.iload_n 2, 1) := by decide +kernel
theorem dX5_pullable_12 : decode cX5_pullable 12 = .ok (.invokevirtual 113, 3) := by decide +kernel
theorem dX5_pullable_15 : decode cX5_pullable 15 = .ok (.ifCond .eq 6, 3) := by decide +kernel
theorem dX5_pullable_18 : decode cX5_pullable 18 = .ok (.iinc 1 1, 3) := by decide +kernel
theorem dX5_pullable_21 : decode cX5_pullable 21 = .ok (.iinc 2 1, 3) := by decide +kernel
theorem dX5_pullable_24 : decode cX5_pullable 24 = .ok (.goto (-20), 3) := by decide +kernel
theorem dX5_pullable_27 : decode cX5_pullable 27 = .ok (.iload_n 1, 1) := by decide +kernel
theorem dX5_pullable_28 : decode cX5_pullable 28 = .ok (.ireturn, 1) := by decide +kernel
set_option maxRecDepth 20000 in
theorem ggX5_cascadeSteps_X5_tryCascade : GoodIn wsX5_cascadeSteps wsX5_tryCascade := goodIn_r _ [5, 6, 7, 8, 9, 10, 11, 4, 12, 13, 14, 15, 16, 17, 18, 19, 20, 21, 22, 23, 24, 25, 26, 27, 28, 29, 30, 31, 32, 33, 34, 35, 36, 37, 38, 39, 40, 41, 42, 43, 44, 45, 46, 47, 48, 49, 50, 51, 52, 53, 54, 55, 56, 57, 58, 59, 60, 61, 62, 63, 64, 65, 66, 67, 68, 69, 70, 71, 72, 73, 74, 75, 76, 77, 78, 79, 80, 81, 82, 83, 84, 85, 86, 87, 88, 89, 90, 91, 92, 93, 94, 95, 96, 97, 98, 99, 100, 101, 102, 103, 104, 105, 106, 107, 108, 109, 110] (by decide +kernel) (by decide +kernel)
set_option maxRecDepth 20000 in
theorem gX5_cascadeSteps_X5_tryCascade : GoodIn wsX5_cascadeSteps (wsV RX5 142 RX5 yX5_tryCascade wsX5_tryCascade) := goodIn_app (goodIn_of _ (by decide +kernel)) ggX5_cascadeSteps_X5_tryCascade
theorem dX5_cascadeSteps_0 : decode cX5_cascadeSteps 0 = .ok (.aload_n 0, 1) := by decide +kernel
theorem dX5_cascadeSteps_1 : decode cX5_cascadeSteps 1 = .ok (.invokevirtual 142, 3) := by decide +kernel
theorem dX5_cascadeSteps_4 : decode cX5_cascadeSteps 4 = .ok (.ireturn, 1) := by decide +kernel
set_option maxRecDepth 20000 in
theorem ggX5_survives_X5_tryCascade : GoodIn wsX5_survives wsX5_tryCascade := goodIn_r _ [7, 1, 8, 9, 10, 11, 12, 6, 13, 14, 15, 16, 17, 18, 19, 20, 21, 22, 23, 24, 25, 26, 27, 28, 29, 30, 31, 32, 33, 34, 35, 36, 37, 38, 39, 40, 41, 42, 43, 44, 45, 46, 47, 48, 49, 50, 51, 52, 53, 54, 55, 56, 57, 58, 59, 60, 61, 62, 63, 64, 65, 66, 67, 68, 69, 70, 71, 72, 73, 74, 75, 76, 77, 78, 79, 80, 81, 82, 83, 84, 85, 86, 87, 88, 89, 90, 91, 92, 93, 94, 95, 96, 97, 98, 99, 100, 101, 102, 103, 104, 105, 106, 107, 108, 109, 110, 111] (by decide +kernel) (by decide +kernel)
set_option maxRecDepth 20000 in
theorem gX5_survives_X5_tryCascade : GoodIn wsX5_survives (wsV RX5 142 RX5 yX5_tryCascade wsX5_tryCascade) := goodIn_app (goodIn_of _ (by decide +kernel)) ggX5_survives_X5_tryCascade
theorem dX5_survives_0 : decode cX5_survives 0 = .ok (.aload_n 0, 1) := by decide +kernel
theorem dX5_survives_1 : decode cX5_survives 1 = .ok (.invokevirtual 142, 3) := by decide +kernel
theorem dX5_survives_4 : decode cX5_survives 4 = .ok (.pop, 1) := by decide +kernel
theorem dX5_survives_5 : decode cX5_survives 5 = .ok (.aload_n 0, 1) := by decide +kernel
theorem dX5_survives_6 : decode cX5_survives 6 = .ok (.getfield 26, 3) := by decide +kernel
theorem dX5_survives_9 : decode cX5_survives 9 = .ok (.getfield 135, 3) := by decide +kernel
theorem dX5_survives_12 : decode cX5_survives 12 = .ok (.ireturn, 1) := by decide +kernel
set_option maxRecDepth 20000 in
theorem ggX5_shavingSteps_X5_tryShaving : GoodIn wsX5_shavingSteps wsX5_tryShaving := goodIn_r _ [6, 1, 7, 8, 9, 10, 5, 11, 12, 13, 14, 15, 16, 17, 18, 19, 20, 21, 22, 23, 24, 25, 26, 27, 28, 29, 30, 31, 32, 33, 34, 35, 36, 37, 38, 39, 40, 41, 42, 43, 44, 45, 46, 47, 48, 49, 50, 51, 52, 53, 54, 55, 56, 57, 58, 59, 60, 61, 62, 63, 64, 65, 66, 67, 68, 69, 70, 71, 72, 73, 74, 75, 76, 77, 78, 79, 80, 81, 82, 83, 84, 85, 86, 87, 88, 89, 90, 91, 96, 97, 98, 99, 100, 101, 102, 103, 104, 105, 106, 107, 108, 109, 110, 111, 112, 113, 114, 115, 116, 117, 118, 119, 120, 121] (by decide +kernel) (by decide +kernel)
set_option maxRecDepth 20000 in
theorem gX5_shavingSteps_X5_tryShaving : GoodIn wsX5_shavingSteps (wsV RX5 151 RX5 yX5_tryShaving wsX5_tryShaving) := goodIn_app (goodIn_of _ (by decide +kernel)) ggX5_shavingSteps_X5_tryShaving
set_option maxRecDepth 20000 in
theorem ggX5_shavingSteps_X0_isSafe : GoodIn wsX5_shavingSteps wsX0_isSafe := goodIn_r _ [95, 33, 35, 113, 114, 115, 116, 117, 118, 119, 120, 121] (by decide +kernel) (by decide +kernel)
set_option maxRecDepth 20000 in
theorem gX5_shavingSteps_X0_isSafe : GoodIn wsX5_shavingSteps (wsV RX5 196 RX0 yX0_isSafe wsX0_isSafe) := goodIn_app (goodIn_of _ (by decide +kernel)) ggX5_shavingSteps_X0_isSafe
theorem dX5_shavingSteps_0 : decode cX5_shavingSteps 0 = .ok (.aload_n 0, 1) := by decide +kernel
theorem dX5_shavingSteps_1 : decode cX5_shavingSteps 1 = .ok (.invokevirtual 151, 3) := by decide +kernel
theorem dX5_shavingSteps_4 : decode cX5_shavingSteps 4 = .ok (.istore_n 1, 1) := by decide +kernel
theorem dX5_shavingSteps_5 : decode cX5_shavingSteps 5 = .ok (.aload_n 0, 1) := by decide +kernel
theorem dX5_shavingSteps_6 : decode cX5_shavingSteps 6 = .ok (.getfield 26, 3) := by decide +kernel
theorem dX5_shavingSteps_9 : decode cX5_shavingSteps 9 = .ok (.invokevirtual 196, 3) := by decide +kernel
theorem dX5_shavingSteps_12 : decode cX5_shavingSteps 12 = .ok (.ifCond .eq 7, 3) := by decide +kernel
theorem dX5_shavingSteps_15 : decode cX5_shavingSteps 15 = .ok (.iload_n 1, 1) := by decide +kernel
theorem dX5_shavingSteps_16 : decode cX5_shavingSteps 16 = .ok (.goto 8, 3) := by decide +kernel
theorem dX5_shavingSteps_19 : decode cX5_shavingSteps 19 = .ok (.sipush (-1000), 3) := by decide +kernel
theorem dX5_shavingSteps_22 : decode cX5_shavingSteps 22 = .ok (.iload_n 1, 1) := by decide +kernel
theorem dX5_shavingSteps_23 : decode cX5_shavingSteps 23 = .ok (.isub, 1) := by decide +kernel
theorem dX5_shavingSteps_24 : decode cX5_shavingSteps 24 = .ok (.ireturn, 1) := by decide +kernel
set_option maxRecDepth 20000 in
theorem ggX5_greatestWeight_X5_startTrial : GoodIn wsX5_greatestWeight wsX5_startTrial := goodIn_r _ [9, 2, 10, 11, 12, 13, 14, 15, 16, 17, 18, 19, 20, 21, 22, 23, 24, 25, 82, 83, 84, 85, 86, 87, 88, 89, 90, 91, 92, 93, 94, 95, 96, 97, 98] (by decide +kernel) (by decide +kernel)
set_option maxRecDepth 20000 in
theorem gX5_greatestWeight_X5_startTrial : GoodIn wsX5_greatestWeight (wsV RX5 68 RX5 yX5_startTrial wsX5_startTrial) := goodIn_app (goodIn_of _ (by decide +kernel)) ggX5_greatestWeight_X5_startTrial
set_option maxRecDepth 20000 in
theorem ggX5_greatestWeight_X0_find : GoodIn wsX5_greatestWeight wsX0_find := goodIn_r _ [30, 31, 32, 33, 34, 35, 36, 37, 29, 38, 39, 40, 41, 42, 43, 44, 45, 46, 47, 48, 49, 50, 51, 52, 53, 8, 54, 55, 56, 57, 58, 59, 60, 61, 62, 63, 64, 65, 66, 67, 68, 69, 70, 71, 72, 73, 74, 75, 76, 77, 99, 100, 101, 102, 103, 104, 105, 106, 107, 89, 90, 91, 92, 93, 94, 95, 96, 97, 98] (by decide +kernel) (by decide +kernel)
set_option maxRecDepth 20000 in
theorem gX5_greatestWeight_X0_find : GoodIn wsX5_greatestWeight (wsV RX5 52 RX0 yX0_find wsX0_find) := goodIn_app (goodIn_of _ (by decide +kernel)) ggX5_greatestWeight_X0_find
set_option maxRecDepth 20000 in
theorem ggX5_greatestWeight_X0_isSafe : GoodIn wsX5_greatestWeight wsX0_isSafe := goodIn_r _ [81, 31, 33, 99, 100, 101, 102, 103, 104, 105, 106, 107] (by decide +kernel) (by decide +kernel)
set_option maxRecDepth 20000 in
theorem gX5_greatestWeight_X0_isSafe : GoodIn wsX5_greatestWeight (wsV RX5 196 RX0 yX0_isSafe wsX0_isSafe) := goodIn_app (goodIn_of _ (by decide +kernel)) ggX5_greatestWeight_X0_isSafe
theorem dX5_greatestWeight_0 : decode cX5_greatestWeight 0 = .ok (.aload_n 0, 1) := by decide +kernel
theorem dX5_greatestWeight_1 : decode cX5_greatestWeight 1 = .ok (.invokevirtual 68, 3) := by decide +kernel
theorem dX5_greatestWeight_4 : decode cX5_greatestWeight 4 = .ok (.ldc 103, 2) := by decide +kernel
theorem dX5_greatestWeight_6 : decode cX5_greatestWeight 6 = .ok (.istore_n 1, 1) := by decide +kernel
theorem dX5_greatestWeight_7 : decode cX5_greatestWeight 7 = .ok (.iload_n 1, 1) := by decide +kernel
theorem dX5_greatestWeight_8 : decode cX5_greatestWeight 8 = .ok (.sipush 1000, 3) := by decide +kernel
theorem dX5_greatestWeight_11 : decode cX5_greatestWeight 11 = .ok (.if_icmp .lt 43, 3) := by decide +kernel
theorem dX5_greatestWeight_14 : decode cX5_greatestWeight 14 = .ok (.aload_n 0, 1) := by decide +kernel
theorem dX5_greatestWeight_15 : decode cX5_greatestWeight 15 = .ok (.getfield 23, 3) := by decide +kernel
theorem dX5_greatestWeight_18 : decode cX5_greatestWeight 18 = .ok (.iload_n 1, 1) := by decide +kernel
theorem dX5_greatestWeight_19 : decode cX5_greatestWeight 19 = .ok (.putfield 106, 3) := by decide +kernel
theorem dX5_greatestWeight_22 : decode cX5_greatestWeight 22 = .ok (.aload_n 0, 1) := by decide +kernel
theorem dX5_greatestWeight_23 : decode cX5_greatestWeight 23 = .ok (.getfield 26, 3) := by decide +kernel
theorem dX5_greatestWeight_26 : decode cX5_greatestWeight 26 = .ok (.aload_n 0, 1) := by decide +kernel
theorem dX5_greatestWeight_27 : decode cX5_greatestWeight 27 = .ok (.getfield 23, 3) := by decide +kernel
theorem dX5_greatestWeight_30 : decode cX5_greatestWeight 30 = .ok (.invokevirtual 52, 3) := by decide +kernel
theorem dX5_greatestWeight_33 : decode cX5_greatestWeight 33 = .ok (.aload_n 0, 1) := by decide +kernel
theorem dX5_greatestWeight_34 : decode cX5_greatestWeight 34 = .ok (.getfield 26, 3) := by decide +kernel
theorem dX5_greatestWeight_37 : decode cX5_greatestWeight 37 = .ok (.invokevirtual 196, 3) := by decide +kernel
theorem dX5_greatestWeight_40 : decode cX5_greatestWeight 40 = .ok (.ifCond .eq 5, 3) := by decide +kernel
theorem dX5_greatestWeight_43 : decode cX5_greatestWeight 43 = .ok (.iload_n 1, 1) := by decide +kernel
theorem dX5_greatestWeight_44 : decode cX5_greatestWeight 44 = .ok (.ireturn, 1) := by decide +kernel
theorem dX5_greatestWeight_45 : decode cX5_greatestWeight 45 = .ok (.iinc 1 (-1000), 6) := by decide +kernel
theorem dX5_greatestWeight_51 : decode cX5_greatestWeight 51 = .ok (.goto (-44), 3) := by decide +kernel
theorem dX5_greatestWeight_54 : decode cX5_greatestWeight 54 = .ok (.iconst (-1), 1) := by decide +kernel
theorem dX5_greatestWeight_55 : decode cX5_greatestWeight 55 = .ok (.ireturn, 1) := by decide +kernel
set_option maxRecDepth 20000 in
theorem ggX5_bestCenter_X5_startTrial : GoodIn wsX5_bestCenter wsX5_startTrial := goodIn_r _ [9, 1, 10, 11, 12, 13, 14, 15, 16, 17, 18, 19, 20, 21, 22, 23, 24, 25, 86, 87, 88, 89, 90, 91, 92, 93, 94, 95, 96, 97, 98, 99, 100, 101, 102] (by decide +kernel) (by decide +kernel)
set_option maxRecDepth 20000 in
theorem gX5_bestCenter_X5_startTrial : GoodIn wsX5_bestCenter (wsV RX5 68 RX5 yX5_startTrial wsX5_startTrial) := goodIn_app (goodIn_of _ (by decide +kernel)) ggX5_bestCenter_X5_startTrial
set_option maxRecDepth 20000 in
theorem ggX5_bestCenter_X0_find : GoodIn wsX5_bestCenter wsX0_find := goodIn_r _ [30, 31, 32, 33, 34, 35, 36, 37, 29, 38, 39, 40, 41, 42, 43, 44, 45, 46, 47, 48, 49, 50, 51, 52, 53, 8, 54, 55, 56, 57, 58, 59, 60, 61, 62, 63, 64, 65, 66, 67, 68, 69, 70, 71, 72, 73, 74, 75, 76, 77, 103, 104, 105, 106, 107, 108, 109, 110, 111, 93, 94, 95, 96, 97, 98, 99, 100, 101, 102] (by decide +kernel) (by decide +kernel)
set_option maxRecDepth 20000 in
theorem gX5_bestCenter_X0_find : GoodIn wsX5_bestCenter (wsV RX5 52 RX0 yX0_find wsX0_find) := goodIn_app (goodIn_of _ (by decide +kernel)) ggX5_bestCenter_X0_find
set_option maxRecDepth 20000 in
theorem ggX5_bestCenter_X0_greatestLoad : GoodIn wsX5_bestCenter wsX0_greatestLoad := goodIn_r _ [81, 34, 82, 83, 84, 85, 103, 104, 105, 106, 107, 108, 109, 110, 111] (by decide +kernel) (by decide +kernel)
set_option maxRecDepth 20000 in
theorem gX5_bestCenter_X0_greatestLoad : GoodIn wsX5_bestCenter (wsV RX5 118 RX0 yX0_greatestLoad wsX0_greatestLoad) := goodIn_app (goodIn_of _ (by decide +kernel)) ggX5_bestCenter_X0_greatestLoad
theorem dX5_bestCenter_0 : decode cX5_bestCenter 0 = .ok (.iconst (-1), 1) := by decide +kernel
theorem dX5_bestCenter_1 : decode cX5_bestCenter 1 = .ok (.istore_n 1, 1) := by decide +kernel
theorem dX5_bestCenter_2 : decode cX5_bestCenter 2 = .ok (.iconst 0, 1) := by decide +kernel
theorem dX5_bestCenter_3 : decode cX5_bestCenter 3 = .ok (.istore_n 2, 1) := by decide +kernel
theorem dX5_bestCenter_4 : decode cX5_bestCenter 4 = .ok (.aload_n 0, 1) := by decide +kernel
theorem dX5_bestCenter_5 : decode cX5_bestCenter 5 = .ok (.invokevirtual 68, 3) := by decide +kernel
theorem dX5_bestCenter_8 : decode cX5_bestCenter 8 = .ok (.iconst 0, 1) := by decide +kernel
theorem dX5_bestCenter_9 : decode cX5_bestCenter 9 = .ok (.istore_n 3, 1) := by decide +kernel
theorem dX5_bestCenter_10 : decode cX5_bestCenter 10 = .ok (.iload_n 3, 1) := by decide +kernel
theorem dX5_bestCenter_11 : decode cX5_bestCenter 11 = .ok (.sipush 400, 3) := by decide +kernel
theorem dX5_bestCenter_14 : decode cX5_bestCenter 14 = .ok (.if_icmp .gt 64, 3) := by decide +kernel
theorem dX5_bestCenter_17 : decode cX5_bestCenter 17 = .ok (.aload_n 0, 1) := by decide +kernel
theorem dX5_bestCenter_18 : decode cX5_bestCenter 18 = .ok (.getfield 23, 3) := by decide +kernel
theorem dX5_bestCenter_21 : decode cX5_bestCenter 21 = .ok (.iload_n 3, 1) := by decide +kernel
theorem dX5_bestCenter_22 : decode cX5_bestCenter 22 = .ok (.putfield 110, 3) := by decide +kernel
theorem dX5_bestCenter_25 : decode cX5_bestCenter 25 = .ok (.aload_n 0, 1) := by decide +kernel
theorem dX5_bestCenter_26 : decode cX5_bestCenter 26 = .ok (.getfield 26, 3) := by decide +kernel
theorem dX5_bestCenter_29 : decode cX5_bestCenter 29 = .ok (.aload_n 0, 1) := by decide +kernel
theorem dX5_bestCenter_30 : decode cX5_bestCenter 30 = .ok (.getfield 23, 3) := by decide +kernel
theorem dX5_bestCenter_33 : decode cX5_bestCenter 33 = .ok (.invokevirtual 52, 3) := by decide +kernel
theorem dX5_bestCenter_36 : decode cX5_bestCenter 36 = .ok (.aload_n 0, 1) := by decide +kernel
theorem dX5_bestCenter_37 : decode cX5_bestCenter 37 = .ok (.getfield 26, 3) := by decide +kernel
theorem dX5_bestCenter_40 : decode cX5_bestCenter 40 = .ok (.getfield 135, 3) := by decide +kernel
theorem dX5_bestCenter_43 : decode cX5_bestCenter 43 = .ok (.ifCond .eq 29, 3) := by decide +kernel
theorem dX5_bestCenter_46 : decode cX5_bestCenter 46 = .ok (.iload_n 1, 1) := by decide +kernel
theorem dX5_bestCenter_47 : decode cX5_bestCenter 47 = .ok (.iconst (-1), 1) := by decide +kernel
theorem dX5_bestCenter_48 : decode cX5_bestCenter 48 = .ok (.if_icmp .eq 14, 3) := by decide +kernel
theorem dX5_bestCenter_51 : decode cX5_bestCenter 51 = .ok (.aload_n 0, 1) := by decide +kernel
theorem dX5_bestCenter_52 : decode cX5_bestCenter 52 = .ok (.getfield 26, 3) := by decide +kernel
theorem dX5_bestCenter_55 : decode cX5_bestCenter 55 = .ok (.invokevirtual 118, 3) := by decide +kernel
theorem dX5_bestCenter_58 : decode cX5_bestCenter 58 = .ok (.iload_n 2, 1) := by decide +kernel
theorem dX5_bestCenter_59 : decode cX5_bestCenter 59 = .ok (.if_icmp .ge 13, 3) := by decide +kernel
theorem dX5_bestCenter_62 : decode cX5_bestCenter 62 = .ok (.iload_n 3, 1) := by decide +kernel
theorem dX5_bestCenter_63 : decode cX5_bestCenter 63 = .ok (.istore_n 1, 1) := by decide +kernel
theorem dX5_bestCenter_64 : decode cX5_bestCenter 64 = .ok (.aload_n 0, 1) := by decide +kernel
theorem dX5_bestCenter_65 : decode cX5_bestCenter 65 = .ok (.getfield 26, 3) := by decide +kernel
theorem dX5_bestCenter_68 : decode cX5_bestCenter 68 = .ok (.invokevirtual 118, 3) := by decide +kernel
theorem dX5_bestCenter_71 : decode cX5_bestCenter 71 = .ok (.istore_n 2, 1) := by decide +kernel
theorem dX5_bestCenter_72 : decode cX5_bestCenter 72 = .ok (.iinc 3 5, 3) := by decide +kernel
theorem dX5_bestCenter_75 : decode cX5_bestCenter 75 = .ok (.goto (-65), 3) := by decide +kernel
theorem dX5_bestCenter_78 : decode cX5_bestCenter 78 = .ok (.iload_n 1, 1) := by decide +kernel
theorem dX5_bestCenter_79 : decode cX5_bestCenter 79 = .ok (.ireturn, 1) := by decide +kernel
set_option maxRecDepth 20000 in
theorem ggX5_bestPlace_X5_isIn : GoodIn wsX5_bestPlace wsX5_isIn := goodIn_r _ [11] (by decide +kernel) (by decide +kernel)
set_option maxRecDepth 20000 in
theorem gX5_bestPlace_X5_isIn : GoodIn wsX5_bestPlace (va_wsS RX5 56 yX5_isIn wsX5_isIn) := goodIn_app (goodIn_of _ (by decide +kernel)) ggX5_bestPlace_X5_isIn
set_option maxRecDepth 20000 in
theorem ggX5_bestPlace_X1_hasRoom : GoodIn wsX5_bestPlace wsX1_hasRoom := goodIn_r _ [16, 17, 115, 116, 117, 118, 119, 120, 121, 122, 123, 124] (by decide +kernel) (by decide +kernel)
set_option maxRecDepth 20000 in
theorem gX5_bestPlace_X1_hasRoom : GoodIn wsX5_bestPlace (wsV RX5 202 RX1 yX1_hasRoom wsX1_hasRoom) := goodIn_app (goodIn_of _ (by decide +kernel)) ggX5_bestPlace_X1_hasRoom
set_option maxRecDepth 20000 in
theorem ggX5_bestPlace_X5_startTrial : GoodIn wsX5_bestPlace wsX5_startTrial := goodIn_r _ [21, 4, 3, 22, 23, 24, 15, 25, 26, 27, 17, 28, 29, 30, 31, 32, 33, 34, 99, 100, 101, 102, 103, 104, 105, 115, 116, 117, 118, 119, 120, 121, 122, 123, 124] (by decide +kernel) (by decide +kernel)
set_option maxRecDepth 20000 in
theorem gX5_bestPlace_X5_startTrial : GoodIn wsX5_bestPlace (wsV RX5 68 RX5 yX5_startTrial wsX5_startTrial) := goodIn_app (goodIn_of _ (by decide +kernel)) ggX5_bestPlace_X5_startTrial
set_option maxRecDepth 20000 in
theorem ggX5_bestPlace_X1_add : GoodIn wsX5_bestPlace wsX1_add := goodIn_r _ [38, 17, 30, 31, 32, 33, 34, 28, 115, 116, 117, 118, 119, 120, 121, 122, 123, 124] (by decide +kernel) (by decide +kernel)
set_option maxRecDepth 20000 in
theorem gX5_bestPlace_X1_add : GoodIn wsX5_bestPlace (wsV RX5 71 RX1 yX1_add wsX1_add) := goodIn_app (goodIn_of _ (by decide +kernel)) ggX5_bestPlace_X1_add
set_option maxRecDepth 20000 in
theorem ggX5_bestPlace_X0_find : GoodIn wsX5_bestPlace wsX0_find := goodIn_r _ [43, 44, 45, 46, 47, 48, 49, 50, 42, 51, 52, 53, 54, 55, 56, 57, 58, 59, 60, 61, 62, 63, 64, 65, 66, 10, 67, 68, 69, 70, 71, 72, 73, 74, 75, 76, 77, 78, 79, 80, 81, 82, 83, 84, 85, 86, 87, 88, 89, 90, 106, 107, 108, 109, 110, 111, 112, 113, 114, 115, 116, 117, 118, 119, 120, 121, 122, 123, 124] (by decide +kernel) (by decide +kernel)
set_option maxRecDepth 20000 in
theorem gX5_bestPlace_X0_find : GoodIn wsX5_bestPlace (wsV RX5 52 RX0 yX0_find wsX0_find) := goodIn_app (goodIn_of _ (by decide +kernel)) ggX5_bestPlace_X0_find
set_option maxRecDepth 20000 in
theorem ggX5_bestPlace_X0_greatestLoad : GoodIn wsX5_bestPlace wsX0_greatestLoad := goodIn_r _ [94, 47, 95, 96, 97, 98, 106, 107, 108, 109, 110, 111, 112, 113, 114] (by decide +kernel) (by decide +kernel)
set_option maxRecDepth 20000 in
theorem gX5_bestPlace_X0_greatestLoad : GoodIn wsX5_bestPlace (wsV RX5 118 RX0 yX0_greatestLoad wsX0_greatestLoad) := goodIn_app (goodIn_of _ (by decide +kernel)) ggX5_bestPlace_X0_greatestLoad
theorem dX5_bestPlace_0 : decode cX5_bestPlace 0 = .ok (.iload_n 1, 1) := by decide +kernel
theorem dX5_bestPlace_1 : decode cX5_bestPlace 1 = .ok (.iconst 1, 1) := by decide +kernel
theorem dX5_bestPlace_2 : decode cX5_bestPlace 2 = .ok (.bipush 100, 2) := by decide +kernel
theorem dX5_bestPlace_4 : decode cX5_bestPlace 4 = .ok (.invokestatic 56, 3) := by decide +kernel
theorem dX5_bestPlace_7 : decode cX5_bestPlace 7 = .ok (.ifCond .ne 13, 3) := by decide +kernel
theorem dX5_bestPlace_10 : decode cX5_bestPlace 10 = .ok (.new 61, 3) := by decide +kernel
theorem dX5_bestPlace_13 : decode cX5_bestPlace 13 = .ok (.dup, 1) := by decide +kernel
theorem dX5_bestPlace_14 : decode cX5_bestPlace 14 = .ok (.ldc 200, 2) := by decide +kernel
theorem dX5_bestPlace_16 : decode cX5_bestPlace 16 = .ok (.invokespecial 65, 3) := by decide +kernel
theorem dX5_bestPlace_19 : decode cX5_bestPlace 19 = .ok (.athrow, 1) := by decide +kernel
theorem dX5_bestPlace_20 : decode cX5_bestPlace 20 = .ok (.aload_n 0, 1) := by decide +kernel
theorem dX5_bestPlace_21 : decode cX5_bestPlace 21 = .ok (.getfield 10, 3) := by decide +kernel
theorem dX5_bestPlace_24 : decode cX5_bestPlace 24 = .ok (.invokevirtual 202, 3) := by decide +kernel
theorem dX5_bestPlace_27 : decode cX5_bestPlace 27 = .ok (.ifCond .ne 5, 3) := by decide +kernel
theorem dX5_bestPlace_30 : decode cX5_bestPlace 30 = .ok (.iconst (-1), 1) := by decide +kernel
theorem dX5_bestPlace_31 : decode cX5_bestPlace 31 = .ok (.ireturn, 1) := by decide +kernel
theorem dX5_bestPlace_32 : decode cX5_bestPlace 32 = .ok (.iconst (-1), 1) := by decide +kernel
theorem dX5_bestPlace_33 : decode cX5_bestPlace 33 = .ok (.istore_n 2, 1) := by decide +kernel
theorem dX5_bestPlace_34 : decode cX5_bestPlace 34 = .ok (.iconst 0, 1) := by decide +kernel
theorem dX5_bestPlace_35 : decode cX5_bestPlace 35 = .ok (.istore_n 3, 1) := by decide +kernel
theorem dX5_bestPlace_36 : decode cX5_bestPlace 36 = .ok (.iconst 0, 1) := by decide +kernel
theorem dX5_bestPlace_37 : decode cX5_bestPlace 37 = .ok (.istore 4, 2) := by decide +kernel
theorem dX5_bestPlace_39 : decode cX5_bestPlace 39 = .ok (.iload 4, 2) := by decide +kernel
theorem dX5_bestPlace_41 : decode cX5_bestPlace 41 = .ok (.sipush 400, 3) := by decide +kernel
theorem dX5_bestPlace_44 : decode cX5_bestPlace 44 = .ok (.if_icmp .gt 75, 3) := by decide +kernel
theorem dX5_bestPlace_47 : decode cX5_bestPlace 47 = .ok (.aload_n 0, 1) := by decide +kernel
theorem dX5_bestPlace_48 : decode cX5_bestPlace 48 = .ok (.invokevirtual 68, 3) := by decide +kernel
theorem dX5_bestPlace_51 : decode cX5_bestPlace 51 = .ok (.aload_n 0, 1) := by decide +kernel
theorem dX5_bestPlace_52 : decode cX5_bestPlace 52 = .ok (.getfield 23, 3) := by decide +kernel
theorem dX5_bestPlace_55 : decode cX5_bestPlace 55 = .ok (.iload 4, 2) := by decide +kernel
theorem dX5_bestPlace_57 : decode cX5_bestPlace 57 = .ok (.iload_n 1, 1) := by decide +kernel
theorem dX5_bestPlace_58 : decode cX5_bestPlace 58 = .ok (.iconst 0, 1) := by decide +kernel
theorem dX5_bestPlace_59 : decode cX5_bestPlace 59 = .ok (.ldc 60, 2) := by decide +kernel
theorem dX5_bestPlace_61 : decode cX5_bestPlace 61 = .ok (.invokevirtual 71, 3) := by decide +kernel
theorem dX5_bestPlace_64 : decode cX5_bestPlace 64 = .ok (.pop, 1) := by decide +kernel
theorem dX5_bestPlace_65 : decode cX5_bestPlace 65 = .ok (.aload_n 0, 1) := by decide +kernel
theorem dX5_bestPlace_66 : decode cX5_bestPlace 66 = .ok (.getfield 26, 3) := by decide +kernel
theorem dX5_bestPlace_69 : decode cX5_bestPlace 69 = .ok (.aload_n 0, 1) := by decide +kernel
theorem dX5_bestPlace_70 : decode cX5_bestPlace 70 = .ok (.getfield 23, 3) := by decide +kernel
theorem dX5_bestPlace_73 : decode cX5_bestPlace 73 = .ok (.invokevirtual 52, 3) := by decide +kernel
theorem dX5_bestPlace_76 : decode cX5_bestPlace 76 = .ok (.aload_n 0, 1) := by decide +kernel
theorem dX5_bestPlace_77 : decode cX5_bestPlace 77 = .ok (.getfield 26, 3) := by decide +kernel
theorem dX5_bestPlace_80 : decode cX5_bestPlace 80 = .ok (.getfield 135, 3) := by decide +kernel
theorem dX5_bestPlace_83 : decode cX5_bestPlace 83 = .ok (.ifCond .eq 30, 3) := by decide +kernel
theorem dX5_bestPlace_86 : decode cX5_bestPlace 86 = .ok (.iload_n 2, 1) := by decide +kernel
theorem dX5_bestPlace_87 : decode cX5_bestPlace 87 = .ok (.iconst (-1), 1) := by decide +kernel
theorem dX5_bestPlace_88 : decode cX5_bestPlace 88 = .ok (.if_icmp .eq 14, 3) := by decide +kernel
theorem dX5_bestPlace_91 : decode cX5_bestPlace 91 = .ok (.aload_n 0, 1) := by decide +kernel
theorem dX5_bestPlace_92 : decode cX5_bestPlace 92 = .ok (.getfield 26, 3) := by decide +kernel
theorem dX5_bestPlace_95 : decode cX5_bestPlace 95 = .ok (.invokevirtual 118, 3) := by decide +kernel
theorem dX5_bestPlace_98 : decode cX5_bestPlace 98 = .ok (.iload_n 3, 1) := by decide +kernel
theorem dX5_bestPlace_99 : decode cX5_bestPlace 99 = .ok (.if_icmp .ge 14, 3) := by decide +kernel
theorem dX5_bestPlace_102 : decode cX5_bestPlace 102 = .ok (.iload 4, 2) := by decide +kernel
theorem dX5_bestPlace_104 : decode cX5_bestPlace 104 = .ok (.istore_n 2, 1) := by decide +kernel
theorem dX5_bestPlace_105 : decode cX5_bestPlace 105 = .ok (.aload_n 0, 1) := by decide +kernel
theorem dX5_bestPlace_106 : decode cX5_bestPlace 106 = .ok (.getfield 26, 3) := by decide +kernel
theorem dX5_bestPlace_109 : decode cX5_bestPlace 109 = .ok (.invokevirtual 118, 3) := by decide +kernel
theorem dX5_bestPlace_112 : decode cX5_bestPlace 112 = .ok (.istore_n 3, 1) := by decide +kernel
theorem dX5_bestPlace_113 : decode cX5_bestPlace 113 = .ok (.iinc 4 10, 3) := by decide +kernel
theorem dX5_bestPlace_116 : decode cX5_bestPlace 116 = .ok (.goto (-77), 3) := by decide +kernel
theorem dX5_bestPlace_119 : decode cX5_bestPlace 119 = .ok (.iload_n 2, 1) := by decide +kernel
theorem dX5_bestPlace_120 : decode cX5_bestPlace 120 = .ok (.ireturn, 1) := by decide +kernel
set_option maxRecDepth 20000 in
theorem ggX5_append_X5_isIn : GoodIn wsX5_append wsX5_isIn := goodIn_r _ [10] (by decide +kernel) (by decide +kernel)
set_option maxRecDepth 20000 in
theorem gX5_append_X5_isIn : GoodIn wsX5_append (va_wsS RX5 56 yX5_isIn wsX5_isIn) := goodIn_app (goodIn_of _ (by decide +kernel)) ggX5_append_X5_isIn
set_option maxRecDepth 20000 in
theorem ggX5_append_X3_add : GoodIn wsX5_append wsX3_add := goodIn_r _ [15, 16, 17, 25, 26] (by decide +kernel) (by decide +kernel)
set_option maxRecDepth 20000 in
theorem gX5_append_X3_add : GoodIn wsX5_append (wsV RX5 212 RX3 yX3_add wsX3_add) := goodIn_app (goodIn_of _ (by decide +kernel)) ggX5_append_X3_add
theorem dX5_append_0 : decode cX5_append 0 = .ok (.iload_n 1, 1) := by decide +kernel
theorem dX5_append_1 : decode cX5_append 1 = .ok (.iconst 0, 1) := by decide +kernel
theorem dX5_append_2 : decode cX5_append 2 = .ok (.bipush 127, 2) := by decide +kernel
theorem dX5_append_4 : decode cX5_append 4 = .ok (.invokestatic 56, 3) := by decide +kernel
