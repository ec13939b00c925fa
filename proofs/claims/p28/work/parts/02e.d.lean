theorem dX5_append_7 : decode cX5_append 7 = .ok (.ifCond .ne 13, 3) := by decide +kernel
theorem dX5_append_10 : decode cX5_append 10 = .ok (.new 61, 3) := by decide +kernel
theorem dX5_append_13 : decode cX5_append 13 = .ok (.dup, 1) := by decide +kernel
theorem dX5_append_14 : decode cX5_append 14 = .ok (.ldc 205, 2) := by decide +kernel
theorem dX5_append_16 : decode cX5_append 16 = .ok (.invokespecial 65, 3) := by decide +kernel
theorem dX5_append_19 : decode cX5_append 19 = .ok (.athrow, 1) := by decide +kernel
theorem dX5_append_20 : decode cX5_append 20 = .ok (.aload_n 0, 1) := by decide +kernel
theorem dX5_append_21 : decode cX5_append 21 = .ok (.getfield 39, 3) := by decide +kernel
theorem dX5_append_24 : decode cX5_append 24 = .ok (.getfield 207, 3) := by decide +kernel
theorem dX5_append_27 : decode cX5_append 27 = .ok (.sipush 160, 3) := by decide +kernel
theorem dX5_append_30 : decode cX5_append 30 = .ok (.if_icmp .lt 13, 3) := by decide +kernel
theorem dX5_append_33 : decode cX5_append 33 = .ok (.new 75, 3) := by decide +kernel
theorem dX5_append_36 : decode cX5_append 36 = .ok (.dup, 1) := by decide +kernel
theorem dX5_append_37 : decode cX5_append 37 = .ok (.ldc 210, 2) := by decide +kernel
theorem dX5_append_39 : decode cX5_append 39 = .ok (.invokespecial 79, 3) := by decide +kernel
theorem dX5_append_42 : decode cX5_append 42 = .ok (.athrow, 1) := by decide +kernel
theorem dX5_append_43 : decode cX5_append 43 = .ok (.aload_n 0, 1) := by decide +kernel
theorem dX5_append_44 : decode cX5_append 44 = .ok (.getfield 39, 3) := by decide +kernel
theorem dX5_append_47 : decode cX5_append 47 = .ok (.iload_n 1, 1) := by decide +kernel
theorem dX5_append_48 : decode cX5_append 48 = .ok (.invokevirtual 212, 3) := by decide +kernel
theorem dX5_append_51 : decode cX5_append 51 = .ok (.aload_n 0, 1) := by decide +kernel
theorem dX5_append_52 : decode cX5_append 52 = .ok (.getfield 39, 3) := by decide +kernel
theorem dX5_append_55 : decode cX5_append 55 = .ok (.getfield 207, 3) := by decide +kernel
theorem dX5_append_58 : decode cX5_append 58 = .ok (.ireturn, 1) := by decide +kernel
set_option maxRecDepth 20000 in
theorem ggX5_undo_X4_takeNewest : GoodIn wsX5_undo wsX4_takeNewest := goodIn_r _ [11, 12, 13, 14, 15, 16, 17, 18, 94, 95, 96] (by decide +kernel) (by decide +kernel)
set_option maxRecDepth 20000 in
theorem gX5_undo_X4_takeNewest : GoodIn wsX5_undo (wsV RX5 221 RX4 yX4_takeNewest wsX4_takeNewest) := goodIn_app (goodIn_of _ (by decide +kernel)) ggX5_undo_X4_takeNewest
set_option maxRecDepth 20000 in
theorem ggX5_undo_X1_copyFrom : GoodIn wsX5_undo wsX1_copyFrom := goodIn_r _ [23, 24, 25, 26, 27, 28, 29, 30, 31, 32, 33, 97, 98, 99, 100, 101, 102, 103, 104, 105, 106] (by decide +kernel) (by decide +kernel)
set_option maxRecDepth 20000 in
theorem gX5_undo_X1_copyFrom : GoodIn wsX5_undo (wsV RX5 227 RX1 yX1_copyFrom wsX1_copyFrom) := goodIn_app (goodIn_of _ (by decide +kernel)) ggX5_undo_X1_copyFrom
set_option maxRecDepth 20000 in
theorem ggX5_undo_X0_find : GoodIn wsX5_undo wsX0_find := goodIn_r _ [38, 39, 40, 41, 42, 43, 44, 45, 37, 46, 47, 48, 49, 50, 51, 52, 53, 54, 55, 56, 57, 58, 59, 60, 61, 62, 63, 64, 65, 66, 67, 68, 69, 70, 71, 72, 73, 74, 75, 76, 77, 78, 79, 80, 81, 82, 83, 84, 85, 86, 107, 108, 109, 110, 111, 112, 113, 114, 115, 97, 98, 99, 100, 101, 102, 103, 104, 105, 106] (by decide +kernel) (by decide +kernel)
set_option maxRecDepth 20000 in
theorem gX5_undo_X0_find : GoodIn wsX5_undo (wsV RX5 52 RX0 yX0_find wsX0_find) := goodIn_app (goodIn_of _ (by decide +kernel)) ggX5_undo_X0_find
theorem dX5_undo_0 : decode cX5_undo 0 = .ok (.aload_n 0, 1) := by decide +kernel
theorem dX5_undo_1 : decode cX5_undo 1 = .ok (.getfield 32, 3) := by decide +kernel
theorem dX5_undo_4 : decode cX5_undo 4 = .ok (.invokevirtual 221, 3) := by decide +kernel
theorem dX5_undo_7 : decode cX5_undo 7 = .ok (.astore_n 1, 1) := by decide +kernel
theorem dX5_undo_8 : decode cX5_undo 8 = .ok (.aload_n 1, 1) := by decide +kernel
theorem dX5_undo_9 : decode cX5_undo 9 = .ok (.ifnonnull 13, 3) := by decide +kernel
theorem dX5_undo_12 : decode cX5_undo 12 = .ok (.new 75, 3) := by decide +kernel
theorem dX5_undo_15 : decode cX5_undo 15 = .ok (.dup, 1) := by decide +kernel
theorem dX5_undo_16 : decode cX5_undo 16 = .ok (.ldc 225, 2) := by decide +kernel
theorem dX5_undo_18 : decode cX5_undo 18 = .ok (.invokespecial 79, 3) := by decide +kernel
theorem dX5_undo_21 : decode cX5_undo 21 = .ok (.athrow, 1) := by decide +kernel
theorem dX5_undo_22 : decode cX5_undo 22 = .ok (.aload_n 0, 1) := by decide +kernel
theorem dX5_undo_23 : decode cX5_undo 23 = .ok (.getfield 10, 3) := by decide +kernel
theorem dX5_undo_26 : decode cX5_undo 26 = .ok (.aload_n 1, 1) := by decide +kernel
theorem dX5_undo_27 : decode cX5_undo 27 = .ok (.invokevirtual 227, 3) := by decide +kernel
theorem dX5_undo_30 : decode cX5_undo 30 = .ok (.aload_n 0, 1) := by decide +kernel
theorem dX5_undo_31 : decode cX5_undo 31 = .ok (.getfield 19, 3) := by decide +kernel
theorem dX5_undo_34 : decode cX5_undo 34 = .ok (.aload_n 0, 1) := by decide +kernel
theorem dX5_undo_35 : decode cX5_undo 35 = .ok (.getfield 10, 3) := by decide +kernel
theorem dX5_undo_38 : decode cX5_undo 38 = .ok (.invokevirtual 52, 3) := by decide +kernel
theorem dX5_undo_41 : decode cX5_undo 41 = .ok (.aload_n 0, 1) := by decide +kernel
theorem dX5_undo_42 : decode cX5_undo 42 = .ok (.getfield 32, 3) := by decide +kernel
theorem dX5_undo_45 : decode cX5_undo 45 = .ok (.getfield 230, 3) := by decide +kernel
theorem dX5_undo_48 : decode cX5_undo 48 = .ok (.ireturn, 1) := by decide +kernel
set_option maxRecDepth 20000 in
theorem ggX5_digest_X5_value : GoodIn wsX5_digest wsX5_value := goodIn_ca (goodIn_r _ [13, 14, 15, 5, 16, 17, 6, 18, 19, 20, 21, 22, 23, 24, 25, 26, 27, 28, 29, 30, 31, 32, 33, 34, 35, 36, 37, 38, 39, 40, 41, 42, 43, 44, 45, 83, 84, 85, 86, 87, 88, 89, 92, 93, 94, 95, 96, 97, 98, 99, 100, 101, 105, 106, 107, 108, 109, 110, 111, 112, 113] (by decide +kernel) (by decide +kernel)) (goodIn_sub (fun _ h => List.mem_cons_of_mem _ (List.mem_append_left _ (List.mem_append_right _ h))) (by decide +kernel))
set_option maxRecDepth 20000 in
theorem gX5_digest_X5_value : GoodIn wsX5_digest (wsV RX5 237 RX5 yX5_value wsX5_value) := goodIn_app (goodIn_of _ (by decide +kernel)) ggX5_digest_X5_value
set_option maxRecDepth 20000 in
theorem ggX5_digest_X5_balance : GoodIn wsX5_digest wsX5_balance := goodIn_ca (goodIn_r _ [49, 14, 15, 19, 22, 50, 51, 52, 53, 54, 12, 55, 83, 84, 85, 86, 87, 88, 89, 105, 106, 107, 108, 109, 110, 111, 112, 113] (by decide +kernel) (by decide +kernel)) (goodIn_sub (fun _ h => List.mem_cons_of_mem _ (List.mem_append_left _ (List.mem_append_right _ h))) (by decide +kernel))
set_option maxRecDepth 20000 in
theorem gX5_digest_X5_balance : GoodIn wsX5_digest (wsV RX5 240 RX5 yX5_balance wsX5_balance) := goodIn_app (goodIn_of _ (by decide +kernel)) ggX5_digest_X5_balance
set_option maxRecDepth 20000 in
theorem ggX5_digest_X5_block : GoodIn wsX5_digest wsX5_block := goodIn_ca (goodIn_ca (goodIn_r _ [59, 60, 61, 14, 15, 5, 62, 63, 64, 65, 19, 66, 20, 21, 67, 68, 69, 70, 71, 72, 73, 74, 75, 76, 77, 78, 79, 80, 12, 81, 82, 83, 84, 85, 86, 87, 88, 89, 92, 93, 94, 95, 96, 97, 98, 99, 100, 101, 105, 106, 107, 108, 109, 110, 111, 112, 113] (by decide +kernel) (by decide +kernel)) (goodIn_sub (fun _ h => List.mem_cons_of_mem _ (List.mem_append_right _ h)) (by decide +kernel))) (goodIn_sub (fun _ h => List.mem_cons_of_mem _ (List.mem_append_left _ (List.mem_append_right _ h))) (by decide +kernel))
set_option maxRecDepth 20000 in
theorem gX5_digest_X5_block : GoodIn wsX5_digest (wsV RX5 244 RX5 yX5_block wsX5_block) := goodIn_app (goodIn_of _ (by decide +kernel)) ggX5_digest_X5_block
theorem dX5_digest_0 : decode cX5_digest 0 = .ok (.ldc2_w 233, 3) := by decide +kernel
theorem dX5_digest_3 : decode cX5_digest 3 = .ok (.aload_n 0, 1) := by decide +kernel
theorem dX5_digest_4 : decode cX5_digest 4 = .ok (.getfield 39, 3) := by decide +kernel
theorem dX5_digest_7 : decode cX5_digest 7 = .ok (.getfield 207, 3) := by decide +kernel
theorem dX5_digest_10 : decode cX5_digest 10 = .ok (.i2l, 1) := by decide +kernel
theorem dX5_digest_11 : decode cX5_digest 11 = .ok (.ladd, 1) := by decide +kernel
theorem dX5_digest_12 : decode cX5_digest 12 = .ok (.lstore_n 1, 1) := by decide +kernel
theorem dX5_digest_13 : decode cX5_digest 13 = .ok (.iconst 0, 1) := by decide +kernel
theorem dX5_digest_14 : decode cX5_digest 14 = .ok (.istore_n 3, 1) := by decide +kernel
theorem dX5_digest_15 : decode cX5_digest 15 = .ok (.iload_n 3, 1) := by decide +kernel
theorem dX5_digest_16 : decode cX5_digest 16 = .ok (.bipush 10, 2) := by decide +kernel
theorem dX5_digest_18 : decode cX5_digest 18 = .ok (.if_icmp .ge 22, 3) := by decide +kernel
theorem dX5_digest_21 : decode cX5_digest 21 = .ok (.ldc2_w 235, 3) := by decide +kernel
theorem dX5_digest_24 : decode cX5_digest 24 = .ok (.lload_n 1, 1) := by decide +kernel
theorem dX5_digest_25 : decode cX5_digest 25 = .ok (.lmul, 1) := by decide +kernel
theorem dX5_digest_26 : decode cX5_digest 26 = .ok (.aload_n 0, 1) := by decide +kernel
theorem dX5_digest_27 : decode cX5_digest 27 = .ok (.iload_n 3, 1) := by decide +kernel
theorem dX5_digest_28 : decode cX5_digest 28 = .ok (.invokevirtual 237, 3) := by decide +kernel
theorem dX5_digest_31 : decode cX5_digest 31 = .ok (.i2l, 1) := by decide +kernel
theorem dX5_digest_32 : decode cX5_digest 32 = .ok (.ladd, 1) := by decide +kernel
theorem dX5_digest_33 : decode cX5_digest 33 = .ok (.lstore_n 1, 1) := by decide +kernel
theorem dX5_digest_34 : decode cX5_digest 34 = .ok (.iinc 3 1, 3) := by decide +kernel
theorem dX5_digest_37 : decode cX5_digest 37 = .ok (.goto (-22), 3) := by decide +kernel
theorem dX5_digest_40 : decode cX5_digest 40 = .ok (.iconst 0, 1) := by decide +kernel
theorem dX5_digest_41 : decode cX5_digest 41 = .ok (.istore_n 3, 1) := by decide +kernel
theorem dX5_digest_42 : decode cX5_digest 42 = .ok (.iload_n 3, 1) := by decide +kernel
theorem dX5_digest_43 : decode cX5_digest 43 = .ok (.iconst 3, 1) := by decide +kernel
theorem dX5_digest_44 : decode cX5_digest 44 = .ok (.if_icmp .ge 21, 3) := by decide +kernel
theorem dX5_digest_47 : decode cX5_digest 47 = .ok (.ldc2_w 235, 3) := by decide +kernel
theorem dX5_digest_50 : decode cX5_digest 50 = .ok (.lload_n 1, 1) := by decide +kernel
theorem dX5_digest_51 : decode cX5_digest 51 = .ok (.lmul, 1) := by decide +kernel
theorem dX5_digest_52 : decode cX5_digest 52 = .ok (.aload_n 0, 1) := by decide +kernel
theorem dX5_digest_53 : decode cX5_digest 53 = .ok (.iload_n 3, 1) := by decide +kernel
theorem dX5_digest_54 : decode cX5_digest 54 = .ok (.invokevirtual 240, 3) := by decide +kernel
theorem dX5_digest_57 : decode cX5_digest 57 = .ok (.ladd, 1) := by decide +kernel
theorem dX5_digest_58 : decode cX5_digest 58 = .ok (.lstore_n 1, 1) := by decide +kernel
theorem dX5_digest_59 : decode cX5_digest 59 = .ok (.iinc 3 1, 3) := by decide +kernel
theorem dX5_digest_62 : decode cX5_digest 62 = .ok (.goto (-20), 3) := by decide +kernel
theorem dX5_digest_65 : decode cX5_digest 65 = .ok (.iconst 0, 1) := by decide +kernel
theorem dX5_digest_66 : decode cX5_digest 66 = .ok (.istore_n 3, 1) := by decide +kernel
theorem dX5_digest_67 : decode cX5_digest 67 = .ok (.iload_n 3, 1) := by decide +kernel
theorem dX5_digest_68 : decode cX5_digest 68 = .ok (.aload_n 0, 1) := by decide +kernel
theorem dX5_digest_69 : decode cX5_digest 69 = .ok (.getfield 10, 3) := by decide +kernel
theorem dX5_digest_72 : decode cX5_digest 72 = .ok (.getfield 174, 3) := by decide +kernel
theorem dX5_digest_75 : decode cX5_digest 75 = .ok (.if_icmp .ge 40, 3) := by decide +kernel
theorem dX5_digest_78 : decode cX5_digest 78 = .ok (.iconst 0, 1) := by decide +kernel
theorem dX5_digest_79 : decode cX5_digest 79 = .ok (.istore 4, 2) := by decide +kernel
theorem dX5_digest_81 : decode cX5_digest 81 = .ok (.iload 4, 2) := by decide +kernel
theorem dX5_digest_83 : decode cX5_digest 83 = .ok (.bipush 9, 2) := by decide +kernel
theorem dX5_digest_85 : decode cX5_digest 85 = .ok (.if_icmp .ge 24, 3) := by decide +kernel
theorem dX5_digest_88 : decode cX5_digest 88 = .ok (.ldc2_w 235, 3) := by decide +kernel
theorem dX5_digest_91 : decode cX5_digest 91 = .ok (.lload_n 1, 1) := by decide +kernel
theorem dX5_digest_92 : decode cX5_digest 92 = .ok (.lmul, 1) := by decide +kernel
theorem dX5_digest_93 : decode cX5_digest 93 = .ok (.aload_n 0, 1) := by decide +kernel
theorem dX5_digest_94 : decode cX5_digest 94 = .ok (.iload_n 3, 1) := by decide +kernel
theorem dX5_digest_95 : decode cX5_digest 95 = .ok (.iload 4, 2) := by decide +kernel
theorem dX5_digest_97 : decode cX5_digest 97 = .ok (.invokevirtual 244, 3) := by decide +kernel
theorem dX5_digest_100 : decode cX5_digest 100 = .ok (.i2l, 1) := by decide +kernel
theorem dX5_digest_101 : decode cX5_digest 101 = .ok (.ladd, 1) := by decide +kernel
theorem dX5_digest_102 : decode cX5_digest 102 = .ok (.lstore_n 1, 1) := by decide +kernel
theorem dX5_digest_103 : decode cX5_digest 103 = .ok (.iinc 4 1, 3) := by decide +kernel
theorem dX5_digest_106 : decode cX5_digest 106 = .ok (.goto (-25), 3) := by decide +kernel
theorem dX5_digest_109 : decode cX5_digest 109 = .ok (.iinc 3 1, 3) := by decide +kernel
theorem dX5_digest_112 : decode cX5_digest 112 = .ok (.goto (-45), 3) := by decide +kernel
theorem dX5_digest_115 : decode cX5_digest 115 = .ok (.ldc2_w 235, 3) := by decide +kernel
theorem dX5_digest_118 : decode cX5_digest 118 = .ok (.lload_n 1, 1) := by decide +kernel
theorem dX5_digest_119 : decode cX5_digest 119 = .ok (.lmul, 1) := by decide +kernel
theorem dX5_digest_120 : decode cX5_digest 120 = .ok (.aload_n 0, 1) := by decide +kernel
theorem dX5_digest_121 : decode cX5_digest 121 = .ok (.getfield 32, 3) := by decide +kernel
theorem dX5_digest_124 : decode cX5_digest 124 = .ok (.getfield 230, 3) := by decide +kernel
theorem dX5_digest_127 : decode cX5_digest 127 = .ok (.i2l, 1) := by decide +kernel
theorem dX5_digest_128 : decode cX5_digest 128 = .ok (.ladd, 1) := by decide +kernel
theorem dX5_digest_129 : decode cX5_digest 129 = .ok (.lreturn, 1) := by decide +kernel
set_option maxRecDepth 20000 in
theorem ggX5_startTrial_X1_copyFrom : GoodIn wsX5_startTrial wsX1_copyFrom := goodIn_r _ [7, 8, 9, 10, 11, 12, 13, 14, 15, 16, 17, 25, 26, 27, 28, 29, 30, 31, 32, 33, 34] (by decide +kernel) (by decide +kernel)
set_option maxRecDepth 20000 in
theorem gX5_startTrial_X1_copyFrom : GoodIn wsX5_startTrial (wsV RX5 227 RX1 yX1_copyFrom wsX1_copyFrom) := goodIn_app (goodIn_of _ (by decide +kernel)) ggX5_startTrial_X1_copyFrom
theorem dX5_startTrial_0 : decode cX5_startTrial 0 = .ok (.aload_n 0, 1) := by decide +kernel
theorem dX5_startTrial_1 : decode cX5_startTrial 1 = .ok (.getfield 23, 3) := by decide +kernel
theorem dX5_startTrial_4 : decode cX5_startTrial 4 = .ok (.aload_n 0, 1) := by decide +kernel
theorem dX5_startTrial_5 : decode cX5_startTrial 5 = .ok (.getfield 10, 3) := by decide +kernel
theorem dX5_startTrial_8 : decode cX5_startTrial 8 = .ok (.invokevirtual 227, 3) := by decide +kernel
theorem dX5_startTrial_11 : decode cX5_startTrial 11 = .ok (.return_, 1) := by decide +kernel
set_option maxRecDepth 20000 in
theorem ggX5_keepTrial_X4_save : GoodIn wsX5_keepTrial wsX4_save := goodIn_r _ [9, 10, 11, 12, 13, 14, 15, 16, 17, 18, 19, 20, 21, 22, 23, 24, 25, 26, 27, 28, 29, 30, 31, 32, 33, 34, 35, 36, 37, 38, 39, 40, 41, 42, 43, 105, 106, 107, 108, 109, 110, 111, 112, 113, 114, 115, 116, 117] (by decide +kernel) (by decide +kernel)
set_option maxRecDepth 20000 in
theorem gX5_keepTrial_X4_save : GoodIn wsX5_keepTrial (wsV RX5 248 RX4 yX4_save wsX4_save) := goodIn_app (goodIn_of _ (by decide +kernel)) ggX5_keepTrial_X4_save
set_option maxRecDepth 20000 in
theorem ggX5_keepTrial_X1_copyFrom : GoodIn wsX5_keepTrial wsX1_copyFrom := goodIn_r _ [43, 29, 30, 31, 32, 33, 35, 36, 37, 38, 39, 108, 109, 110, 111, 112, 113, 114, 115, 116, 117] (by decide +kernel) (by decide +kernel)
set_option maxRecDepth 20000 in
theorem gX5_keepTrial_X1_copyFrom : GoodIn wsX5_keepTrial (wsV RX5 227 RX1 yX1_copyFrom wsX1_copyFrom) := goodIn_app (goodIn_of _ (by decide +kernel)) ggX5_keepTrial_X1_copyFrom
set_option maxRecDepth 20000 in
theorem ggX5_keepTrial_X0_find : GoodIn wsX5_keepTrial wsX0_find := goodIn_r _ [49, 50, 51, 52, 53, 54, 55, 56, 48, 57, 58, 59, 60, 61, 62, 63, 64, 65, 66, 67, 68, 69, 70, 71, 72, 73, 74, 75, 76, 77, 78, 79, 80, 81, 82, 83, 84, 85, 86, 87, 88, 89, 90, 91, 92, 93, 94, 95, 96, 97, 118, 119, 120, 121, 122, 123, 124, 125, 126, 108, 109, 110, 111, 112, 113, 114, 115, 116, 117] (by decide +kernel) (by decide +kernel)
set_option maxRecDepth 20000 in
theorem gX5_keepTrial_X0_find : GoodIn wsX5_keepTrial (wsV RX5 52 RX0 yX0_find wsX0_find) := goodIn_app (goodIn_of _ (by decide +kernel)) ggX5_keepTrial_X0_find
theorem dX5_keepTrial_0 : decode cX5_keepTrial 0 = .ok (.aload_n 0, 1) := by decide +kernel
theorem dX5_keepTrial_1 : decode cX5_keepTrial 1 = .ok (.getfield 32, 3) := by decide +kernel
theorem dX5_keepTrial_4 : decode cX5_keepTrial 4 = .ok (.aload_n 0, 1) := by decide +kernel
theorem dX5_keepTrial_5 : decode cX5_keepTrial 5 = .ok (.getfield 10, 3) := by decide +kernel
theorem dX5_keepTrial_8 : decode cX5_keepTrial 8 = .ok (.invokevirtual 248, 3) := by decide +kernel
theorem dX5_keepTrial_11 : decode cX5_keepTrial 11 = .ok (.aload_n 0, 1) := by decide +kernel
theorem dX5_keepTrial_12 : decode cX5_keepTrial 12 = .ok (.getfield 10, 3) := by decide +kernel
theorem dX5_keepTrial_15 : decode cX5_keepTrial 15 = .ok (.aload_n 0, 1) := by decide +kernel
theorem dX5_keepTrial_16 : decode cX5_keepTrial 16 = .ok (.getfield 23, 3) := by decide +kernel
theorem dX5_keepTrial_19 : decode cX5_keepTrial 19 = .ok (.invokevirtual 227, 3) := by decide +kernel
theorem dX5_keepTrial_22 : decode cX5_keepTrial 22 = .ok (.aload_n 0, 1) := by decide +kernel
theorem dX5_keepTrial_23 : decode cX5_keepTrial 23 = .ok (.getfield 19, 3) := by decide +kernel
theorem dX5_keepTrial_26 : decode cX5_keepTrial 26 = .ok (.aload_n 0, 1) := by decide +kernel
theorem dX5_keepTrial_27 : decode cX5_keepTrial 27 = .ok (.getfield 10, 3) := by decide +kernel
theorem dX5_keepTrial_30 : decode cX5_keepTrial 30 = .ok (.invokevirtual 52, 3) := by decide +kernel
theorem dX5_keepTrial_33 : decode cX5_keepTrial 33 = .ok (.return_, 1) := by decide +kernel
set_option maxRecDepth 20000 in
theorem ggX5_canPull_X5_isMember : GoodIn wsX5_canPull wsX5_isMember := goodIn_r _ [8] (by decide +kernel) (by decide +kernel)
set_option maxRecDepth 20000 in
theorem gX5_canPull_X5_isMember : GoodIn wsX5_canPull (va_wsS RX5 125 yX5_isMember wsX5_isMember) := goodIn_app (goodIn_of _ (by decide +kernel)) ggX5_canPull_X5_isMember
set_option maxRecDepth 20000 in
theorem ggX5_canPull_X5_startTrial : GoodIn wsX5_canPull wsX5_startTrial := goodIn_r _ [12, 3, 1, 13, 14, 15, 16, 17, 18, 19, 20, 21, 22, 23, 24, 25, 26, 27, 86, 87, 88, 89, 90, 91, 92, 93, 94, 95, 96, 97, 98, 99, 100, 101, 102] (by decide +kernel) (by decide +kernel)
set_option maxRecDepth 20000 in
theorem gX5_canPull_X5_startTrial : GoodIn wsX5_canPull (wsV RX5 68 RX5 yX5_startTrial wsX5_startTrial) := goodIn_app (goodIn_of _ (by decide +kernel)) ggX5_canPull_X5_startTrial
set_option maxRecDepth 20000 in
theorem ggX5_canPull_X1_pullOut : GoodIn wsX5_canPull wsX1_pullOut := goodIn_r _ [31, 21, 93, 94, 95, 96, 97, 98, 99, 100, 101, 102] (by decide +kernel) (by decide +kernel)
set_option maxRecDepth 20000 in
theorem gX5_canPull_X1_pullOut : GoodIn wsX5_canPull (wsV RX5 193 RX1 yX1_pullOut wsX1_pullOut) := goodIn_app (goodIn_of _ (by decide +kernel)) ggX5_canPull_X1_pullOut
set_option maxRecDepth 20000 in
theorem ggX5_canPull_X0_find : GoodIn wsX5_canPull wsX0_find := goodIn_r _ [36, 37, 38, 39, 40, 41, 42, 43, 35, 44, 45, 46, 47, 48, 49, 50, 51, 52, 53, 54, 55, 56, 57, 58, 6, 7, 8, 59, 60, 61, 62, 63, 64, 65, 66, 67, 68, 69, 70, 71, 72, 73, 74, 75, 76, 77, 78, 79, 80, 81, 103, 104, 105, 106, 107, 108, 109, 110, 111, 93, 94, 95, 96, 97, 98, 99, 100, 101, 102] (by decide +kernel) (by decide +kernel)
set_option maxRecDepth 20000 in
theorem gX5_canPull_X0_find : GoodIn wsX5_canPull (wsV RX5 52 RX0 yX0_find wsX0_find) := goodIn_app (goodIn_of _ (by decide +kernel)) ggX5_canPull_X0_find
set_option maxRecDepth 20000 in
theorem ggX5_canPull_X0_isSafe : GoodIn wsX5_canPull wsX0_isSafe := goodIn_r _ [85, 37, 39, 103, 104, 105, 106, 107, 108, 109, 110, 111] (by decide +kernel) (by decide +kernel)
set_option maxRecDepth 20000 in
theorem gX5_canPull_X0_isSafe : GoodIn wsX5_canPull (wsV RX5 196 RX0 yX0_isSafe wsX0_isSafe) := goodIn_app (goodIn_of _ (by decide +kernel)) ggX5_canPull_X0_isSafe
theorem dX5_canPull_0 : decode cX5_canPull 0 = .ok (.aload_n 0, 1) := by decide +kernel
theorem dX5_canPull_1 : decode cX5_canPull 1 = .ok (.getfield 10, 3) := by decide +kernel
theorem dX5_canPull_4 : decode cX5_canPull 4 = .ok (.getfield 122, 3) := by decide +kernel
theorem dX5_canPull_7 : decode cX5_canPull 7 = .ok (.iload_n 1, 1) := by decide +kernel
theorem dX5_canPull_8 : decode cX5_canPull 8 = .ok (.invokestatic 125, 3) := by decide +kernel
theorem dX5_canPull_11 : decode cX5_canPull 11 = .ok (.ifCond .ne 5, 3) := by decide +kernel
theorem dX5_canPull_14 : decode cX5_canPull 14 = .ok (.iconst 0, 1) := by decide +kernel
theorem dX5_canPull_15 : decode cX5_canPull 15 = .ok (.ireturn, 1) := by decide +kernel
theorem dX5_canPull_16 : decode cX5_canPull 16 = .ok (.aload_n 0, 1) := by decide +kernel
theorem dX5_canPull_17 : decode cX5_canPull 17 = .ok (.invokevirtual 68, 3) := by decide +kernel
theorem dX5_canPull_20 : decode cX5_canPull 20 = .ok (.aload_n 0, 1) := by decide +kernel
theorem dX5_canPull_21 : decode cX5_canPull 21 = .ok (.getfield 23, 3) := by decide +kernel
theorem dX5_canPull_24 : decode cX5_canPull 24 = .ok (.iload_n 1, 1) := by decide +kernel
theorem dX5_canPull_25 : decode cX5_canPull 25 = .ok (.invokevirtual 193, 3) := by decide +kernel
theorem dX5_canPull_28 : decode cX5_canPull 28 = .ok (.aload_n 0, 1) := by decide +kernel
theorem dX5_canPull_29 : decode cX5_canPull 29 = .ok (.getfield 26, 3) := by decide +kernel
theorem dX5_canPull_32 : decode cX5_canPull 32 = .ok (.aload_n 0, 1) := by decide +kernel
theorem dX5_canPull_33 : decode cX5_canPull 33 = .ok (.getfield 23, 3) := by decide +kernel
theorem dX5_canPull_36 : decode cX5_canPull 36 = .ok (.invokevirtual 52, 3) := by decide +kernel
theorem dX5_canPull_39 : decode cX5_canPull 39 = .ok (.aload_n 0, 1) := by decide +kernel
theorem dX5_canPull_40 : decode cX5_canPull 40 = .ok (.getfield 26, 3) := by decide +kernel
theorem dX5_canPull_43 : decode cX5_canPull 43 = .ok (.invokevirtual 196, 3) := by decide +kernel
theorem dX5_canPull_46 : decode cX5_canPull 46 = .ok (.ireturn, 1) := by decide +kernel
set_option maxRecDepth 20000 in
theorem ggX5_tryCascade_X5_startTrial : GoodIn wsX5_tryCascade wsX5_startTrial := goodIn_r _ [8, 2, 9, 10, 11, 12, 13, 14, 15, 16, 17, 18, 19, 20, 21, 22, 23, 24, 81, 82, 83, 84, 85, 86, 87, 97, 98, 99, 100, 101, 102, 103, 104, 105, 106] (by decide +kernel) (by decide +kernel)
set_option maxRecDepth 20000 in
theorem gX5_tryCascade_X5_startTrial : GoodIn wsX5_tryCascade (wsV RX5 68 RX5 yX5_startTrial wsX5_startTrial) := goodIn_app (goodIn_of _ (by decide +kernel)) ggX5_tryCascade_X5_startTrial
set_option maxRecDepth 20000 in
theorem ggX5_tryCascade_X0_find : GoodIn wsX5_tryCascade wsX0_find := goodIn_r _ [29, 30, 31, 32, 33, 34, 35, 36, 28, 37, 38, 39, 40, 41, 42, 43, 44, 45, 46, 47, 48, 49, 50, 51, 52, 7, 53, 54, 55, 56, 57, 58, 59, 60, 61, 62, 63, 64, 65, 66, 67, 68, 69, 70, 71, 72, 73, 74, 75, 76, 88, 89, 90, 91, 92, 93, 94, 95, 96, 97, 98, 99, 100, 101, 102, 103, 104, 105, 106] (by decide +kernel) (by decide +kernel)
set_option maxRecDepth 20000 in
theorem gX5_tryCascade_X0_find : GoodIn wsX5_tryCascade (wsV RX5 52 RX0 yX0_find wsX0_find) := goodIn_app (goodIn_of _ (by decide +kernel)) ggX5_tryCascade_X0_find
set_option maxRecDepth 20000 in
theorem ggX5_tryCascade_X1_crush : GoodIn wsX5_tryCascade wsX1_crush := goodIn_r _ [80, 18, 19, 97, 98, 99, 100, 101, 102, 103, 104, 105, 106] (by decide +kernel) (by decide +kernel)
set_option maxRecDepth 20000 in
theorem gX5_tryCascade_X1_crush : GoodIn wsX5_tryCascade (wsV RX5 251 RX1 yX1_crush wsX1_crush) := goodIn_app (goodIn_of _ (by decide +kernel)) ggX5_tryCascade_X1_crush
theorem dX5_tryCascade_0 : decode cX5_tryCascade 0 = .ok (.aload_n 0, 1) := by decide +kernel
theorem dX5_tryCascade_1 : decode cX5_tryCascade 1 = .ok (.invokevirtual 68, 3) := by decide +kernel
theorem dX5_tryCascade_4 : decode cX5_tryCascade 4 = .ok (.aload_n 0, 1) := by decide +kernel
theorem dX5_tryCascade_5 : decode cX5_tryCascade 5 = .ok (.getfield 26, 3) := by decide +kernel
theorem dX5_tryCascade_8 : decode cX5_tryCascade 8 = .ok (.aload_n 0, 1) := by decide +kernel
theorem dX5_tryCascade_9 : decode cX5_tryCascade 9 = .ok (.getfield 23, 3) := by decide +kernel
theorem dX5_tryCascade_12 : decode cX5_tryCascade 12 = .ok (.invokevirtual 52, 3) := by decide +kernel
theorem dX5_tryCascade_15 : decode cX5_tryCascade 15 = .ok (.iconst 0, 1) := by decide +kernel
theorem dX5_tryCascade_16 : decode cX5_tryCascade 16 = .ok (.istore_n 1, 1) := by decide +kernel
theorem dX5_tryCascade_17 : decode cX5_tryCascade 17 = .ok (.iload_n 1, 1) := by decide +kernel
theorem dX5_tryCascade_18 : decode cX5_tryCascade 18 = .ok (.bipush 16, 2) := by decide +kernel
theorem dX5_tryCascade_20 : decode cX5_tryCascade 20 = .ok (.if_icmp .ge 44, 3) := by decide +kernel
theorem dX5_tryCascade_23 : decode cX5_tryCascade 23 = .ok (.aload_n 0, 1) := by decide +kernel
theorem dX5_tryCascade_24 : decode cX5_tryCascade 24 = .ok (.getfield 26, 3) := by decide +kernel
theorem dX5_tryCascade_27 : decode cX5_tryCascade 27 = .ok (.getfield 166, 3) := by decide +kernel
theorem dX5_tryCascade_30 : decode cX5_tryCascade 30 = .ok (.ifCond .eq 34, 3) := by decide +kernel
theorem dX5_tryCascade_33 : decode cX5_tryCascade 33 = .ok (.aload_n 0, 1) := by decide +kernel
theorem dX5_tryCascade_34 : decode cX5_tryCascade 34 = .ok (.getfield 23, 3) := by decide +kernel
theorem dX5_tryCascade_37 : decode cX5_tryCascade 37 = .ok (.aload_n 0, 1) := by decide +kernel
theorem dX5_tryCascade_38 : decode cX5_tryCascade 38 = .ok (.getfield 26, 3) := by decide +kernel
theorem dX5_tryCascade_41 : decode cX5_tryCascade 41 = .ok (.getfield 166, 3) := by decide +kernel
theorem dX5_tryCascade_44 : decode cX5_tryCascade 44 = .ok (.invokevirtual 251, 3) := by decide +kernel
theorem dX5_tryCascade_47 : decode cX5_tryCascade 47 = .ok (.aload_n 0, 1) := by decide +kernel
theorem dX5_tryCascade_48 : decode cX5_tryCascade 48 = .ok (.getfield 26, 3) := by decide +kernel
theorem dX5_tryCascade_51 : decode cX5_tryCascade 51 = .ok (.aload_n 0, 1) := by decide +kernel
theorem dX5_tryCascade_52 : decode cX5_tryCascade 52 = .ok (.getfield 23, 3) := by decide +kernel
theorem dX5_tryCascade_55 : decode cX5_tryCascade 55 = .ok (.invokevirtual 52, 3) := by decide +kernel
theorem dX5_tryCascade_58 : decode cX5_tryCascade 58 = .ok (.iinc 1 1, 3) := by decide +kernel
theorem dX5_tryCascade_61 : decode cX5_tryCascade 61 = .ok (.goto (-44), 3) := by decide +kernel
theorem dX5_tryCascade_64 : decode cX5_tryCascade 64 = .ok (.iload_n 1, 1) := by decide +kernel
theorem dX5_tryCascade_65 : decode cX5_tryCascade 65 = .ok (.ireturn, 1) := by decide +kernel
set_option maxRecDepth 20000 in
theorem ggX5_tryShaving_X5_startTrial : GoodIn wsX5_tryShaving wsX5_startTrial := goodIn_r _ [7, 2, 8, 9, 10, 11, 12, 13, 14, 15, 16, 17, 18, 19, 20, 21, 22, 23, 88, 89, 90, 91, 92, 93, 94, 95, 96, 97, 98, 99, 100, 101, 102, 103, 104] (by decide +kernel) (by decide +kernel)
set_option maxRecDepth 20000 in
theorem gX5_tryShaving_X5_startTrial : GoodIn wsX5_tryShaving (wsV RX5 68 RX5 yX5_startTrial wsX5_startTrial) := goodIn_app (goodIn_of _ (by decide +kernel)) ggX5_tryShaving_X5_startTrial
set_option maxRecDepth 20000 in
theorem ggX5_tryShaving_X0_find : GoodIn wsX5_tryShaving wsX0_find := goodIn_r _ [28, 29, 30, 31, 32, 33, 34, 35, 27, 36, 37, 38, 39, 40, 41, 42, 43, 44, 45, 46, 47, 48, 49, 50, 51, 6, 52, 53, 54, 55, 56, 57, 58, 59, 60, 61, 62, 63, 64, 65, 66, 67, 68, 69, 70, 71, 72, 73, 74, 75, 105, 106, 107, 108, 109, 110, 111, 112, 113, 95, 96, 97, 98, 99, 100, 101, 102, 103, 104] (by decide +kernel) (by decide +kernel)
set_option maxRecDepth 20000 in
theorem gX5_tryShaving_X0_find : GoodIn wsX5_tryShaving (wsV RX5 52 RX0 yX0_find wsX0_find) := goodIn_app (goodIn_of _ (by decide +kernel)) ggX5_tryShaving_X0_find
set_option maxRecDepth 20000 in
theorem ggX5_tryShaving_X0_mostOverloaded : GoodIn wsX5_tryShaving wsX0_mostOverloaded := goodIn_r _ [79, 32, 75, 31, 51, 6, 52, 105, 106, 107, 108, 109, 110, 111, 112, 113, 95, 96, 97, 98, 99, 100, 101, 102, 103, 104] (by decide +kernel) (by decide +kernel)
set_option maxRecDepth 20000 in
theorem gX5_tryShaving_X0_mostOverloaded : GoodIn wsX5_tryShaving (wsV RX5 254 RX0 yX0_mostOverloaded wsX0_mostOverloaded) := goodIn_app (goodIn_of _ (by decide +kernel)) ggX5_tryShaving_X0_mostOverloaded
set_option maxRecDepth 20000 in
theorem ggX5_tryShaving_X1_lowerCap : GoodIn wsX5_tryShaving wsX1_lowerCap := goodIn_r _ [83, 21, 23, 84, 85, 86, 12, 87, 16, 95, 96, 97, 98, 99, 100, 101, 102, 103, 104] (by decide +kernel) (by decide +kernel)
set_option maxRecDepth 20000 in
theorem gX5_tryShaving_X1_lowerCap : GoodIn wsX5_tryShaving (wsV RX5 257 RX1 yX1_lowerCap wsX1_lowerCap) := goodIn_app (goodIn_of _ (by decide +kernel)) ggX5_tryShaving_X1_lowerCap
theorem dX5_tryShaving_0 : decode cX5_tryShaving 0 = .ok (.aload_n 0, 1) := by decide +kernel
theorem dX5_tryShaving_1 : decode cX5_tryShaving 1 = .ok (.invokevirtual 68, 3) := by decide +kernel
theorem dX5_tryShaving_4 : decode cX5_tryShaving 4 = .ok (.aload_n 0, 1) := by decide +kernel
theorem dX5_tryShaving_5 : decode cX5_tryShaving 5 = .ok (.getfield 26, 3) := by decide +kernel
theorem dX5_tryShaving_8 : decode cX5_tryShaving 8 = .ok (.aload_n 0, 1) := by decide +kernel
theorem dX5_tryShaving_9 : decode cX5_tryShaving 9 = .ok (.getfield 23, 3) := by decide +kernel
theorem dX5_tryShaving_12 : decode cX5_tryShaving 12 = .ok (.invokevirtual 52, 3) := by decide +kernel
theorem dX5_tryShaving_15 : decode cX5_tryShaving 15 = .ok (.iconst 0, 1) := by decide +kernel
theorem dX5_tryShaving_16 : decode cX5_tryShaving 16 = .ok (.istore_n 1, 1) := by decide +kernel
theorem dX5_tryShaving_17 : decode cX5_tryShaving 17 = .ok (.iload_n 1, 1) := by decide +kernel
theorem dX5_tryShaving_18 : decode cX5_tryShaving 18 = .ok (.bipush 100, 2) := by decide +kernel
theorem dX5_tryShaving_20 : decode cX5_tryShaving 20 = .ok (.if_icmp .ge 41, 3) := by decide +kernel
theorem dX5_tryShaving_23 : decode cX5_tryShaving 23 = .ok (.aload_n 0, 1) := by decide +kernel
theorem dX5_tryShaving_24 : decode cX5_tryShaving 24 = .ok (.getfield 23, 3) := by decide +kernel
theorem dX5_tryShaving_27 : decode cX5_tryShaving 27 = .ok (.aload_n 0, 1) := by decide +kernel
theorem dX5_tryShaving_28 : decode cX5_tryShaving 28 = .ok (.getfield 26, 3) := by decide +kernel
theorem dX5_tryShaving_31 : decode cX5_tryShaving 31 = .ok (.aload_n 0, 1) := by decide +kernel
theorem dX5_tryShaving_32 : decode cX5_tryShaving 32 = .ok (.getfield 23, 3) := by decide +kernel
theorem dX5_tryShaving_35 : decode cX5_tryShaving 35 = .ok (.invokevirtual 254, 3) := by decide +kernel
theorem dX5_tryShaving_38 : decode cX5_tryShaving 38 = .ok (.invokevirtual 257, 3) := by decide +kernel
theorem dX5_tryShaving_41 : decode cX5_tryShaving 41 = .ok (.ifCond .eq 20, 3) := by decide +kernel
theorem dX5_tryShaving_44 : decode cX5_tryShaving 44 = .ok (.aload_n 0, 1) := by decide +kernel
theorem dX5_tryShaving_45 : decode cX5_tryShaving 45 = .ok (.getfield 26, 3) := by decide +kernel
theorem dX5_tryShaving_48 : decode cX5_tryShaving 48 = .ok (.aload_n 0, 1) := by decide +kernel
theorem dX5_tryShaving_49 : decode cX5_tryShaving 49 = .ok (.getfield 23, 3) := by decide +kernel
theorem dX5_tryShaving_52 : decode cX5_tryShaving 52 = .ok (.invokevirtual 52, 3) := by decide +kernel
theorem dX5_tryShaving_55 : decode cX5_tryShaving 55 = .ok (.iinc 1 1, 3) := by decide +kernel
theorem dX5_tryShaving_58 : decode cX5_tryShaving 58 = .ok (.goto (-41), 3) := by decide +kernel
theorem dX5_tryShaving_61 : decode cX5_tryShaving 61 = .ok (.iload_n 1, 1) := by decide +kernel
theorem dX5_tryShaving_62 : decode cX5_tryShaving 62 = .ok (.ireturn, 1) := by decide +kernel
theorem dX5_isIn_0 : decode cX5_isIn 0 = .ok (.iload_n 0, 1) := by decide +kernel
theorem dX5_isIn_1 : decode cX5_isIn 1 = .ok (.iload_n 1, 1) := by decide +kernel
theorem dX5_isIn_2 : decode cX5_isIn 2 = .ok (.if_icmp .lt 12, 3) := by decide +kernel
theorem dX5_isIn_5 : decode cX5_isIn 5 = .ok (.iload_n 0, 1) := by decide +kernel
theorem dX5_isIn_6 : decode cX5_isIn 6 = .ok (.iload_n 2, 1) := by decide +kernel
theorem dX5_isIn_7 : decode cX5_isIn 7 = .ok (.if_icmp .gt 7, 3) := by decide +kernel
theorem dX5_isIn_10 : decode cX5_isIn 10 = .ok (.iconst 1, 1) := by decide +kernel
theorem dX5_isIn_11 : decode cX5_isIn 11 = .ok (.goto 4, 3) := by decide +kernel
theorem dX5_isIn_14 : decode cX5_isIn 14 = .ok (.iconst 0, 1) := by decide +kernel
theorem dX5_isIn_15 : decode cX5_isIn 15 = .ok (.ireturn, 1) := by decide +kernel
theorem dX5_isMember_0 : decode cX5_isMember 0 = .ok (.iload_n 0, 1) := by decide +kernel
theorem dX5_isMember_1 : decode cX5_isMember 1 = .ok (.iload_n 1, 1) := by decide +kernel
theorem dX5_isMember_2 : decode cX5_isMember 2 = .ok (.iushr, 1) := by decide +kernel
theorem dX5_isMember_3 : decode cX5_isMember 3 = .ok (.iconst 1, 1) := by decide +kernel
theorem dX5_isMember_4 : decode cX5_isMember 4 = .ok (.iand, 1) := by decide +kernel
theorem dX5_isMember_5 : decode cX5_isMember 5 = .ok (.ifCond .eq 7, 3) := by decide +kernel
theorem dX5_isMember_8 : decode cX5_isMember 8 = .ok (.iconst 1, 1) := by decide +kernel
theorem dX5_isMember_9 : decode cX5_isMember 9 = .ok (.goto 4, 3) := by decide +kernel
theorem dX5_isMember_12 : decode cX5_isMember 12 = .ok (.iconst 0, 1) := by decide +kernel
theorem dX5_isMember_13 : decode cX5_isMember 13 = .ok (.ireturn, 1) := by decide +kernel
theorem dJ6_bitCount_0f7a4_0 : decode cJ6_bitCount_0f7a4 0 = .ok (.iload_n 0, 1) := by decide +kernel
theorem dJ6_bitCount_0f7a4_1 : decode cJ6_bitCount_0f7a4 1 = .ok (.iload_n 0, 1) := by decide +kernel
theorem dJ6_bitCount_0f7a4_2 : decode cJ6_bitCount_0f7a4 2 = .ok (.iconst 1, 1) := by decide +kernel
theorem dJ6_bitCount_0f7a4_3 : decode cJ6_bitCount_0f7a4 3 = .ok (.iushr, 1) := by decide +kernel
theorem dJ6_bitCount_0f7a4_4 : decode cJ6_bitCount_0f7a4 4 = .ok (.ldc_w 265, 3) := by decide +kernel
theorem dJ6_bitCount_0f7a4_7 : decode cJ6_bitCount_0f7a4 7 = .ok (.iand, 1) := by decide +kernel
theorem dJ6_bitCount_0f7a4_8 : decode cJ6_bitCount_0f7a4 8 = .ok (.isub, 1) := by decide +kernel
theorem dJ6_bitCount_0f7a4_9 : decode cJ6_bitCount_0f7a4 9 = .ok (.istore_n 0, 1) := by decide +kernel
theorem dJ6_bitCount_0f7a4_10 : decode cJ6_bitCount_0f7a4 10 = .ok (.iload_n 0, 1) := by decide +kernel
theorem dJ6_bitCount_0f7a4_11 : decode cJ6_bitCount_0f7a4 11 = .ok (.ldc_w 266, 3) := by decide +kernel
theorem dJ6_bitCount_0f7a4_14 : decode cJ6_bitCount_0f7a4 14 = .ok (.iand, 1) := by decide +kernel
theorem dJ6_bitCount_0f7a4_15 : decode cJ6_bitCount_0f7a4 15 = .ok (.iload_n 0, 1) := by decide +kernel
theorem dJ6_bitCount_0f7a4_16 : decode cJ6_bitCount_0f7a4 16 = .ok (.iconst 2, 1) := by decide +kernel
theorem dJ6_bitCount_0f7a4_17 : decode cJ6_bitCount_0f7a4 17 = .ok (.iushr, 1) := by decide +kernel
theorem dJ6_bitCount_0f7a4_18 : decode cJ6_bitCount_0f7a4 18 = .ok (.ldc_w 266, 3) := by decide +kernel
theorem dJ6_bitCount_0f7a4_21 : decode cJ6_bitCount_0f7a4 21 = .ok (.iand, 1) := by decide +kernel
theorem dJ6_bitCount_0f7a4_22 : decode cJ6_bitCount_0f7a4 22 = .ok (.iadd, 1) := by decide +kernel
theorem dJ6_bitCount_0f7a4_23 : decode cJ6_bitCount_0f7a4 23 = .ok (.istore_n 0, 1) := by decide +kernel
theorem dJ6_bitCount_0f7a4_24 : decode cJ6_bitCount_0f7a4 24 = .ok (.iload_n 0, 1) := by decide +kernel
theorem dJ6_bitCount_0f7a4_25 : decode cJ6_bitCount_0f7a4 25 = .ok (.iload_n 0, 1) := by decide +kernel
theorem dJ6_bitCount_0f7a4_26 : decode cJ6_bitCount_0f7a4 26 = .ok (.iconst 4, 1) := by decide +kernel
theorem dJ6_bitCount_0f7a4_27 : decode cJ6_bitCount_0f7a4 27 = .ok (.iushr, 1) := by decide +kernel
theorem dJ6_bitCount_0f7a4_28 : decode cJ6_bitCount_0f7a4 28 = .ok (.iadd, 1) := by decide +kernel
theorem dJ6_bitCount_0f7a4_29 : decode cJ6_bitCount_0f7a4 29 = .ok (.ldc_w 267, 3) := by decide +kernel
theorem dJ6_bitCount_0f7a4_32 : decode cJ6_bitCount_0f7a4 32 = .ok (.iand, 1) := by decide +kernel
theorem dJ6_bitCount_0f7a4_33 : decode cJ6_bitCount_0f7a4 33 = .ok (.istore_n 0, 1) := by decide +kernel
theorem dJ6_bitCount_0f7a4_34 : decode cJ6_bitCount_0f7a4 34 = .ok (.iload_n 0, 1) := by decide +kernel
theorem dJ6_bitCount_0f7a4_35 : decode cJ6_bitCount_0f7a4 35 = .ok (.iload_n 0, 1) := by decide +kernel
theorem dJ6_bitCount_0f7a4_36 : decode cJ6_bitCount_0f7a4 36 = .ok (.bipush 8, 2) := by decide +kernel
theorem dJ6_bitCount_0f7a4_38 : decode cJ6_bitCount_0f7a4 38 = .ok (.iushr, 1) := by decide +kernel
theorem dJ6_bitCount_0f7a4_39 : decode cJ6_bitCount_0f7a4 39 = .ok (.iadd, 1) := by decide +kernel
theorem dJ6_bitCount_0f7a4_40 : decode cJ6_bitCount_0f7a4 40 = .ok (.istore_n 0, 1) := by decide +kernel
theorem dJ6_bitCount_0f7a4_41 : decode cJ6_bitCount_0f7a4 41 = .ok (.iload_n 0, 1) := by decide +kernel
theorem dJ6_bitCount_0f7a4_42 : decode cJ6_bitCount_0f7a4 42 = .ok (.iload_n 0, 1) := by decide +kernel
theorem dJ6_bitCount_0f7a4_43 : decode cJ6_bitCount_0f7a4 43 = .ok (.bipush 16, 2) := by decide +kernel
theorem dJ6_bitCount_0f7a4_45 : decode cJ6_bitCount_0f7a4 45 = .ok (.iushr, 1) := by decide +kernel
theorem dJ6_bitCount_0f7a4_46 : decode cJ6_bitCount_0f7a4 46 = .ok (.iadd, 1) := by decide +kernel
theorem dJ6_bitCount_0f7a4_47 : decode cJ6_bitCount_0f7a4 47 = .ok (.istore_n 0, 1) := by decide +kernel
theorem dJ6_bitCount_0f7a4_48 : decode cJ6_bitCount_0f7a4 48 = .ok (.iload_n 0, 1) := by decide +kernel
theorem dJ6_bitCount_0f7a4_49 : decode cJ6_bitCount_0f7a4 49 = .ok (.bipush 63, 2) := by decide +kernel
theorem dJ6_bitCount_0f7a4_51 : decode cJ6_bitCount_0f7a4 51 = .ok (.iand, 1) := by decide +kernel
theorem dJ6_bitCount_0f7a4_52 : decode cJ6_bitCount_0f7a4 52 = .ok (.ireturn, 1) := by decide +kernel
theorem dJ9_floorMod_7cf53_0 : decode cJ9_floorMod_7cf53 0 = .ok (.iload_n 0, 1) := by decide +kernel
theorem dJ9_floorMod_7cf53_1 : decode cJ9_floorMod_7cf53 1 = .ok (.iload_n 1, 1) := by decide +kernel
theorem dJ9_floorMod_7cf53_2 : decode cJ9_floorMod_7cf53 2 = .ok (.irem, 1) := by decide +kernel
theorem dJ9_floorMod_7cf53_3 : decode cJ9_floorMod_7cf53 3 = .ok (.istore_n 2, 1) := by decide +kernel
theorem dJ9_floorMod_7cf53_4 : decode cJ9_floorMod_7cf53 4 = .ok (.iload_n 0, 1) := by decide +kernel
theorem dJ9_floorMod_7cf53_5 : decode cJ9_floorMod_7cf53 5 = .ok (.iload_n 1, 1) := by decide +kernel
theorem dJ9_floorMod_7cf53_6 : decode cJ9_floorMod_7cf53 6 = .ok (.ixor, 1) := by decide +kernel
theorem dJ9_floorMod_7cf53_7 : decode cJ9_floorMod_7cf53 7 = .ok (.ifCond .ge 11, 3) := by decide +kernel
theorem dJ9_floorMod_7cf53_10 : decode cJ9_floorMod_7cf53 10 = .ok (.iload_n 2, 1) := by decide +kernel
theorem dJ9_floorMod_7cf53_11 : decode cJ9_floorMod_7cf53 11 = .ok (.ifCond .eq 7, 3) := by decide +kernel
theorem dJ9_floorMod_7cf53_14 : decode cJ9_floorMod_7cf53 14 = .ok (.iload_n 2, 1) := by decide +kernel
theorem dJ9_floorMod_7cf53_15 : decode cJ9_floorMod_7cf53 15 = .ok (.iload_n 1, 1) := by decide +kernel
theorem dJ9_floorMod_7cf53_16 : decode cJ9_floorMod_7cf53 16 = .ok (.iadd, 1) := by decide +kernel
theorem dJ9_floorMod_7cf53_17 : decode cJ9_floorMod_7cf53 17 = .ok (.ireturn, 1) := by decide +kernel
theorem dJ9_floorMod_7cf53_18 : decode cJ9_floorMod_7cf53 18 = .ok (.iload_n 2, 1) := by decide +kernel
theorem dJ9_floorMod_7cf53_19 : decode cJ9_floorMod_7cf53 19 = .ok (.ireturn, 1) := by decide +kernel
theorem dJ9_max_7cf53_0 : decode cJ9_max_7cf53 0 = .ok (.iload_n 0, 1) := by decide +kernel
theorem dJ9_max_7cf53_1 : decode cJ9_max_7cf53 1 = .ok (.iload_n 1, 1) := by decide +kernel
theorem dJ9_max_7cf53_2 : decode cJ9_max_7cf53 2 = .ok (.if_icmp .lt 7, 3) := by decide +kernel
theorem dJ9_max_7cf53_5 : decode cJ9_max_7cf53 5 = .ok (.iload_n 0, 1) := by decide +kernel
theorem dJ9_max_7cf53_6 : decode cJ9_max_7cf53 6 = .ok (.goto 4, 3) := by decide +kernel
theorem dJ9_max_7cf53_9 : decode cJ9_max_7cf53 9 = .ok (.iload_n 1, 1) := by decide +kernel
theorem dJ9_max_7cf53_10 : decode cJ9_max_7cf53 10 = .ok (.ireturn, 1) := by decide +kernel
theorem dJ9_min_7cf53_0 : decode cJ9_min_7cf53 0 = .ok (.iload_n 0, 1) := by decide +kernel
theorem dJ9_min_7cf53_1 : decode cJ9_min_7cf53 1 = .ok (.iload_n 1, 1) := by decide +kernel
theorem dJ9_min_7cf53_2 : decode cJ9_min_7cf53 2 = .ok (.if_icmp .gt 7, 3) := by decide +kernel
theorem dJ9_min_7cf53_5 : decode cJ9_min_7cf53 5 = .ok (.iload_n 0, 1) := by decide +kernel
theorem dJ9_min_7cf53_6 : decode cJ9_min_7cf53 6 = .ok (.goto 4, 3) := by decide +kernel
theorem dJ9_min_7cf53_9 : decode cJ9_min_7cf53 9 = .ok (.iload_n 1, 1) := by decide +kernel
theorem dJ9_min_7cf53_10 : decode cJ9_min_7cf53 10 = .ok (.ireturn, 1) := by decide +kernel
theorem dL_lot_0 : decode cL_lot 0 = .ok (.iload_n 1, 1) := by decide +kernel
theorem dL_lot_1 : decode cL_lot 1 = .ok (.aload_n 0, 1) := by decide +kernel
theorem dL_lot_2 : decode cL_lot 2 = .ok (.arraylength, 1) := by decide +kernel
theorem dL_lot_3 : decode cL_lot 3 = .ok (.if_icmp .ge 9, 3) := by decide +kernel
theorem dL_lot_6 : decode cL_lot 6 = .ok (.aload_n 0, 1) := by decide +kernel
theorem dL_lot_7 : decode cL_lot 7 = .ok (.iload_n 1, 1) := by decide +kernel
theorem dL_lot_8 : decode cL_lot 8 = .ok (.iaload, 1) := by decide +kernel
theorem dL_lot_9 : decode cL_lot 9 = .ok (.goto 15, 3) := by decide +kernel
theorem dL_lot_12 : decode cL_lot 12 = .ok (.ldc 7, 2) := by decide +kernel
theorem dL_lot_14 : decode cL_lot 14 = .ok (.iload_n 1, 1) := by decide +kernel
theorem dL_lot_15 : decode cL_lot 15 = .ok (.sipush 2029, 3) := by decide +kernel
theorem dL_lot_18 : decode cL_lot 18 = .ok (.iadd, 1) := by decide +kernel
theorem dL_lot_19 : decode cL_lot 19 = .ok (.imul, 1) := by decide +kernel
theorem dL_lot_20 : decode cL_lot 20 = .ok (.sipush 1847, 3) := by decide +kernel
theorem dL_lot_23 : decode cL_lot 23 = .ok (.iadd, 1) := by decide +kernel
theorem dL_lot_24 : decode cL_lot 24 = .ok (.ireturn, 1) := by decide +kernel
theorem dL_low_0 : decode cL_low 0 = .ok (.iload_n 0, 1) := by decide +kernel
theorem dL_low_1 : decode cL_low 1 = .ok (.ldc 8, 2) := by decide +kernel
theorem dL_low_3 : decode cL_low 3 = .ok (.iand, 1) := by decide +kernel
theorem dL_low_4 : decode cL_low 4 = .ok (.iload_n 1, 1) := by decide +kernel
theorem dL_low_5 : decode cL_low 5 = .ok (.irem, 1) := by decide +kernel
theorem dL_low_6 : decode cL_low 6 = .ok (.ireturn, 1) := by decide +kernel
set_option maxRecDepth 20000 in
theorem ggL_addBlock_X5_addBlock : GoodIn wsL_addBlock wsX5_addBlock := goodIn_ca (goodIn_ca (goodIn_r _ [9, 10, 11, 12, 13, 14, 15, 16, 17, 8, 18, 19, 20, 21, 22, 23, 24, 25, 26, 27, 28, 29, 30, 31, 32, 33, 34, 35, 36, 37, 38, 39, 40, 41, 42, 43, 44, 45, 46, 47, 48, 49, 50, 51, 52, 53, 54, 55, 56, 57, 58, 59, 60, 61, 62, 63, 64, 65, 66, 67, 68, 69, 70, 71, 72, 73, 74, 75, 76, 77, 78, 79, 80, 81, 82, 83, 84, 85, 86, 87, 88, 89, 90, 91, 92, 93, 94, 95, 96, 97, 98, 99, 100, 101, 102, 103, 104, 105, 106, 107, 108, 109, 110, 111, 112, 113, 114, 115, 116, 117, 118, 119, 120, 121, 122, 123, 124, 125, 126, 127, 128, 129, 130, 131, 132, 133, 134, 135, 136, 137, 138, 139, 140, 141, 142, 143, 144, 145, 146, 147, 148, 149, 150, 151, 152, 153, 154] (by decide +kernel) (by decide +kernel)) (goodIn_sub (fun _ h => List.mem_cons_of_mem _ (List.mem_append_left _ (List.mem_append_right _ h))) (by decide +kernel))) (goodIn_sub (fun _ h => List.mem_cons_of_mem _ (List.mem_append_right _ h)) (by decide +kernel))
set_option maxRecDepth 20000 in
theorem gL_addBlock_X5_addBlock : GoodIn wsL_addBlock (wsV RL 9 RX5 yX5_addBlock wsX5_addBlock) := goodIn_app (goodIn_of _ (by decide +kernel)) ggL_addBlock_X5_addBlock
theorem dL_addBlock_0 : decode cL_addBlock 0 = .ok (.aload_n 0, 1) := by decide +kernel
theorem dL_addBlock_1 : decode cL_addBlock 1 = .ok (.iload_n 1, 1) := by decide +kernel
theorem dL_addBlock_2 : decode cL_addBlock 2 = .ok (.iload_n 2, 1) := by decide +kernel
theorem dL_addBlock_3 : decode cL_addBlock 3 = .ok (.iload_n 3, 1) := by decide +kernel
theorem dL_addBlock_4 : decode cL_addBlock 4 = .ok (.iload 4, 2) := by decide +kernel
theorem dL_addBlock_6 : decode cL_addBlock 6 = .ok (.invokevirtual 9, 3) := by decide +kernel
theorem dL_addBlock_9 : decode cL_addBlock 9 = .ok (.ireturn, 1) := by decide +kernel
theorem dL_addBlock_10 : decode cL_addBlock 10 = .ok (.astore 5, 2) := by decide +kernel
theorem dL_addBlock_12 : decode cL_addBlock 12 = .ok (.ldc 17, 2) := by decide +kernel
theorem dL_addBlock_14 : decode cL_addBlock 14 = .ok (.ireturn, 1) := by decide +kernel
theorem dL_addBlock_15 : decode cL_addBlock 15 = .ok (.astore 5, 2) := by decide +kernel
theorem dL_addBlock_17 : decode cL_addBlock 17 = .ok (.ldc 20, 2) := by decide +kernel
theorem dL_addBlock_19 : decode cL_addBlock 19 = .ok (.ireturn, 1) := by decide +kernel
set_option maxRecDepth 20000 in
theorem ggL_setCap_X5_setCap : GoodIn wsL_setCap wsX5_setCap := goodIn_ca (goodIn_ca (goodIn_r _ [9, 10, 11, 12, 13, 14, 15, 16, 17, 18, 19, 20, 21, 22, 23, 24, 8, 25, 26, 27, 28, 29, 30, 31, 32, 33, 34, 35, 36, 37, 38, 39, 40, 41, 42, 43, 44, 45, 46, 47, 48, 49, 50, 51, 52, 53, 54, 55, 56, 57, 58, 59, 60, 61, 62, 63, 64, 65, 66, 67, 68, 69, 70, 71, 72, 73, 74, 75, 76, 77, 78, 79, 80, 81, 82, 83, 84, 85, 86, 87, 88, 89, 90, 91, 92, 93, 94, 95, 96, 97, 98, 99, 100, 101, 102, 103, 104, 105, 106, 107, 108, 109, 110, 111, 112, 113, 114, 115, 116, 117, 118, 119, 120, 121, 122, 123, 124, 125, 126, 127, 128, 129, 130, 131, 132, 133, 134, 135, 136, 137, 138, 139, 140, 141, 142, 143, 144, 145, 146, 147, 148, 149, 150, 151, 152, 153, 154] (by decide +kernel) (by decide +kernel)) (goodIn_sub (fun _ h => List.mem_cons_of_mem _ (List.mem_append_left _ (List.mem_append_right _ h))) (by decide +kernel))) (goodIn_sub (fun _ h => List.mem_cons_of_mem _ (List.mem_append_right _ h)) (by decide +kernel))
set_option maxRecDepth 20000 in
theorem gL_setCap_X5_setCap : GoodIn wsL_setCap (wsV RL 21 RX5 yX5_setCap wsX5_setCap) := goodIn_app (goodIn_of _ (by decide +kernel)) ggL_setCap_X5_setCap
theorem dL_setCap_0 : decode cL_setCap 0 = .ok (.aload_n 0, 1) := by decide +kernel
theorem dL_setCap_1 : decode cL_setCap 1 = .ok (.iload_n 1, 1) := by decide +kernel
theorem dL_setCap_2 : decode cL_setCap 2 = .ok (.iload_n 2, 1) := by decide +kernel
theorem dL_setCap_3 : decode cL_setCap 3 = .ok (.invokevirtual 21, 3) := by decide +kernel
theorem dL_setCap_6 : decode cL_setCap 6 = .ok (.ireturn, 1) := by decide +kernel
theorem dL_setCap_7 : decode cL_setCap 7 = .ok (.astore_n 3, 1) := by decide +kernel
theorem dL_setCap_8 : decode cL_setCap 8 = .ok (.ldc 27, 2) := by decide +kernel
theorem dL_setCap_10 : decode cL_setCap 10 = .ok (.ireturn, 1) := by decide +kernel
theorem dL_setCap_11 : decode cL_setCap 11 = .ok (.astore_n 3, 1) := by decide +kernel
theorem dL_setCap_12 : decode cL_setCap 12 = .ok (.ldc 17, 2) := by decide +kernel
theorem dL_setCap_14 : decode cL_setCap 14 = .ok (.ireturn, 1) := by decide +kernel
set_option maxRecDepth 20000 in
theorem ggL_setLimit_X5_setLimit : GoodIn wsL_setLimit wsX5_setLimit := goodIn_ca (goodIn_ca (goodIn_r _ [9, 10, 11, 12, 13, 14, 15, 16, 17, 18, 19, 20, 21, 22, 23, 24, 25, 8, 26, 27, 28, 29, 30, 31, 32, 33, 34, 35, 36, 37, 38, 39, 40, 41, 42, 43, 44, 45, 46, 47, 48, 49, 50, 51, 52, 53, 54, 55, 56, 57, 58, 59, 60, 61, 62, 63, 64, 65, 66, 67, 68, 69, 70, 71, 72, 73, 74, 75, 76, 77, 78, 79, 80, 81, 82, 83, 84, 85, 86, 87, 88, 89, 90, 91, 92, 93, 94, 95, 96, 97, 98, 99, 100, 101, 102, 103, 104, 105, 106, 107, 108, 109, 110, 111, 112, 113, 114, 115, 116, 117, 118, 119, 120, 121, 122, 123, 124, 125, 126, 127, 128, 129, 130, 131, 132, 133, 134, 135, 136, 137, 138, 139, 140, 141, 142, 143, 144, 145, 146, 147, 148, 149, 150, 151, 152, 153, 154, 155] (by decide +kernel) (by decide +kernel)) (goodIn_sub (fun _ h => List.mem_cons_of_mem _ (List.mem_append_left _ (List.mem_append_right _ h))) (by decide +kernel))) (goodIn_sub (fun _ h => List.mem_cons_of_mem _ (List.mem_append_right _ h)) (by decide +kernel))
set_option maxRecDepth 20000 in
theorem gL_setLimit_X5_setLimit : GoodIn wsL_setLimit (wsV RL 28 RX5 yX5_setLimit wsX5_setLimit) := goodIn_app (goodIn_of _ (by decide +kernel)) ggL_setLimit_X5_setLimit
theorem dL_setLimit_0 : decode cL_setLimit 0 = .ok (.aload_n 0, 1) := by decide +kernel
theorem dL_setLimit_1 : decode cL_setLimit 1 = .ok (.iload_n 1, 1) := by decide +kernel
theorem dL_setLimit_2 : decode cL_setLimit 2 = .ok (.iload_n 2, 1) := by decide +kernel
theorem dL_setLimit_3 : decode cL_setLimit 3 = .ok (.invokevirtual 28, 3) := by decide +kernel
theorem dL_setLimit_6 : decode cL_setLimit 6 = .ok (.ireturn, 1) := by decide +kernel
theorem dL_setLimit_7 : decode cL_setLimit 7 = .ok (.astore_n 3, 1) := by decide +kernel
theorem dL_setLimit_8 : decode cL_setLimit 8 = .ok (.ldc 27, 2) := by decide +kernel
theorem dL_setLimit_10 : decode cL_setLimit 10 = .ok (.ireturn, 1) := by decide +kernel
theorem dL_setLimit_11 : decode cL_setLimit 11 = .ok (.astore_n 3, 1) := by decide +kernel
theorem dL_setLimit_12 : decode cL_setLimit 12 = .ok (.ldc 17, 2) := by decide +kernel
theorem dL_setLimit_14 : decode cL_setLimit 14 = .ok (.ireturn, 1) := by decide +kernel
set_option maxRecDepth 20000 in
theorem ggL_setShip_X5_setShip : GoodIn wsL_setShip wsX5_setShip := goodIn_ca (goodIn_r _ [7, 8, 9, 10, 11, 12, 13, 14, 15, 16, 6, 17, 18, 19, 20, 21, 22, 23, 24, 25, 26, 27, 28, 29, 30, 31, 32, 33, 34, 35, 36, 37, 38, 39, 40, 41, 42, 43, 44, 45, 46, 47, 48, 49, 50, 51, 52, 53, 54, 55, 56, 57, 58, 59, 60, 61, 62, 63, 64, 65, 66, 67, 68, 69, 70, 71, 72, 73, 74, 75, 76, 77, 78, 79, 80, 81, 82, 83, 84, 85, 86, 87, 88, 89, 90, 91, 92, 93, 94, 95, 96, 97, 98, 99, 100, 101, 102, 103, 104, 105, 106, 107, 108, 109, 110, 111, 112, 113, 114, 115, 116, 117, 118, 119, 120, 121, 122, 123, 124, 125, 126, 127, 128, 129, 130, 131, 132, 133, 134, 135, 136, 137, 138, 139, 140, 141, 142, 143, 144, 145, 146, 147, 148] (by decide +kernel) (by decide +kernel)) (goodIn_sub (fun _ h => List.mem_cons_of_mem _ (List.mem_append_right _ h)) (by decide +kernel))
set_option maxRecDepth 20000 in
theorem gL_setShip_X5_setShip : GoodIn wsL_setShip (wsV RL 31 RX5 yX5_setShip wsX5_setShip) := goodIn_app (goodIn_of _ (by decide +kernel)) ggL_setShip_X5_setShip
theorem dL_setShip_0 : decode cL_setShip 0 = .ok (.aload_n 0, 1) := by decide +kernel
theorem dL_setShip_1 : decode cL_setShip 1 = .ok (.iload_n 1, 1) := by decide +kernel
theorem dL_setShip_2 : decode cL_setShip 2 = .ok (.iload_n 2, 1) := by decide +kernel
theorem dL_setShip_3 : decode cL_setShip 3 = .ok (.invokevirtual 31, 3) := by decide +kernel
theorem dL_setShip_6 : decode cL_setShip 6 = .ok (.ireturn, 1) := by decide +kernel
theorem dL_setShip_7 : decode cL_setShip 7 = .ok (.astore_n 3, 1) := by decide +kernel
theorem dL_setShip_8 : decode cL_setShip 8 = .ok (.ldc 17, 2) := by decide +kernel
theorem dL_setShip_10 : decode cL_setShip 10 = .ok (.ireturn, 1) := by decide +kernel
set_option maxRecDepth 20000 in
theorem ggL_pull_X5_pull : GoodIn wsL_pull wsX5_pull := goodIn_ca (goodIn_ca (goodIn_r _ [9, 10, 11, 12, 13, 14, 15, 16, 17, 18, 19, 20, 21, 22, 23, 24, 8, 25, 26, 27, 28, 29, 30, 31, 32, 33, 34, 35, 36, 37, 38, 39, 40, 41, 42, 43, 44, 45, 46, 47, 48, 49, 50, 51, 52, 53, 54, 55, 56, 57, 58, 59, 60, 61, 62, 63, 64, 65, 66, 67, 68, 69, 70, 71, 72, 73, 74, 75, 76, 77, 78, 79, 80, 81, 82, 83, 84, 85, 86, 87, 88, 89, 90, 91, 92, 93, 94, 95, 96, 97, 98, 99, 100, 101, 102, 103, 104, 105, 106, 107, 108, 109, 110, 111, 112, 113, 114, 115, 116, 117, 118, 119, 120, 121, 122, 123, 124, 125, 126, 127, 128, 129, 130, 131, 132, 133, 134, 135, 136, 137, 138, 139, 140, 141, 142, 143, 144, 145, 146, 147, 148, 149, 150, 151, 152, 153, 154, 155, 156, 157, 158, 159, 160, 161, 162, 163, 164, 165, 166, 167, 168, 169, 170, 171, 172] (by decide +kernel) (by decide +kernel)) (goodIn_sub (fun _ h => List.mem_cons_of_mem _ (List.mem_append_left _ (List.mem_append_right _ h))) (by decide +kernel))) (goodIn_sub (fun _ h => List.mem_cons_of_mem _ (List.mem_append_right _ h)) (by decide +kernel))
set_option maxRecDepth 20000 in
theorem gL_pull_X5_pull : GoodIn wsL_pull (wsV RL 34 RX5 yX5_pull wsX5_pull) := goodIn_app (goodIn_of _ (by decide +kernel)) ggL_pull_X5_pull
theorem dL_pull_0 : decode cL_pull 0 = .ok (.aload_n 0, 1) := by decide +kernel
theorem dL_pull_1 : decode cL_pull 1 = .ok (.iload_n 1, 1) := by decide +kernel
theorem dL_pull_2 : decode cL_pull 2 = .ok (.invokevirtual 34, 3) := by decide +kernel
theorem dL_pull_5 : decode cL_pull 5 = .ok (.ireturn, 1) := by decide +kernel
theorem dL_pull_6 : decode cL_pull 6 = .ok (.astore_n 2, 1) := by decide +kernel
theorem dL_pull_7 : decode cL_pull 7 = .ok (.ldc 27, 2) := by decide +kernel
theorem dL_pull_9 : decode cL_pull 9 = .ok (.ireturn, 1) := by decide +kernel
theorem dL_pull_10 : decode cL_pull 10 = .ok (.astore_n 2, 1) := by decide +kernel
theorem dL_pull_11 : decode cL_pull 11 = .ok (.ldc 20, 2) := by decide +kernel
theorem dL_pull_13 : decode cL_pull 13 = .ok (.ireturn, 1) := by decide +kernel
set_option maxRecDepth 20000 in
theorem ggL_put_X5_put : GoodIn wsL_put wsX5_put := goodIn_ca (goodIn_ca (goodIn_r _ [9, 10, 11, 12, 13, 14, 15, 16, 17, 18, 19, 20, 21, 22, 23, 24, 25, 26, 27, 8, 28, 29, 30, 31, 32, 33, 34, 35, 36, 37, 38, 39, 40, 41, 42, 43, 44, 45, 46, 47, 48, 49, 50, 51, 52, 53, 54, 55, 56, 57, 58, 59, 60, 61, 62, 63, 64, 65, 66, 67, 68, 69, 70, 71, 72, 73, 74, 75, 76, 77, 78, 79, 80, 81, 82, 83, 84, 85, 86, 87, 88, 89, 90, 91, 92, 93, 94, 95, 96, 97, 98, 99, 100, 101, 102, 103, 104, 105, 106, 107, 108, 109, 110, 111, 112, 113, 114, 115, 116, 117, 118, 119, 120, 121, 122, 123, 124, 125, 126, 127, 128, 129, 130, 131, 132, 133, 134, 135, 136, 137, 138, 139, 140, 141, 142, 143, 144, 145, 146, 147, 148, 149, 150, 151, 152, 153, 154, 155, 156, 157, 158] (by decide +kernel) (by decide +kernel)) (goodIn_sub (fun _ h => List.mem_cons_of_mem _ (List.mem_append_left _ (List.mem_append_right _ h))) (by decide +kernel))) (goodIn_sub (fun _ h => List.mem_cons_of_mem _ (List.mem_append_right _ h)) (by decide +kernel))
set_option maxRecDepth 20000 in
theorem gL_put_X5_put : GoodIn wsL_put (wsV RL 38 RX5 yX5_put wsX5_put) := goodIn_app (goodIn_of _ (by decide +kernel)) ggL_put_X5_put
theorem dL_put_0 : decode cL_put 0 = .ok (.aload_n 0, 1) := by decide +kernel
theorem dL_put_1 : decode cL_put 1 = .ok (.iload_n 1, 1) := by decide +kernel
theorem dL_put_2 : decode cL_put 2 = .ok (.invokevirtual 38, 3) := by decide +kernel
theorem dL_put_5 : decode cL_put 5 = .ok (.ireturn, 1) := by decide +kernel
theorem dL_put_6 : decode cL_put 6 = .ok (.astore_n 2, 1) := by decide +kernel
theorem dL_put_7 : decode cL_put 7 = .ok (.ldc 27, 2) := by decide +kernel
theorem dL_put_9 : decode cL_put 9 = .ok (.ireturn, 1) := by decide +kernel
theorem dL_put_10 : decode cL_put 10 = .ok (.astore_n 2, 1) := by decide +kernel
theorem dL_put_11 : decode cL_put 11 = .ok (.ldc 20, 2) := by decide +kernel
theorem dL_put_13 : decode cL_put 13 = .ok (.ireturn, 1) := by decide +kernel
set_option maxRecDepth 20000 in
theorem ggL_block_X5_block : GoodIn wsL_block wsX5_block := goodIn_ca (goodIn_ca (goodIn_r _ [9, 10, 11, 12, 13, 14, 15, 16, 17, 18, 19, 20, 21, 22, 23, 24, 25, 26, 27, 28, 29, 30, 31, 32, 33, 34, 35, 36, 8, 37, 38, 39, 40, 41, 42, 43, 44, 45, 46, 47, 48, 49, 50, 51, 52, 53, 54, 55, 56, 57, 58, 59, 60, 61, 62, 63, 64] (by decide +kernel) (by decide +kernel)) (goodIn_sub (fun _ h => List.mem_cons_of_mem _ (List.mem_append_left _ (List.mem_append_right _ h))) (by decide +kernel))) (goodIn_sub (fun _ h => List.mem_cons_of_mem _ (List.mem_append_right _ h)) (by decide +kernel))
set_option maxRecDepth 20000 in
theorem gL_block_X5_block : GoodIn wsL_block (wsV RL 41 RX5 yX5_block wsX5_block) := goodIn_app (goodIn_of _ (by decide +kernel)) ggL_block_X5_block
theorem dL_block_0 : decode cL_block 0 = .ok (.aload_n 0, 1) := by decide +kernel
theorem dL_block_1 : decode cL_block 1 = .ok (.iload_n 1, 1) := by decide +kernel
theorem dL_block_2 : decode cL_block 2 = .ok (.iload_n 2, 1) := by decide +kernel
theorem dL_block_3 : decode cL_block 3 = .ok (.invokevirtual 41, 3) := by decide +kernel
theorem dL_block_6 : decode cL_block 6 = .ok (.ireturn, 1) := by decide +kernel
theorem dL_block_7 : decode cL_block 7 = .ok (.astore_n 3, 1) := by decide +kernel
theorem dL_block_8 : decode cL_block 8 = .ok (.ldc 27, 2) := by decide +kernel
theorem dL_block_10 : decode cL_block 10 = .ok (.ireturn, 1) := by decide +kernel
theorem dL_block_11 : decode cL_block 11 = .ok (.astore_n 3, 1) := by decide +kernel
theorem dL_block_12 : decode cL_block 12 = .ok (.ldc 17, 2) := by decide +kernel
theorem dL_block_14 : decode cL_block 14 = .ok (.ireturn, 1) := by decide +kernel
set_option maxRecDepth 20000 in
theorem ggL_value_X5_value : GoodIn wsL_value wsX5_value := goodIn_ca (goodIn_r _ [7, 8, 9, 10, 11, 12, 13, 14, 15, 16, 17, 18, 19, 20, 21, 22, 23, 24, 25, 26, 27, 28, 29, 30, 31, 32, 33, 34, 35, 36, 37, 38, 39, 40, 41, 42, 43, 44, 45, 46, 47, 48, 49, 50, 51, 52, 53, 54, 55, 56, 57, 58, 59, 60, 61, 62, 63, 64, 65, 66, 67] (by decide +kernel) (by decide +kernel)) (goodIn_sub (fun _ h => List.mem_cons_of_mem _ (List.mem_append_right _ h)) (by decide +kernel))
set_option maxRecDepth 20000 in
theorem gL_value_X5_value : GoodIn wsL_value (wsV RL 44 RX5 yX5_value wsX5_value) := goodIn_app (goodIn_of _ (by decide +kernel)) ggL_value_X5_value
theorem dL_value_0 : decode cL_value 0 = .ok (.aload_n 0, 1) := by decide +kernel
theorem dL_value_1 : decode cL_value 1 = .ok (.iload_n 1, 1) := by decide +kernel
theorem dL_value_2 : decode cL_value 2 = .ok (.invokevirtual 44, 3) := by decide +kernel
theorem dL_value_5 : decode cL_value 5 = .ok (.ireturn, 1) := by decide +kernel
theorem dL_value_6 : decode cL_value 6 = .ok (.astore_n 2, 1) := by decide +kernel
theorem dL_value_7 : decode cL_value 7 = .ok (.ldc 17, 2) := by decide +kernel
theorem dL_value_9 : decode cL_value 9 = .ok (.ireturn, 1) := by decide +kernel
set_option maxRecDepth 20000 in
theorem ggL_balance_X5_balance : GoodIn wsL_balance wsX5_balance := goodIn_ca (goodIn_r _ [7, 8, 9, 10, 11, 12, 13, 14, 15, 16, 6, 17, 18, 19, 20, 21, 22, 23, 24, 25, 26, 27, 28, 29, 30, 31, 32, 33] (by decide +kernel) (by decide +kernel)) (goodIn_sub (fun _ h => List.mem_cons_of_mem _ (List.mem_append_right _ h)) (by decide +kernel))
set_option maxRecDepth 20000 in
theorem gL_balance_X5_balance : GoodIn wsL_balance (wsV RL 47 RX5 yX5_balance wsX5_balance) := goodIn_app (goodIn_of _ (by decide +kernel)) ggL_balance_X5_balance
theorem dL_balance_0 : decode cL_balance 0 = .ok (.aload_n 0, 1) := by decide +kernel
theorem dL_balance_1 : decode cL_balance 1 = .ok (.iload_n 1, 1) := by decide +kernel
theorem dL_balance_2 : decode cL_balance 2 = .ok (.invokevirtual 47, 3) := by decide +kernel
theorem dL_balance_5 : decode cL_balance 5 = .ok (.lreturn, 1) := by decide +kernel
theorem dL_balance_6 : decode cL_balance 6 = .ok (.astore_n 2, 1) := by decide +kernel
theorem dL_balance_7 : decode cL_balance 7 = .ok (.ldc2_w 51, 3) := by decide +kernel
theorem dL_balance_10 : decode cL_balance 10 = .ok (.lreturn, 1) := by decide +kernel
set_option maxRecDepth 20000 in
theorem ggL_loadWithout_X5_loadWithout : GoodIn wsL_loadWithout wsX5_loadWithout := goodIn_ca (goodIn_r _ [7, 8, 9, 10, 11, 12, 13, 14, 15, 16, 17, 18, 19, 20, 21, 22, 23, 6, 24, 25, 26, 27, 28, 29, 30, 31, 32, 33, 34, 35, 36, 37, 38, 39, 40, 41, 42, 43, 44, 45, 46, 47, 48, 49, 50, 51, 52, 53, 54, 55, 56, 57, 58, 59, 60, 61, 62, 63, 64, 65, 66, 67, 68, 69, 70, 71, 72, 73, 74, 75, 76, 77, 78, 79, 80, 81, 82, 83, 84, 85, 86, 87, 88, 89, 90, 91, 92, 93, 94, 95, 96, 97, 98, 99, 100, 101, 102, 103, 104, 105, 106, 107, 108, 109, 110, 111, 112, 113, 114, 115, 116, 117, 118, 119] (by decide +kernel) (by decide +kernel)) (goodIn_sub (fun _ h => List.mem_cons_of_mem _ (List.mem_append_right _ h)) (by decide +kernel))
set_option maxRecDepth 20000 in
theorem gL_loadWithout_X5_loadWithout : GoodIn wsL_loadWithout (wsV RL 53 RX5 yX5_loadWithout wsX5_loadWithout) := goodIn_app (goodIn_of _ (by decide +kernel)) ggL_loadWithout_X5_loadWithout
theorem dL_loadWithout_0 : decode cL_loadWithout 0 = .ok (.aload_n 0, 1) := by decide +kernel
theorem dL_loadWithout_1 : decode cL_loadWithout 1 = .ok (.iload_n 1, 1) := by decide +kernel
theorem dL_loadWithout_2 : decode cL_loadWithout 2 = .ok (.iload_n 2, 1) := by decide +kernel
theorem dL_loadWithout_3 : decode cL_loadWithout 3 = .ok (.invokevirtual 53, 3) := by decide +kernel
theorem dL_loadWithout_6 : decode cL_loadWithout 6 = .ok (.ireturn, 1) := by decide +kernel
theorem dL_loadWithout_7 : decode cL_loadWithout 7 = .ok (.astore_n 3, 1) := by decide +kernel
theorem dL_loadWithout_8 : decode cL_loadWithout 8 = .ok (.ldc 27, 2) := by decide +kernel
theorem dL_loadWithout_10 : decode cL_loadWithout 10 = .ok (.ireturn, 1) := by decide +kernel
set_option maxRecDepth 20000 in
theorem ggL_bestPlace_X5_bestPlace : GoodIn wsL_bestPlace wsX5_bestPlace := goodIn_ca (goodIn_r _ [7, 8, 9, 10, 11, 12, 13, 14, 15, 16, 6, 17, 18, 19, 20, 21, 22, 23, 24, 25, 26, 27, 28, 29, 30, 31, 32, 33, 34, 35, 36, 37, 38, 39, 40, 41, 42, 43, 44, 45, 46, 47, 48, 49, 50, 51, 52, 53, 54, 55, 56, 57, 58, 59, 60, 61, 62, 63, 64, 65, 66, 67, 68, 69, 70, 71, 72, 73, 74, 75, 76, 77, 78, 79, 80, 81, 82, 83, 84, 85, 86, 87, 88, 89, 90, 91, 92, 93, 94, 95, 96, 97, 98, 99, 100, 101, 102, 103, 104, 105, 106, 107, 108, 109, 110, 111, 112, 113, 114, 115, 116, 117, 118, 119, 120, 121, 122, 123, 124, 125, 126, 127, 128, 129, 130] (by decide +kernel) (by decide +kernel)) (goodIn_sub (fun _ h => List.mem_cons_of_mem _ (List.mem_append_right _ h)) (by decide +kernel))
set_option maxRecDepth 20000 in
theorem gL_bestPlace_X5_bestPlace : GoodIn wsL_bestPlace (wsV RL 56 RX5 yX5_bestPlace wsX5_bestPlace) := goodIn_app (goodIn_of _ (by decide +kernel)) ggL_bestPlace_X5_bestPlace
theorem dL_bestPlace_0 : decode cL_bestPlace 0 = .ok (.aload_n 0, 1) := by decide +kernel
theorem dL_bestPlace_1 : decode cL_bestPlace 1 = .ok (.iload_n 1, 1) := by decide +kernel
theorem dL_bestPlace_2 : decode cL_bestPlace 2 = .ok (.invokevirtual 56, 3) := by decide +kernel
theorem dL_bestPlace_5 : decode cL_bestPlace 5 = .ok (.ireturn, 1) := by decide +kernel
theorem dL_bestPlace_6 : decode cL_bestPlace 6 = .ok (.astore_n 2, 1) := by decide +kernel
theorem dL_bestPlace_7 : decode cL_bestPlace 7 = .ok (.ldc 17, 2) := by decide +kernel
theorem dL_bestPlace_9 : decode cL_bestPlace 9 = .ok (.ireturn, 1) := by decide +kernel
set_option maxRecDepth 20000 in
theorem ggL_append_X5_append : GoodIn wsL_append wsX5_append := goodIn_ca (goodIn_ca (goodIn_r _ [9, 10, 11, 12, 13, 14, 15, 16, 17, 8, 18, 19, 20, 21, 22, 23, 24, 25, 26, 27, 28, 29, 30, 31, 32, 33, 34] (by decide +kernel) (by decide +kernel)) (goodIn_sub (fun _ h => List.mem_cons_of_mem _ (List.mem_append_left _ (List.mem_append_right _ h))) (by decide +kernel))) (goodIn_sub (fun _ h => List.mem_cons_of_mem _ (List.mem_append_right _ h)) (by decide +kernel))
set_option maxRecDepth 20000 in
theorem gL_append_X5_append : GoodIn wsL_append (wsV RL 59 RX5 yX5_append wsX5_append) := goodIn_app (goodIn_of _ (by decide +kernel)) ggL_append_X5_append
theorem dL_append_0 : decode cL_append 0 = .ok (.aload_n 0, 1) := by decide +kernel
theorem dL_append_1 : decode cL_append 1 = .ok (.iload_n 1, 1) := by decide +kernel
theorem dL_append_2 : decode cL_append 2 = .ok (.invokevirtual 59, 3) := by decide +kernel
theorem dL_append_5 : decode cL_append 5 = .ok (.ireturn, 1) := by decide +kernel
theorem dL_append_6 : decode cL_append 6 = .ok (.astore_n 2, 1) := by decide +kernel
theorem dL_append_7 : decode cL_append 7 = .ok (.ldc 17, 2) := by decide +kernel
theorem dL_append_9 : decode cL_append 9 = .ok (.ireturn, 1) := by decide +kernel
theorem dL_append_10 : decode cL_append 10 = .ok (.astore_n 2, 1) := by decide +kernel
theorem dL_append_11 : decode cL_append 11 = .ok (.ldc 20, 2) := by decide +kernel
theorem dL_append_13 : decode cL_append 13 = .ok (.ireturn, 1) := by decide +kernel
set_option maxRecDepth 20000 in
theorem ggL_undo_X5_undo : GoodIn wsL_undo wsX5_undo := goodIn_ca (goodIn_r _ [7, 8, 9, 10, 11, 12, 13, 14, 15, 16, 17, 18, 19, 20, 21, 22, 23, 24, 25, 26, 27, 28, 29, 30, 31, 32, 33, 34, 35, 36, 37, 38, 39, 40, 41, 42, 43, 44, 45, 46, 47, 48, 49, 50, 51, 52, 53, 54, 55, 56, 57, 58, 59, 60, 61, 62, 63, 64, 65, 66, 67, 68, 6, 69, 70, 71, 72, 73, 74, 75, 76, 77, 78, 79, 80, 81, 82, 83, 84, 85, 86, 87, 88, 89, 90, 91, 92, 93, 94, 95, 96, 97, 98, 99, 100, 101, 102, 103, 104, 105, 106, 107, 108, 109, 110, 111, 112, 113, 114, 115, 116, 117, 118, 119, 120, 121] (by decide +kernel) (by decide +kernel)) (goodIn_sub (fun _ h => List.mem_cons_of_mem _ (List.mem_append_right _ h)) (by decide +kernel))
set_option maxRecDepth 20000 in
theorem gL_undo_X5_undo : GoodIn wsL_undo (wsV RL 62 RX5 yX5_undo wsX5_undo) := goodIn_app (goodIn_of _ (by decide +kernel)) ggL_undo_X5_undo
theorem dL_undo_0 : decode cL_undo 0 = .ok (.aload_n 0, 1) := by decide +kernel
theorem dL_undo_1 : decode cL_undo 1 = .ok (.invokevirtual 62, 3) := by decide +kernel
theorem dL_undo_4 : decode cL_undo 4 = .ok (.ireturn, 1) := by decide +kernel
theorem dL_undo_5 : decode cL_undo 5 = .ok (.astore_n 1, 1) := by decide +kernel
theorem dL_undo_6 : decode cL_undo 6 = .ok (.ldc 20, 2) := by decide +kernel
theorem dL_undo_8 : decode cL_undo 8 = .ok (.ireturn, 1) := by decide +kernel
set_option maxRecDepth 20000 in
theorem ggL_sound_L_value : GoodIn wsL_sound wsL_value := goodIn_ca (goodIn_r _ [4, 5, 6, 7, 8, 9, 10, 11, 12, 13, 14, 15, 16, 17, 18, 19, 20, 21, 22, 23, 24, 25, 26, 27, 28, 29, 30, 31, 32, 33, 34, 35, 36, 37, 38, 39, 40, 41, 42, 43, 44, 45, 96, 97, 98, 99, 100, 101, 102, 103, 104, 105, 106, 107, 108, 109, 110, 111, 112, 113, 114, 115, 116, 117, 118, 119, 120, 121] (by decide +kernel) (by decide +kernel)) (goodIn_sub (fun _ h => List.mem_cons_of_mem _ (List.mem_append_left _ (List.mem_append_right _ h))) (by decide +kernel))
set_option maxRecDepth 20000 in
theorem gL_sound_L_value : GoodIn wsL_sound (va_wsS RL 66 yL_value wsL_value) := goodIn_app (goodIn_of _ (by decide +kernel)) ggL_sound_L_value
set_option maxRecDepth 20000 in
theorem ggL_sound_L_balance : GoodIn wsL_sound wsL_balance := goodIn_ca (goodIn_r _ [48, 5, 49, 50, 51, 52, 10, 53, 12, 13, 19, 22, 54, 55, 56, 57, 58, 59, 96, 97, 98, 99, 100, 101, 102, 113, 114, 115, 116, 117, 118, 119, 120, 121] (by decide +kernel) (by decide +kernel)) (goodIn_sub (fun _ h => List.mem_cons_of_mem _ (List.mem_append_left _ (List.mem_append_right _ h))) (by decide +kernel))
set_option maxRecDepth 20000 in
theorem gL_sound_L_balance : GoodIn wsL_sound (va_wsS RL 71 yL_balance wsL_balance) := goodIn_app (goodIn_of _ (by decide +kernel)) ggL_sound_L_balance
set_option maxRecDepth 20000 in
theorem ggL_sound_L_block : GoodIn wsL_sound wsL_block := goodIn_ca (goodIn_ca (goodIn_r _ [62, 63, 5, 64, 6, 65, 66, 67, 10, 68, 69, 70, 12, 13, 14, 71, 72, 73, 74, 19, 75, 20, 21, 76, 77, 78, 79, 80, 81, 82, 83, 84, 85, 86, 87, 88, 89, 90, 91, 96, 97, 98, 99, 100, 101, 102, 103, 104, 105, 106, 107, 108, 109, 110, 111, 112, 113, 114, 115, 116, 117, 118, 119, 120, 121] (by decide +kernel) (by decide +kernel)) (goodIn_sub (fun _ h => List.mem_cons_of_mem _ (List.mem_append_right _ h)) (by decide +kernel))) (goodIn_sub (fun _ h => List.mem_cons_of_mem _ (List.mem_append_left _ (List.mem_append_right _ h))) (by decide +kernel))
set_option maxRecDepth 20000 in
theorem gL_sound_L_block : GoodIn wsL_sound (va_wsS RL 74 yL_block wsL_block) := goodIn_app (goodIn_of _ (by decide +kernel)) ggL_sound_L_block
set_option maxRecDepth 20000 in
theorem ggL_sound_X5_tilt : GoodIn wsL_sound wsX5_tilt := goodIn_r _ [95, 19, 56, 22, 55, 96, 97, 98, 99, 100, 101, 102, 113, 114, 115, 116, 117, 118, 119, 120, 121] (by decide +kernel) (by decide +kernel)
set_option maxRecDepth 20000 in
theorem gL_sound_X5_tilt : GoodIn wsL_sound (wsV RL 77 RX5 yX5_tilt wsX5_tilt) := goodIn_app (goodIn_of _ (by decide +kernel)) ggL_sound_X5_tilt
theorem dL_sound_0 : decode cL_sound 0 = .ok (.aload_n 0, 1) := by decide +kernel
theorem dL_sound_1 : decode cL_sound 1 = .ok (.iconst 2, 1) := by decide +kernel
theorem dL_sound_2 : decode cL_sound 2 = .ok (.invokestatic 66, 3) := by decide +kernel
theorem dL_sound_5 : decode cL_sound 5 = .ok (.istore_n 1, 1) := by decide +kernel
theorem dL_sound_6 : decode cL_sound 6 = .ok (.aload_n 0, 1) := by decide +kernel
theorem dL_sound_7 : decode cL_sound 7 = .ok (.bipush 6, 2) := by decide +kernel
theorem dL_sound_9 : decode cL_sound 9 = .ok (.invokestatic 66, 3) := by decide +kernel
theorem dL_sound_12 : decode cL_sound 12 = .ok (.iconst 1, 1) := by decide +kernel
theorem dL_sound_13 : decode cL_sound 13 = .ok (.if_icmp .ne 7, 3) := by decide +kernel
theorem dL_sound_16 : decode cL_sound 16 = .ok (.iconst 1, 1) := by decide +kernel
theorem dL_sound_17 : decode cL_sound 17 = .ok (.goto 4, 3) := by decide +kernel
theorem dL_sound_20 : decode cL_sound 20 = .ok (.iconst 0, 1) := by decide +kernel
theorem dL_sound_21 : decode cL_sound 21 = .ok (.istore_n 2, 1) := by decide +kernel
theorem dL_sound_22 : decode cL_sound 22 = .ok (.aload_n 0, 1) := by decide +kernel
theorem dL_sound_23 : decode cL_sound 23 = .ok (.iconst 0, 1) := by decide +kernel
theorem dL_sound_24 : decode cL_sound 24 = .ok (.invokestatic 71, 3) := by decide +kernel
theorem dL_sound_27 : decode cL_sound 27 = .ok (.lstore_n 3, 1) := by decide +kernel
theorem dL_sound_28 : decode cL_sound 28 = .ok (.aload_n 0, 1) := by decide +kernel
theorem dL_sound_29 : decode cL_sound 29 = .ok (.iconst 1, 1) := by decide +kernel
theorem dL_sound_30 : decode cL_sound 30 = .ok (.invokestatic 71, 3) := by decide +kernel
theorem dL_sound_33 : decode cL_sound 33 = .ok (.lstore 5, 2) := by decide +kernel
theorem dL_sound_35 : decode cL_sound 35 = .ok (.aload_n 0, 1) := by decide +kernel
theorem dL_sound_36 : decode cL_sound 36 = .ok (.iconst 2, 1) := by decide +kernel
theorem dL_sound_37 : decode cL_sound 37 = .ok (.invokestatic 71, 3) := by decide +kernel
theorem dL_sound_40 : decode cL_sound 40 = .ok (.lstore 7, 2) := by decide +kernel
theorem dL_sound_42 : decode cL_sound 42 = .ok (.iconst 0, 1) := by decide +kernel
theorem dL_sound_43 : decode cL_sound 43 = .ok (.istore 9, 2) := by decide +kernel
theorem dL_sound_45 : decode cL_sound 45 = .ok (.iconst 0, 1) := by decide +kernel
theorem dL_sound_46 : decode cL_sound 46 = .ok (.istore 10, 2) := by decide +kernel
theorem dL_sound_48 : decode cL_sound 48 = .ok (.iconst 0, 1) := by decide +kernel
theorem dL_sound_49 : decode cL_sound 49 = .ok (.istore 11, 2) := by decide +kernel
theorem dL_sound_51 : decode cL_sound 51 = .ok (.iconst 0, 1) := by decide +kernel
theorem dL_sound_52 : decode cL_sound 52 = .ok (.istore 12, 2) := by decide +kernel
theorem dL_sound_54 : decode cL_sound 54 = .ok (.iconst 0, 1) := by decide +kernel
theorem dL_sound_55 : decode cL_sound 55 = .ok (.istore 13, 2) := by decide +kernel
theorem dL_sound_57 : decode cL_sound 57 = .ok (.iconst (-1), 1) := by decide +kernel
theorem dL_sound_58 : decode cL_sound 58 = .ok (.istore 14, 2) := by decide +kernel
theorem dL_sound_60 : decode cL_sound 60 = .ok (.lconst 0, 1) := by decide +kernel
theorem dL_sound_61 : decode cL_sound 61 = .ok (.lstore 15, 2) := by decide +kernel
theorem dL_sound_63 : decode cL_sound 63 = .ok (.lconst 0, 1) := by decide +kernel
theorem dL_sound_64 : decode cL_sound 64 = .ok (.lstore 17, 2) := by decide +kernel
theorem dL_sound_66 : decode cL_sound 66 = .ok (.iconst 0, 1) := by decide +kernel
theorem dL_sound_67 : decode cL_sound 67 = .ok (.istore 19, 2) := by decide +kernel
theorem dL_sound_69 : decode cL_sound 69 = .ok (.iload 19, 2) := by decide +kernel
theorem dL_sound_71 : decode cL_sound 71 = .ok (.iload_n 1, 1) := by decide +kernel
theorem dL_sound_72 : decode cL_sound 72 = .ok (.if_icmp .ge 362, 3) := by decide +kernel
theorem dL_sound_75 : decode cL_sound 75 = .ok (.aload_n 0, 1) := by decide +kernel
theorem dL_sound_76 : decode cL_sound 76 = .ok (.iload 19, 2) := by decide +kernel
theorem dL_sound_78 : decode cL_sound 78 = .ok (.iconst 5, 1) := by decide +kernel
theorem dL_sound_79 : decode cL_sound 79 = .ok (.invokestatic 74, 3) := by decide +kernel
theorem dL_sound_82 : decode cL_sound 82 = .ok (.istore 20, 2) := by decide +kernel
theorem dL_sound_84 : decode cL_sound 84 = .ok (.aload_n 0, 1) := by decide +kernel
theorem dL_sound_85 : decode cL_sound 85 = .ok (.iload 19, 2) := by decide +kernel
theorem dL_sound_87 : decode cL_sound 87 = .ok (.bipush 6, 2) := by decide +kernel
theorem dL_sound_89 : decode cL_sound 89 = .ok (.invokestatic 74, 3) := by decide +kernel
theorem dL_sound_92 : decode cL_sound 92 = .ok (.iconst 1, 1) := by decide +kernel
theorem dL_sound_93 : decode cL_sound 93 = .ok (.if_icmp .ne 7, 3) := by decide +kernel
theorem dL_sound_96 : decode cL_sound 96 = .ok (.iconst 1, 1) := by decide +kernel
theorem dL_sound_97 : decode cL_sound 97 = .ok (.goto 4, 3) := by decide +kernel
theorem dL_sound_100 : decode cL_sound 100 = .ok (.iconst 0, 1) := by decide +kernel
theorem dL_sound_101 : decode cL_sound 101 = .ok (.istore 21, 2) := by decide +kernel
theorem dL_sound_103 : decode cL_sound 103 = .ok (.lload_n 3, 1) := by decide +kernel
theorem dL_sound_104 : decode cL_sound 104 = .ok (.lload 5, 2) := by decide +kernel
theorem dL_sound_106 : decode cL_sound 106 = .ok (.aload_n 0, 1) := by decide +kernel
theorem dL_sound_107 : decode cL_sound 107 = .ok (.iload 19, 2) := by decide +kernel
theorem dL_sound_109 : decode cL_sound 109 = .ok (.iconst 0, 1) := by decide +kernel
theorem dL_sound_110 : decode cL_sound 110 = .ok (.invokestatic 74, 3) := by decide +kernel
theorem dL_sound_113 : decode cL_sound 113 = .ok (.i2l, 1) := by decide +kernel
theorem dL_sound_114 : decode cL_sound 114 = .ok (.lmul, 1) := by decide +kernel
theorem dL_sound_115 : decode cL_sound 115 = .ok (.ladd, 1) := by decide +kernel
theorem dL_sound_116 : decode cL_sound 116 = .ok (.lload 7, 2) := by decide +kernel
theorem dL_sound_118 : decode cL_sound 118 = .ok (.aload_n 0, 1) := by decide +kernel
theorem dL_sound_119 : decode cL_sound 119 = .ok (.iload 19, 2) := by decide +kernel
theorem dL_sound_121 : decode cL_sound 121 = .ok (.iconst 2, 1) := by decide +kernel
theorem dL_sound_122 : decode cL_sound 122 = .ok (.invokestatic 74, 3) := by decide +kernel
theorem dL_sound_125 : decode cL_sound 125 = .ok (.i2l, 1) := by decide +kernel
theorem dL_sound_126 : decode cL_sound 126 = .ok (.lmul, 1) := by decide +kernel
theorem dL_sound_127 : decode cL_sound 127 = .ok (.ladd, 1) := by decide +kernel
theorem dL_sound_128 : decode cL_sound 128 = .ok (.lstore 22, 2) := by decide +kernel
theorem dL_sound_130 : decode cL_sound 130 = .ok (.lload 22, 2) := by decide +kernel
theorem dL_sound_132 : decode cL_sound 132 = .ok (.aload_n 0, 1) := by decide +kernel
theorem dL_sound_133 : decode cL_sound 133 = .ok (.iload 19, 2) := by decide +kernel
theorem dL_sound_135 : decode cL_sound 135 = .ok (.iconst 1, 1) := by decide +kernel
theorem dL_sound_136 : decode cL_sound 136 = .ok (.invokestatic 74, 3) := by decide +kernel
theorem dL_sound_139 : decode cL_sound 139 = .ok (.i2l, 1) := by decide +kernel
theorem dL_sound_140 : decode cL_sound 140 = .ok (.lmul, 1) := by decide +kernel
theorem dL_sound_141 : decode cL_sound 141 = .ok (.lstore 24, 2) := by decide +kernel
theorem dL_sound_143 : decode cL_sound 143 = .ok (.iload 9, 2) := by decide +kernel
theorem dL_sound_145 : decode cL_sound 145 = .ok (.aload_n 0, 1) := by decide +kernel
theorem dL_sound_146 : decode cL_sound 146 = .ok (.iload 19, 2) := by decide +kernel
theorem dL_sound_148 : decode cL_sound 148 = .ok (.iconst 4, 1) := by decide +kernel
theorem dL_sound_149 : decode cL_sound 149 = .ok (.invokestatic 74, 3) := by decide +kernel
theorem dL_sound_152 : decode cL_sound 152 = .ok (.ifCond .ne 7, 3) := by decide +kernel
theorem dL_sound_155 : decode cL_sound 155 = .ok (.iconst 1, 1) := by decide +kernel
theorem dL_sound_156 : decode cL_sound 156 = .ok (.goto 4, 3) := by decide +kernel
theorem dL_sound_159 : decode cL_sound 159 = .ok (.iconst 0, 1) := by decide +kernel
theorem dL_sound_160 : decode cL_sound 160 = .ok (.iadd, 1) := by decide +kernel
theorem dL_sound_161 : decode cL_sound 161 = .ok (.istore 9, 2) := by decide +kernel
theorem dL_sound_163 : decode cL_sound 163 = .ok (.iload 10, 2) := by decide +kernel
theorem dL_sound_165 : decode cL_sound 165 = .ok (.iload 21, 2) := by decide +kernel
theorem dL_sound_167 : decode cL_sound 167 = .ok (.ifCond .eq 7, 3) := by decide +kernel
theorem dL_sound_170 : decode cL_sound 170 = .ok (.iconst 1, 1) := by decide +kernel
theorem dL_sound_171 : decode cL_sound 171 = .ok (.goto 4, 3) := by decide +kernel
theorem dL_sound_174 : decode cL_sound 174 = .ok (.iconst 0, 1) := by decide +kernel
theorem dL_sound_175 : decode cL_sound 175 = .ok (.iadd, 1) := by decide +kernel
theorem dL_sound_176 : decode cL_sound 176 = .ok (.istore 10, 2) := by decide +kernel
theorem dL_sound_178 : decode cL_sound 178 = .ok (.iload 11, 2) := by decide +kernel
theorem dL_sound_180 : decode cL_sound 180 = .ok (.aload_n 0, 1) := by decide +kernel
theorem dL_sound_181 : decode cL_sound 181 = .ok (.iload 19, 2) := by decide +kernel
theorem dL_sound_183 : decode cL_sound 183 = .ok (.bipush 7, 2) := by decide +kernel
theorem dL_sound_185 : decode cL_sound 185 = .ok (.invokestatic 74, 3) := by decide +kernel
theorem dL_sound_188 : decode cL_sound 188 = .ok (.iadd, 1) := by decide +kernel
theorem dL_sound_189 : decode cL_sound 189 = .ok (.istore 11, 2) := by decide +kernel
theorem dL_sound_191 : decode cL_sound 191 = .ok (.iload 12, 2) := by decide +kernel
theorem dL_sound_193 : decode cL_sound 193 = .ok (.iload 20, 2) := by decide +kernel
theorem dL_sound_195 : decode cL_sound 195 = .ok (.iadd, 1) := by decide +kernel
theorem dL_sound_196 : decode cL_sound 196 = .ok (.istore 12, 2) := by decide +kernel
theorem dL_sound_198 : decode cL_sound 198 = .ok (.iload_n 2, 1) := by decide +kernel
theorem dL_sound_199 : decode cL_sound 199 = .ok (.ifCond .eq 20, 3) := by decide +kernel
theorem dL_sound_202 : decode cL_sound 202 = .ok (.iload 14, 2) := by decide +kernel
theorem dL_sound_204 : decode cL_sound 204 = .ok (.ifCond .lt 10, 3) := by decide +kernel
theorem dL_sound_207 : decode cL_sound 207 = .ok (.iload 20, 2) := by decide +kernel
theorem dL_sound_209 : decode cL_sound 209 = .ok (.iload 13, 2) := by decide +kernel
theorem dL_sound_211 : decode cL_sound 211 = .ok (.if_icmp .le 8, 3) := by decide +kernel
theorem dL_sound_214 : decode cL_sound 214 = .ok (.iload 19, 2) := by decide +kernel
theorem dL_sound_216 : decode cL_sound 216 = .ok (.goto 5, 3) := by decide +kernel
theorem dL_sound_219 : decode cL_sound 219 = .ok (.iload 14, 2) := by decide +kernel
theorem dL_sound_221 : decode cL_sound 221 = .ok (.istore 14, 2) := by decide +kernel
theorem dL_sound_223 : decode cL_sound 223 = .ok (.iload_n 2, 1) := by decide +kernel
theorem dL_sound_224 : decode cL_sound 224 = .ok (.ifCond .eq 15, 3) := by decide +kernel
theorem dL_sound_227 : decode cL_sound 227 = .ok (.iload 14, 2) := by decide +kernel
theorem dL_sound_229 : decode cL_sound 229 = .ok (.iload 19, 2) := by decide +kernel
theorem dL_sound_231 : decode cL_sound 231 = .ok (.if_icmp .ne 8, 3) := by decide +kernel
theorem dL_sound_234 : decode cL_sound 234 = .ok (.iload 20, 2) := by decide +kernel
theorem dL_sound_236 : decode cL_sound 236 = .ok (.goto 5, 3) := by decide +kernel
theorem dL_sound_239 : decode cL_sound 239 = .ok (.iload 13, 2) := by decide +kernel
theorem dL_sound_241 : decode cL_sound 241 = .ok (.istore 13, 2) := by decide +kernel
theorem dL_sound_243 : decode cL_sound 243 = .ok (.lload 15, 2) := by decide +kernel
theorem dL_sound_245 : decode cL_sound 245 = .ok (.iload 21, 2) := by decide +kernel
theorem dL_sound_247 : decode cL_sound 247 = .ok (.ifCond .eq 8, 3) := by decide +kernel
theorem dL_sound_250 : decode cL_sound 250 = .ok (.lload 24, 2) := by decide +kernel
theorem dL_sound_252 : decode cL_sound 252 = .ok (.goto 4, 3) := by decide +kernel
theorem dL_sound_255 : decode cL_sound 255 = .ok (.lconst 0, 1) := by decide +kernel
theorem dL_sound_256 : decode cL_sound 256 = .ok (.ladd, 1) := by decide +kernel
theorem dL_sound_257 : decode cL_sound 257 = .ok (.lstore 15, 2) := by decide +kernel
theorem dL_sound_259 : decode cL_sound 259 = .ok (.lload 17, 2) := by decide +kernel
theorem dL_sound_261 : decode cL_sound 261 = .ok (.iload 21, 2) := by decide +kernel
theorem dL_sound_263 : decode cL_sound 263 = .ok (.ifCond .eq 17, 3) := by decide +kernel
theorem dL_sound_266 : decode cL_sound 266 = .ok (.lload 24, 2) := by decide +kernel
theorem dL_sound_268 : decode cL_sound 268 = .ok (.aload_n 0, 1) := by decide +kernel
theorem dL_sound_269 : decode cL_sound 269 = .ok (.iload 19, 2) := by decide +kernel
theorem dL_sound_271 : decode cL_sound 271 = .ok (.iconst 0, 1) := by decide +kernel
theorem dL_sound_272 : decode cL_sound 272 = .ok (.invokestatic 74, 3) := by decide +kernel
theorem dL_sound_275 : decode cL_sound 275 = .ok (.i2l, 1) := by decide +kernel
theorem dL_sound_276 : decode cL_sound 276 = .ok (.lmul, 1) := by decide +kernel
theorem dL_sound_277 : decode cL_sound 277 = .ok (.goto 4, 3) := by decide +kernel
theorem dL_sound_280 : decode cL_sound 280 = .ok (.lconst 0, 1) := by decide +kernel
theorem dL_sound_281 : decode cL_sound 281 = .ok (.ladd, 1) := by decide +kernel
theorem dL_sound_282 : decode cL_sound 282 = .ok (.lstore 17, 2) := by decide +kernel
theorem dL_sound_284 : decode cL_sound 284 = .ok (.iload 20, 2) := by decide +kernel
theorem dL_sound_286 : decode cL_sound 286 = .ok (.ifCond .lt 140, 3) := by decide +kernel
theorem dL_sound_289 : decode cL_sound 289 = .ok (.iload 21, 2) := by decide +kernel
theorem dL_sound_291 : decode cL_sound 291 = .ok (.ifCond .ne 8, 3) := by decide +kernel
theorem dL_sound_294 : decode cL_sound 294 = .ok (.iload 20, 2) := by decide +kernel
theorem dL_sound_296 : decode cL_sound 296 = .ok (.ifCond .ne 130, 3) := by decide +kernel
theorem dL_sound_299 : decode cL_sound 299 = .ok (.iload 21, 2) := by decide +kernel
theorem dL_sound_301 : decode cL_sound 301 = .ok (.ifCond .eq 50, 3) := by decide +kernel
theorem dL_sound_304 : decode cL_sound 304 = .ok (.aload_n 0, 1) := by decide +kernel
theorem dL_sound_305 : decode cL_sound 305 = .ok (.iload 19, 2) := by decide +kernel
theorem dL_sound_307 : decode cL_sound 307 = .ok (.iconst 4, 1) := by decide +kernel
theorem dL_sound_308 : decode cL_sound 308 = .ok (.invokestatic 74, 3) := by decide +kernel
theorem dL_sound_311 : decode cL_sound 311 = .ok (.ifCond .ne 115, 3) := by decide +kernel
theorem dL_sound_314 : decode cL_sound 314 = .ok (.lload 22, 2) := by decide +kernel
theorem dL_sound_316 : decode cL_sound 316 = .ok (.lconst 0, 1) := by decide +kernel
theorem dL_sound_317 : decode cL_sound 317 = .ok (.lcmp, 1) := by decide +kernel
theorem dL_sound_318 : decode cL_sound 318 = .ok (.ifCond .le 108, 3) := by decide +kernel
theorem dL_sound_321 : decode cL_sound 321 = .ok (.iload 20, 2) := by decide +kernel
theorem dL_sound_323 : decode cL_sound 323 = .ok (.i2l, 1) := by decide +kernel
theorem dL_sound_324 : decode cL_sound 324 = .ok (.lload 7, 2) := by decide +kernel
theorem dL_sound_326 : decode cL_sound 326 = .ok (.lmul, 1) := by decide +kernel
theorem dL_sound_327 : decode cL_sound 327 = .ok (.lload 24, 2) := by decide +kernel
theorem dL_sound_329 : decode cL_sound 329 = .ok (.lsub, 1) := by decide +kernel
theorem dL_sound_330 : decode cL_sound 330 = .ok (.lload 7, 2) := by decide +kernel
theorem dL_sound_332 : decode cL_sound 332 = .ok (.lcmp, 1) := by decide +kernel
theorem dL_sound_333 : decode cL_sound 333 = .ok (.ifCond .ge 93, 3) := by decide +kernel
theorem dL_sound_336 : decode cL_sound 336 = .ok (.lload 24, 2) := by decide +kernel
theorem dL_sound_338 : decode cL_sound 338 = .ok (.iload 20, 2) := by decide +kernel
theorem dL_sound_340 : decode cL_sound 340 = .ok (.i2l, 1) := by decide +kernel
theorem dL_sound_341 : decode cL_sound 341 = .ok (.lload 7, 2) := by decide +kernel
theorem dL_sound_343 : decode cL_sound 343 = .ok (.lmul, 1) := by decide +kernel
theorem dL_sound_344 : decode cL_sound 344 = .ok (.lsub, 1) := by decide +kernel
theorem dL_sound_345 : decode cL_sound 345 = .ok (.lload 7, 2) := by decide +kernel
theorem dL_sound_347 : decode cL_sound 347 = .ok (.lcmp, 1) := by decide +kernel
theorem dL_sound_348 : decode cL_sound 348 = .ok (.ifCond .ge 78, 3) := by decide +kernel
theorem dL_sound_351 : decode cL_sound 351 = .ok (.iload 21, 2) := by decide +kernel
theorem dL_sound_353 : decode cL_sound 353 = .ok (.ifCond .ne 24, 3) := by decide +kernel
theorem dL_sound_356 : decode cL_sound 356 = .ok (.iload_n 2, 1) := by decide +kernel
theorem dL_sound_357 : decode cL_sound 357 = .ok (.ifCond .eq 20, 3) := by decide +kernel
theorem dL_sound_360 : decode cL_sound 360 = .ok (.aload_n 0, 1) := by decide +kernel
theorem dL_sound_361 : decode cL_sound 361 = .ok (.iload 19, 2) := by decide +kernel
theorem dL_sound_363 : decode cL_sound 363 = .ok (.iconst 4, 1) := by decide +kernel
theorem dL_sound_364 : decode cL_sound 364 = .ok (.invokestatic 74, 3) := by decide +kernel
theorem dL_sound_367 : decode cL_sound 367 = .ok (.ifCond .ne 10, 3) := by decide +kernel
theorem dL_sound_370 : decode cL_sound 370 = .ok (.lload 22, 2) := by decide +kernel
theorem dL_sound_372 : decode cL_sound 372 = .ok (.lconst 0, 1) := by decide +kernel
theorem dL_sound_373 : decode cL_sound 373 = .ok (.lcmp, 1) := by decide +kernel
theorem dL_sound_374 : decode cL_sound 374 = .ok (.ifCond .gt 52, 3) := by decide +kernel
theorem dL_sound_377 : decode cL_sound 377 = .ok (.aload_n 0, 1) := by decide +kernel
theorem dL_sound_378 : decode cL_sound 378 = .ok (.iload 19, 2) := by decide +kernel
theorem dL_sound_380 : decode cL_sound 380 = .ok (.bipush 7, 2) := by decide +kernel
theorem dL_sound_382 : decode cL_sound 382 = .ok (.invokestatic 74, 3) := by decide +kernel
theorem dL_sound_385 : decode cL_sound 385 = .ok (.iload 20, 2) := by decide +kernel
theorem dL_sound_387 : decode cL_sound 387 = .ok (.aload_n 0, 1) := by decide +kernel
theorem dL_sound_388 : decode cL_sound 388 = .ok (.iload 19, 2) := by decide +kernel
theorem dL_sound_390 : decode cL_sound 390 = .ok (.iconst 3, 1) := by decide +kernel
theorem dL_sound_391 : decode cL_sound 391 = .ok (.invokestatic 74, 3) := by decide +kernel
theorem dL_sound_394 : decode cL_sound 394 = .ok (.if_icmp .le 7, 3) := by decide +kernel
theorem dL_sound_397 : decode cL_sound 397 = .ok (.iconst 1, 1) := by decide +kernel
theorem dL_sound_398 : decode cL_sound 398 = .ok (.goto 4, 3) := by decide +kernel
theorem dL_sound_401 : decode cL_sound 401 = .ok (.iconst 0, 1) := by decide +kernel
theorem dL_sound_402 : decode cL_sound 402 = .ok (.if_icmp .ne 24, 3) := by decide +kernel
theorem dL_sound_405 : decode cL_sound 405 = .ok (.aload_n 0, 1) := by decide +kernel
theorem dL_sound_406 : decode cL_sound 406 = .ok (.iload 19, 2) := by decide +kernel
theorem dL_sound_408 : decode cL_sound 408 = .ok (.iconst 4, 1) := by decide +kernel
theorem dL_sound_409 : decode cL_sound 409 = .ok (.invokestatic 74, 3) := by decide +kernel
theorem dL_sound_412 : decode cL_sound 412 = .ok (.ifCond .lt 14, 3) := by decide +kernel
theorem dL_sound_415 : decode cL_sound 415 = .ok (.aload_n 0, 1) := by decide +kernel
theorem dL_sound_416 : decode cL_sound 416 = .ok (.iload 19, 2) := by decide +kernel
theorem dL_sound_418 : decode cL_sound 418 = .ok (.iconst 4, 1) := by decide +kernel
theorem dL_sound_419 : decode cL_sound 419 = .ok (.invokestatic 74, 3) := by decide +kernel
theorem dL_sound_422 : decode cL_sound 422 = .ok (.iconst 2, 1) := by decide +kernel
theorem dL_sound_423 : decode cL_sound 423 = .ok (.if_icmp .le 5, 3) := by decide +kernel
theorem dL_sound_426 : decode cL_sound 426 = .ok (.iconst 0, 1) := by decide +kernel
theorem dL_sound_427 : decode cL_sound 427 = .ok (.ireturn, 1) := by decide +kernel
theorem dL_sound_428 : decode cL_sound 428 = .ok (.iinc 19 1, 3) := by decide +kernel
theorem dL_sound_431 : decode cL_sound 431 = .ok (.goto (-362), 3) := by decide +kernel
theorem dL_sound_434 : decode cL_sound 434 = .ok (.iload_n 2, 1) := by decide +kernel
theorem dL_sound_435 : decode cL_sound 435 = .ok (.ifCond .ne 108, 3) := by decide +kernel
theorem dL_sound_438 : decode cL_sound 438 = .ok (.lload_n 3, 1) := by decide +kernel
theorem dL_sound_439 : decode cL_sound 439 = .ok (.lconst 0, 1) := by decide +kernel
theorem dL_sound_440 : decode cL_sound 440 = .ok (.lcmp, 1) := by decide +kernel
theorem dL_sound_441 : decode cL_sound 441 = .ok (.ifCond .ne 100, 3) := by decide +kernel
theorem dL_sound_444 : decode cL_sound 444 = .ok (.lload 5, 2) := by decide +kernel
theorem dL_sound_446 : decode cL_sound 446 = .ok (.lconst 0, 1) := by decide +kernel
theorem dL_sound_447 : decode cL_sound 447 = .ok (.lcmp, 1) := by decide +kernel
theorem dL_sound_448 : decode cL_sound 448 = .ok (.ifCond .ne 93, 3) := by decide +kernel
theorem dL_sound_451 : decode cL_sound 451 = .ok (.lload 7, 2) := by decide +kernel
theorem dL_sound_453 : decode cL_sound 453 = .ok (.lconst 0, 1) := by decide +kernel
theorem dL_sound_454 : decode cL_sound 454 = .ok (.lcmp, 1) := by decide +kernel
theorem dL_sound_455 : decode cL_sound 455 = .ok (.ifCond .ne 86, 3) := by decide +kernel
theorem dL_sound_458 : decode cL_sound 458 = .ok (.aload_n 0, 1) := by decide +kernel
theorem dL_sound_459 : decode cL_sound 459 = .ok (.bipush 8, 2) := by decide +kernel
theorem dL_sound_461 : decode cL_sound 461 = .ok (.invokestatic 66, 3) := by decide +kernel
theorem dL_sound_464 : decode cL_sound 464 = .ok (.ifCond .ne 77, 3) := by decide +kernel
theorem dL_sound_467 : decode cL_sound 467 = .ok (.aload_n 0, 1) := by decide +kernel
theorem dL_sound_468 : decode cL_sound 468 = .ok (.bipush 9, 2) := by decide +kernel
theorem dL_sound_470 : decode cL_sound 470 = .ok (.invokestatic 66, 3) := by decide +kernel
theorem dL_sound_473 : decode cL_sound 473 = .ok (.iconst (-1), 1) := by decide +kernel
theorem dL_sound_474 : decode cL_sound 474 = .ok (.if_icmp .ne 67, 3) := by decide +kernel
theorem dL_sound_477 : decode cL_sound 477 = .ok (.aload_n 0, 1) := by decide +kernel
theorem dL_sound_478 : decode cL_sound 478 = .ok (.iconst 4, 1) := by decide +kernel
theorem dL_sound_479 : decode cL_sound 479 = .ok (.invokestatic 66, 3) := by decide +kernel
theorem dL_sound_482 : decode cL_sound 482 = .ok (.ifCond .ne 59, 3) := by decide +kernel
theorem dL_sound_485 : decode cL_sound 485 = .ok (.aload_n 0, 1) := by decide +kernel
theorem dL_sound_486 : decode cL_sound 486 = .ok (.iconst 5, 1) := by decide +kernel
theorem dL_sound_487 : decode cL_sound 487 = .ok (.invokestatic 66, 3) := by decide +kernel
theorem dL_sound_490 : decode cL_sound 490 = .ok (.ifCond .ne 51, 3) := by decide +kernel
theorem dL_sound_493 : decode cL_sound 493 = .ok (.iload 12, 2) := by decide +kernel
theorem dL_sound_495 : decode cL_sound 495 = .ok (.ifCond .ne 46, 3) := by decide +kernel
theorem dL_sound_498 : decode cL_sound 498 = .ok (.aload_n 0, 1) := by decide +kernel
theorem dL_sound_499 : decode cL_sound 499 = .ok (.iconst 3, 1) := by decide +kernel
theorem dL_sound_500 : decode cL_sound 500 = .ok (.invokestatic 66, 3) := by decide +kernel
theorem dL_sound_503 : decode cL_sound 503 = .ok (.iload 9, 2) := by decide +kernel
theorem dL_sound_505 : decode cL_sound 505 = .ok (.if_icmp .ne 36, 3) := by decide +kernel
theorem dL_sound_508 : decode cL_sound 508 = .ok (.aload_n 0, 1) := by decide +kernel
theorem dL_sound_509 : decode cL_sound 509 = .ok (.invokevirtual 77, 3) := by decide +kernel
theorem dL_sound_512 : decode cL_sound 512 = .ok (.dconst 0, 1) := by decide +kernel
theorem dL_sound_513 : decode cL_sound 513 = .ok (.dcmp .l, 1) := by decide +kernel
theorem dL_sound_514 : decode cL_sound 514 = .ok (.ifCond .ne 27, 3) := by decide +kernel
theorem dL_sound_517 : decode cL_sound 517 = .ok (.aload_n 0, 1) := by decide +kernel
theorem dL_sound_518 : decode cL_sound 518 = .ok (.bipush 7, 2) := by decide +kernel
theorem dL_sound_520 : decode cL_sound 520 = .ok (.invokestatic 66, 3) := by decide +kernel
theorem dL_sound_523 : decode cL_sound 523 = .ok (.ifCond .le 18, 3) := by decide +kernel
theorem dL_sound_526 : decode cL_sound 526 = .ok (.aload_n 0, 1) := by decide +kernel
theorem dL_sound_527 : decode cL_sound 527 = .ok (.bipush 7, 2) := by decide +kernel
theorem dL_sound_529 : decode cL_sound 529 = .ok (.invokestatic 66, 3) := by decide +kernel
theorem dL_sound_532 : decode cL_sound 532 = .ok (.bipush 31, 2) := by decide +kernel
theorem dL_sound_534 : decode cL_sound 534 = .ok (.if_icmp .ge 7, 3) := by decide +kernel
theorem dL_sound_537 : decode cL_sound 537 = .ok (.iconst 1, 1) := by decide +kernel
theorem dL_sound_538 : decode cL_sound 538 = .ok (.goto 4, 3) := by decide +kernel
theorem dL_sound_541 : decode cL_sound 541 = .ok (.iconst 0, 1) := by decide +kernel
theorem dL_sound_542 : decode cL_sound 542 = .ok (.ireturn, 1) := by decide +kernel
theorem dL_sound_543 : decode cL_sound 543 = .ok (.lload 5, 2) := by decide +kernel
theorem dL_sound_545 : decode cL_sound 545 = .ok (.l2d, 1) := by decide +kernel
theorem dL_sound_546 : decode cL_sound 546 = .ok (.lload 7, 2) := by decide +kernel
theorem dL_sound_548 : decode cL_sound 548 = .ok (.l2d, 1) := by decide +kernel
theorem dL_sound_549 : decode cL_sound 549 = .ok (.ddiv, 1) := by decide +kernel
theorem dL_sound_550 : decode cL_sound 550 = .ok (.dstore 19, 2) := by decide +kernel
theorem dL_sound_552 : decode cL_sound 552 = .ok (.lload 7, 2) := by decide +kernel
theorem dL_sound_554 : decode cL_sound 554 = .ok (.lconst 0, 1) := by decide +kernel
theorem dL_sound_555 : decode cL_sound 555 = .ok (.lcmp, 1) := by decide +kernel
theorem dL_sound_556 : decode cL_sound 556 = .ok (.ifCond .le 142, 3) := by decide +kernel
theorem dL_sound_559 : decode cL_sound 559 = .ok (.lload 15, 2) := by decide +kernel
theorem dL_sound_561 : decode cL_sound 561 = .ok (.lload 7, 2) := by decide +kernel
theorem dL_sound_563 : decode cL_sound 563 = .ok (.aload_n 0, 1) := by decide +kernel
theorem dL_sound_564 : decode cL_sound 564 = .ok (.iconst 0, 1) := by decide +kernel
theorem dL_sound_565 : decode cL_sound 565 = .ok (.invokestatic 66, 3) := by decide +kernel
theorem dL_sound_568 : decode cL_sound 568 = .ok (.i2l, 1) := by decide +kernel
theorem dL_sound_569 : decode cL_sound 569 = .ok (.lmul, 1) := by decide +kernel
theorem dL_sound_570 : decode cL_sound 570 = .ok (.lcmp, 1) := by decide +kernel
theorem dL_sound_571 : decode cL_sound 571 = .ok (.ifCond .ne 127, 3) := by decide +kernel
theorem dL_sound_574 : decode cL_sound 574 = .ok (.lload 17, 2) := by decide +kernel
theorem dL_sound_576 : decode cL_sound 576 = .ok (.lload 7, 2) := by decide +kernel
theorem dL_sound_578 : decode cL_sound 578 = .ok (.aload_n 0, 1) := by decide +kernel
theorem dL_sound_579 : decode cL_sound 579 = .ok (.iconst 0, 1) := by decide +kernel
theorem dL_sound_580 : decode cL_sound 580 = .ok (.invokestatic 66, 3) := by decide +kernel
theorem dL_sound_583 : decode cL_sound 583 = .ok (.i2l, 1) := by decide +kernel
theorem dL_sound_584 : decode cL_sound 584 = .ok (.lmul, 1) := by decide +kernel
theorem dL_sound_585 : decode cL_sound 585 = .ok (.aload_n 0, 1) := by decide +kernel
theorem dL_sound_586 : decode cL_sound 586 = .ok (.iconst 1, 1) := by decide +kernel
theorem dL_sound_587 : decode cL_sound 587 = .ok (.invokestatic 66, 3) := by decide +kernel
theorem dL_sound_590 : decode cL_sound 590 = .ok (.i2l, 1) := by decide +kernel
theorem dL_sound_591 : decode cL_sound 591 = .ok (.lmul, 1) := by decide +kernel
theorem dL_sound_592 : decode cL_sound 592 = .ok (.lcmp, 1) := by decide +kernel
theorem dL_sound_593 : decode cL_sound 593 = .ok (.ifCond .ne 105, 3) := by decide +kernel
theorem dL_sound_596 : decode cL_sound 596 = .ok (.iload 12, 2) := by decide +kernel
theorem dL_sound_598 : decode cL_sound 598 = .ok (.aload_n 0, 1) := by decide +kernel
theorem dL_sound_599 : decode cL_sound 599 = .ok (.iconst 0, 1) := by decide +kernel
theorem dL_sound_600 : decode cL_sound 600 = .ok (.invokestatic 66, 3) := by decide +kernel
theorem dL_sound_603 : decode cL_sound 603 = .ok (.if_icmp .ne 95, 3) := by decide +kernel
theorem dL_sound_606 : decode cL_sound 606 = .ok (.aload_n 0, 1) := by decide +kernel
theorem dL_sound_607 : decode cL_sound 607 = .ok (.iconst 3, 1) := by decide +kernel
theorem dL_sound_608 : decode cL_sound 608 = .ok (.invokestatic 66, 3) := by decide +kernel
theorem dL_sound_611 : decode cL_sound 611 = .ok (.iload 9, 2) := by decide +kernel
