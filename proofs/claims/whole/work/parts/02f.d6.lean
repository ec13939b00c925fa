theorem dX6_isCap_0 : decode cX6_isCap 0 = .ok (.iload_n 0, 1) := by decide +kernel
theorem dX6_isCap_1 : decode cX6_isCap 1 = .ok (.bipush (-50), 2) := by decide +kernel
theorem dX6_isCap_3 : decode cX6_isCap 3 = .ok (.bipush 50, 2) := by decide +kernel
theorem dX6_isCap_5 : decode cX6_isCap 5 = .ok (.invokestatic 40, 3) := by decide +kernel
theorem dX6_isCap_8 : decode cX6_isCap 8 = .ok (.ireturn, 1) := by decide +kernel
set_option maxRecDepth 20000 in
theorem ggX6_isLimit_X6_in : GoodIn wsX6_isLimit wsX6_in := goodIn_r _ [5] (by decide +kernel) (by decide +kernel)
set_option maxRecDepth 20000 in
theorem gX6_isLimit_X6_in : GoodIn wsX6_isLimit (va_wsS RX6 40 yX6_in wsX6_in) := goodIn_app (goodIn_of _ (by decide +kernel)) ggX6_isLimit_X6_in
theorem dX6_isLimit_0 : decode cX6_isLimit 0 = .ok (.iload_n 0, 1) := by decide +kernel
theorem dX6_isLimit_1 : decode cX6_isLimit 1 = .ok (.iconst 1, 1) := by decide +kernel
theorem dX6_isLimit_2 : decode cX6_isLimit 2 = .ok (.ldc 106, 2) := by decide +kernel
theorem dX6_isLimit_4 : decode cX6_isLimit 4 = .ok (.invokestatic 40, 3) := by decide +kernel
theorem dX6_isLimit_7 : decode cX6_isLimit 7 = .ok (.ireturn, 1) := by decide +kernel
set_option maxRecDepth 20000 in
theorem ggX6_build_X6_lay : GoodIn wsX6_build wsX6_lay := goodIn_r _ [6, 1, 7, 8, 9, 10, 11, 12, 13, 14, 15, 16, 17, 18, 19, 20, 21, 22, 23, 24, 25] (by decide +kernel) (by decide +kernel)
set_option maxRecDepth 20000 in
theorem gX6_build_X6_lay : GoodIn wsX6_build (wsV RX6 107 RX6 yX6_lay wsX6_lay) := goodIn_app (goodIn_of _ (by decide +kernel)) ggX6_build_X6_lay
theorem dX6_build_0 : decode cX6_build 0 = .ok (.aload_n 0, 1) := by decide +kernel
theorem dX6_build_1 : decode cX6_build 1 = .ok (.getfield 7, 3) := by decide +kernel
theorem dX6_build_4 : decode cX6_build 4 = .ok (.iconst 2, 1) := by decide +kernel
theorem dX6_build_5 : decode cX6_build 5 = .ok (.iaload, 1) := by decide +kernel
theorem dX6_build_6 : decode cX6_build 6 = .ok (.istore 5, 2) := by decide +kernel
theorem dX6_build_8 : decode cX6_build 8 = .ok (.aload_n 0, 1) := by decide +kernel
theorem dX6_build_9 : decode cX6_build 9 = .ok (.getfield 7, 3) := by decide +kernel
theorem dX6_build_12 : decode cX6_build 12 = .ok (.iconst 2, 1) := by decide +kernel
theorem dX6_build_13 : decode cX6_build 13 = .ok (.dup2, 1) := by decide +kernel
theorem dX6_build_14 : decode cX6_build 14 = .ok (.iaload, 1) := by decide +kernel
theorem dX6_build_15 : decode cX6_build 15 = .ok (.iconst 1, 1) := by decide +kernel
theorem dX6_build_16 : decode cX6_build 16 = .ok (.iadd, 1) := by decide +kernel
theorem dX6_build_17 : decode cX6_build 17 = .ok (.iastore, 1) := by decide +kernel
theorem dX6_build_18 : decode cX6_build 18 = .ok (.aload_n 0, 1) := by decide +kernel
theorem dX6_build_19 : decode cX6_build 19 = .ok (.iload 5, 2) := by decide +kernel
theorem dX6_build_21 : decode cX6_build 21 = .ok (.iconst 0, 1) := by decide +kernel
theorem dX6_build_22 : decode cX6_build 22 = .ok (.iload_n 1, 1) := by decide +kernel
theorem dX6_build_23 : decode cX6_build 23 = .ok (.invokevirtual 107, 3) := by decide +kernel
theorem dX6_build_26 : decode cX6_build 26 = .ok (.aload_n 0, 1) := by decide +kernel
theorem dX6_build_27 : decode cX6_build 27 = .ok (.iload 5, 2) := by decide +kernel
theorem dX6_build_29 : decode cX6_build 29 = .ok (.iconst 1, 1) := by decide +kernel
theorem dX6_build_30 : decode cX6_build 30 = .ok (.iload_n 2, 1) := by decide +kernel
theorem dX6_build_31 : decode cX6_build 31 = .ok (.invokevirtual 107, 3) := by decide +kernel
theorem dX6_build_34 : decode cX6_build 34 = .ok (.aload_n 0, 1) := by decide +kernel
theorem dX6_build_35 : decode cX6_build 35 = .ok (.iload 5, 2) := by decide +kernel
theorem dX6_build_37 : decode cX6_build 37 = .ok (.iconst 2, 1) := by decide +kernel
theorem dX6_build_38 : decode cX6_build 38 = .ok (.iload_n 3, 1) := by decide +kernel
theorem dX6_build_39 : decode cX6_build 39 = .ok (.invokevirtual 107, 3) := by decide +kernel
theorem dX6_build_42 : decode cX6_build 42 = .ok (.aload_n 0, 1) := by decide +kernel
theorem dX6_build_43 : decode cX6_build 43 = .ok (.iload 5, 2) := by decide +kernel
theorem dX6_build_45 : decode cX6_build 45 = .ok (.iconst 3, 1) := by decide +kernel
theorem dX6_build_46 : decode cX6_build 46 = .ok (.iload 4, 2) := by decide +kernel
theorem dX6_build_48 : decode cX6_build 48 = .ok (.invokevirtual 107, 3) := by decide +kernel
theorem dX6_build_51 : decode cX6_build 51 = .ok (.aload_n 0, 1) := by decide +kernel
theorem dX6_build_52 : decode cX6_build 52 = .ok (.iload 5, 2) := by decide +kernel
theorem dX6_build_54 : decode cX6_build 54 = .ok (.iconst 4, 1) := by decide +kernel
theorem dX6_build_55 : decode cX6_build 55 = .ok (.iconst 0, 1) := by decide +kernel
theorem dX6_build_56 : decode cX6_build 56 = .ok (.invokevirtual 107, 3) := by decide +kernel
theorem dX6_build_59 : decode cX6_build 59 = .ok (.aload_n 0, 1) := by decide +kernel
theorem dX6_build_60 : decode cX6_build 60 = .ok (.iload 5, 2) := by decide +kernel
theorem dX6_build_62 : decode cX6_build 62 = .ok (.iconst 5, 1) := by decide +kernel
theorem dX6_build_63 : decode cX6_build 63 = .ok (.iconst 0, 1) := by decide +kernel
theorem dX6_build_64 : decode cX6_build 64 = .ok (.invokevirtual 107, 3) := by decide +kernel
theorem dX6_build_67 : decode cX6_build 67 = .ok (.return_, 1) := by decide +kernel
set_option maxRecDepth 20000 in
theorem ggX6_addBlock_X6_isBuilt : GoodIn wsX6_addBlock wsX6_isBuilt := goodIn_r _ [6, 7, 8, 5, 9, 10, 11, 12, 13, 14, 15, 16] (by decide +kernel) (by decide +kernel)
set_option maxRecDepth 20000 in
theorem gX6_addBlock_X6_isBuilt : GoodIn wsX6_addBlock (va_wsS RX6 111 yX6_isBuilt wsX6_isBuilt) := goodIn_app (goodIn_of _ (by decide +kernel)) ggX6_addBlock_X6_isBuilt
set_option maxRecDepth 20000 in
theorem ggX6_addBlock_X6_keep : GoodIn wsX6_addBlock wsX6_keep := goodIn_r _ [20, 21, 22, 1, 23, 24, 5, 25, 34, 35, 36, 37, 38, 39, 40, 41, 42, 43, 44, 45, 46, 47, 48, 49, 50, 51, 52] (by decide +kernel) (by decide +kernel)
set_option maxRecDepth 20000 in
theorem gX6_addBlock_X6_keep : GoodIn wsX6_addBlock (wsV RX6 115 RX6 yX6_keep wsX6_keep) := goodIn_app (goodIn_of _ (by decide +kernel)) ggX6_addBlock_X6_keep
set_option maxRecDepth 20000 in
theorem ggX6_addBlock_X6_build : GoodIn wsX6_addBlock wsX6_build := goodIn_r _ [29, 1, 30, 31, 32, 5, 33, 34, 35, 36, 37, 38, 39, 40, 41, 42, 43, 44, 45, 46, 47, 48, 49, 50, 51, 52] (by decide +kernel) (by decide +kernel)
set_option maxRecDepth 20000 in
theorem gX6_addBlock_X6_build : GoodIn wsX6_addBlock (wsV RX6 118 RX6 yX6_build wsX6_build) := goodIn_app (goodIn_of _ (by decide +kernel)) ggX6_addBlock_X6_build
theorem dX6_addBlock_0 : decode cX6_addBlock 0 = .ok (.aload_n 0, 1) := by decide +kernel
theorem dX6_addBlock_1 : decode cX6_addBlock 1 = .ok (.iload_n 1, 1) := by decide +kernel
theorem dX6_addBlock_2 : decode cX6_addBlock 2 = .ok (.iload_n 2, 1) := by decide +kernel
theorem dX6_addBlock_3 : decode cX6_addBlock 3 = .ok (.iload_n 3, 1) := by decide +kernel
theorem dX6_addBlock_4 : decode cX6_addBlock 4 = .ok (.iload 4, 2) := by decide +kernel
theorem dX6_addBlock_6 : decode cX6_addBlock 6 = .ok (.invokestatic 111, 3) := by decide +kernel
theorem dX6_addBlock_9 : decode cX6_addBlock 9 = .ok (.ifCond .ne 7, 3) := by decide +kernel
theorem dX6_addBlock_12 : decode cX6_addBlock 12 = .ok (.iconst 1, 1) := by decide +kernel
theorem dX6_addBlock_13 : decode cX6_addBlock 13 = .ok (.goto 19, 3) := by decide +kernel
theorem dX6_addBlock_16 : decode cX6_addBlock 16 = .ok (.aload_n 0, 1) := by decide +kernel
theorem dX6_addBlock_17 : decode cX6_addBlock 17 = .ok (.getfield 7, 3) := by decide +kernel
theorem dX6_addBlock_20 : decode cX6_addBlock 20 = .ok (.iconst 2, 1) := by decide +kernel
theorem dX6_addBlock_21 : decode cX6_addBlock 21 = .ok (.iaload, 1) := by decide +kernel
theorem dX6_addBlock_22 : decode cX6_addBlock 22 = .ok (.bipush 16, 2) := by decide +kernel
theorem dX6_addBlock_24 : decode cX6_addBlock 24 = .ok (.if_icmp .ne 7, 3) := by decide +kernel
theorem dX6_addBlock_27 : decode cX6_addBlock 27 = .ok (.iconst 2, 1) := by decide +kernel
theorem dX6_addBlock_28 : decode cX6_addBlock 28 = .ok (.goto 4, 3) := by decide +kernel
theorem dX6_addBlock_31 : decode cX6_addBlock 31 = .ok (.iconst 0, 1) := by decide +kernel
theorem dX6_addBlock_32 : decode cX6_addBlock 32 = .ok (.putfield 29, 3) := by decide +kernel
theorem dX6_addBlock_35 : decode cX6_addBlock 35 = .ok (.aload_n 0, 1) := by decide +kernel
theorem dX6_addBlock_36 : decode cX6_addBlock 36 = .ok (.getfield 29, 3) := by decide +kernel
theorem dX6_addBlock_39 : decode cX6_addBlock 39 = .ok (.ifCond .eq 5, 3) := by decide +kernel
theorem dX6_addBlock_42 : decode cX6_addBlock 42 = .ok (.iconst 0, 1) := by decide +kernel
theorem dX6_addBlock_43 : decode cX6_addBlock 43 = .ok (.ireturn, 1) := by decide +kernel
theorem dX6_addBlock_44 : decode cX6_addBlock 44 = .ok (.aload_n 0, 1) := by decide +kernel
theorem dX6_addBlock_45 : decode cX6_addBlock 45 = .ok (.invokevirtual 115, 3) := by decide +kernel
theorem dX6_addBlock_48 : decode cX6_addBlock 48 = .ok (.aload_n 0, 1) := by decide +kernel
theorem dX6_addBlock_49 : decode cX6_addBlock 49 = .ok (.iload_n 1, 1) := by decide +kernel
theorem dX6_addBlock_50 : decode cX6_addBlock 50 = .ok (.iload_n 2, 1) := by decide +kernel
theorem dX6_addBlock_51 : decode cX6_addBlock 51 = .ok (.iload_n 3, 1) := by decide +kernel
theorem dX6_addBlock_52 : decode cX6_addBlock 52 = .ok (.iload 4, 2) := by decide +kernel
theorem dX6_addBlock_54 : decode cX6_addBlock 54 = .ok (.invokevirtual 118, 3) := by decide +kernel
theorem dX6_addBlock_57 : decode cX6_addBlock 57 = .ok (.aload_n 0, 1) := by decide +kernel
theorem dX6_addBlock_58 : decode cX6_addBlock 58 = .ok (.getfield 7, 3) := by decide +kernel
theorem dX6_addBlock_61 : decode cX6_addBlock 61 = .ok (.iconst 2, 1) := by decide +kernel
theorem dX6_addBlock_62 : decode cX6_addBlock 62 = .ok (.iaload, 1) := by decide +kernel
theorem dX6_addBlock_63 : decode cX6_addBlock 63 = .ok (.iconst 1, 1) := by decide +kernel
theorem dX6_addBlock_64 : decode cX6_addBlock 64 = .ok (.isub, 1) := by decide +kernel
theorem dX6_addBlock_65 : decode cX6_addBlock 65 = .ok (.ireturn, 1) := by decide +kernel
set_option maxRecDepth 20000 in
theorem ggX6_change_X6_keep : GoodIn wsX6_change wsX6_keep := goodIn_r _ [5, 6, 7, 8, 9, 10, 4, 11, 20, 21, 22, 23, 24, 25, 26, 27, 28, 29, 30, 31, 32, 33, 34, 35, 36, 37, 38] (by decide +kernel) (by decide +kernel)
set_option maxRecDepth 20000 in
theorem gX6_change_X6_keep : GoodIn wsX6_change (wsV RX6 115 RX6 yX6_keep wsX6_keep) := goodIn_app (goodIn_of _ (by decide +kernel)) ggX6_change_X6_keep
set_option maxRecDepth 20000 in
theorem ggX6_change_X6_of : GoodIn wsX6_change wsX6_of := goodIn_r _ [15, 8, 20, 21, 22, 23, 24, 25, 26, 27, 28, 29, 30, 31, 32, 33, 34, 35, 36, 37, 38] (by decide +kernel) (by decide +kernel)
set_option maxRecDepth 20000 in
theorem gX6_change_X6_of : GoodIn wsX6_change (wsV RX6 44 RX6 yX6_of wsX6_of) := goodIn_app (goodIn_of _ (by decide +kernel)) ggX6_change_X6_of
set_option maxRecDepth 20000 in
theorem ggX6_change_X6_lay : GoodIn wsX6_change wsX6_lay := goodIn_r _ [19, 8, 20, 21, 22, 23, 24, 25, 26, 27, 28, 29, 30, 31, 32, 33, 34, 35, 36, 37, 38] (by decide +kernel) (by decide +kernel)
set_option maxRecDepth 20000 in
theorem gX6_change_X6_lay : GoodIn wsX6_change (wsV RX6 107 RX6 yX6_lay wsX6_lay) := goodIn_app (goodIn_of _ (by decide +kernel)) ggX6_change_X6_lay
theorem dX6_change_0 : decode cX6_change 0 = .ok (.aload_n 0, 1) := by decide +kernel
theorem dX6_change_1 : decode cX6_change 1 = .ok (.invokevirtual 115, 3) := by decide +kernel
theorem dX6_change_4 : decode cX6_change 4 = .ok (.aload_n 0, 1) := by decide +kernel
theorem dX6_change_5 : decode cX6_change 5 = .ok (.iload_n 1, 1) := by decide +kernel
theorem dX6_change_6 : decode cX6_change 6 = .ok (.iload_n 2, 1) := by decide +kernel
theorem dX6_change_7 : decode cX6_change 7 = .ok (.invokevirtual 44, 3) := by decide +kernel
theorem dX6_change_10 : decode cX6_change 10 = .ok (.istore 4, 2) := by decide +kernel
theorem dX6_change_12 : decode cX6_change 12 = .ok (.aload_n 0, 1) := by decide +kernel
theorem dX6_change_13 : decode cX6_change 13 = .ok (.iload_n 1, 1) := by decide +kernel
theorem dX6_change_14 : decode cX6_change 14 = .ok (.iload_n 2, 1) := by decide +kernel
theorem dX6_change_15 : decode cX6_change 15 = .ok (.iload_n 3, 1) := by decide +kernel
theorem dX6_change_16 : decode cX6_change 16 = .ok (.invokevirtual 107, 3) := by decide +kernel
theorem dX6_change_19 : decode cX6_change 19 = .ok (.iload 4, 2) := by decide +kernel
theorem dX6_change_21 : decode cX6_change 21 = .ok (.ireturn, 1) := by decide +kernel
set_option maxRecDepth 20000 in
theorem ggX6_setCap_X6_isBlock : GoodIn wsX6_setCap wsX6_isBlock := goodIn_r _ [6, 7, 8, 9, 5, 10, 35, 36, 37, 38, 39, 40, 41, 42, 43, 44, 45, 46, 47, 48, 49, 50, 51, 52, 53] (by decide +kernel) (by decide +kernel)
set_option maxRecDepth 20000 in
theorem gX6_setCap_X6_isBlock : GoodIn wsX6_setCap (wsV RX6 122 RX6 yX6_isBlock wsX6_isBlock) := goodIn_app (goodIn_of _ (by decide +kernel)) ggX6_setCap_X6_isBlock
set_option maxRecDepth 20000 in
theorem ggX6_setCap_X6_isCap : GoodIn wsX6_setCap wsX6_isCap := goodIn_r _ [13, 8, 9, 5, 10] (by decide +kernel) (by decide +kernel)
set_option maxRecDepth 20000 in
theorem gX6_setCap_X6_isCap : GoodIn wsX6_setCap (va_wsS RX6 100 yX6_isCap wsX6_isCap) := goodIn_app (goodIn_of _ (by decide +kernel)) ggX6_setCap_X6_isCap
set_option maxRecDepth 20000 in
theorem ggX6_setCap_X6_change : GoodIn wsX6_setCap wsX6_change := goodIn_r _ [17, 18, 19, 20, 5, 21, 22, 23, 7, 24, 25, 26, 27, 28, 29, 30, 31, 32, 33, 34, 35, 36, 37, 38, 39, 40, 41, 42, 43, 44, 45, 46, 47, 48, 49, 50, 51, 52, 53] (by decide +kernel) (by decide +kernel)
set_option maxRecDepth 20000 in
theorem gX6_setCap_X6_change : GoodIn wsX6_setCap (wsV RX6 125 RX6 yX6_change wsX6_change) := goodIn_app (goodIn_of _ (by decide +kernel)) ggX6_setCap_X6_change
theorem dX6_setCap_0 : decode cX6_setCap 0 = .ok (.aload_n 0, 1) := by decide +kernel
theorem dX6_setCap_1 : decode cX6_setCap 1 = .ok (.aload_n 0, 1) := by decide +kernel
theorem dX6_setCap_2 : decode cX6_setCap 2 = .ok (.iload_n 1, 1) := by decide +kernel
theorem dX6_setCap_3 : decode cX6_setCap 3 = .ok (.invokevirtual 122, 3) := by decide +kernel
theorem dX6_setCap_6 : decode cX6_setCap 6 = .ok (.ifCond .ne 7, 3) := by decide +kernel
theorem dX6_setCap_9 : decode cX6_setCap 9 = .ok (.iconst 1, 1) := by decide +kernel
theorem dX6_setCap_10 : decode cX6_setCap 10 = .ok (.goto 15, 3) := by decide +kernel
theorem dX6_setCap_13 : decode cX6_setCap 13 = .ok (.iload_n 2, 1) := by decide +kernel
theorem dX6_setCap_14 : decode cX6_setCap 14 = .ok (.invokestatic 100, 3) := by decide +kernel
theorem dX6_setCap_17 : decode cX6_setCap 17 = .ok (.ifCond .eq 7, 3) := by decide +kernel
theorem dX6_setCap_20 : decode cX6_setCap 20 = .ok (.iconst 0, 1) := by decide +kernel
theorem dX6_setCap_21 : decode cX6_setCap 21 = .ok (.goto 4, 3) := by decide +kernel
theorem dX6_setCap_24 : decode cX6_setCap 24 = .ok (.iconst 2, 1) := by decide +kernel
theorem dX6_setCap_25 : decode cX6_setCap 25 = .ok (.putfield 29, 3) := by decide +kernel
theorem dX6_setCap_28 : decode cX6_setCap 28 = .ok (.aload_n 0, 1) := by decide +kernel
theorem dX6_setCap_29 : decode cX6_setCap 29 = .ok (.getfield 29, 3) := by decide +kernel
theorem dX6_setCap_32 : decode cX6_setCap 32 = .ok (.ifCond .eq 7, 3) := by decide +kernel
theorem dX6_setCap_35 : decode cX6_setCap 35 = .ok (.iconst 0, 1) := by decide +kernel
theorem dX6_setCap_36 : decode cX6_setCap 36 = .ok (.goto 10, 3) := by decide +kernel
theorem dX6_setCap_39 : decode cX6_setCap 39 = .ok (.aload_n 0, 1) := by decide +kernel
theorem dX6_setCap_40 : decode cX6_setCap 40 = .ok (.iload_n 1, 1) := by decide +kernel
theorem dX6_setCap_41 : decode cX6_setCap 41 = .ok (.iconst 2, 1) := by decide +kernel
theorem dX6_setCap_42 : decode cX6_setCap 42 = .ok (.iload_n 2, 1) := by decide +kernel
theorem dX6_setCap_43 : decode cX6_setCap 43 = .ok (.invokevirtual 125, 3) := by decide +kernel
theorem dX6_setCap_46 : decode cX6_setCap 46 = .ok (.ireturn, 1) := by decide +kernel
set_option maxRecDepth 20000 in
theorem ggX6_setLimit_X6_isBlock : GoodIn wsX6_setLimit wsX6_isBlock := goodIn_r _ [6, 7, 8, 9, 5, 10, 36, 37, 38, 39, 40, 41, 42, 43, 44, 45, 46, 47, 48, 49, 50, 51, 52, 53, 54] (by decide +kernel) (by decide +kernel)
set_option maxRecDepth 20000 in
theorem gX6_setLimit_X6_isBlock : GoodIn wsX6_setLimit (wsV RX6 122 RX6 yX6_isBlock wsX6_isBlock) := goodIn_app (goodIn_of _ (by decide +kernel)) ggX6_setLimit_X6_isBlock
set_option maxRecDepth 20000 in
theorem ggX6_setLimit_X6_isLimit : GoodIn wsX6_setLimit wsX6_isLimit := goodIn_r _ [13, 14, 8, 9, 5, 10] (by decide +kernel) (by decide +kernel)
set_option maxRecDepth 20000 in
theorem gX6_setLimit_X6_isLimit : GoodIn wsX6_setLimit (va_wsS RX6 103 yX6_isLimit wsX6_isLimit) := goodIn_app (goodIn_of _ (by decide +kernel)) ggX6_setLimit_X6_isLimit
set_option maxRecDepth 20000 in
theorem ggX6_setLimit_X6_change : GoodIn wsX6_setLimit wsX6_change := goodIn_r _ [18, 19, 20, 21, 5, 22, 23, 24, 7, 25, 26, 27, 28, 29, 30, 31, 32, 33, 34, 35, 36, 37, 38, 39, 40, 41, 42, 43, 44, 45, 46, 47, 48, 49, 50, 51, 52, 53, 54] (by decide +kernel) (by decide +kernel)
set_option maxRecDepth 20000 in
theorem gX6_setLimit_X6_change : GoodIn wsX6_setLimit (wsV RX6 125 RX6 yX6_change wsX6_change) := goodIn_app (goodIn_of _ (by decide +kernel)) ggX6_setLimit_X6_change
theorem dX6_setLimit_0 : decode cX6_setLimit 0 = .ok (.aload_n 0, 1) := by decide +kernel
theorem dX6_setLimit_1 : decode cX6_setLimit 1 = .ok (.aload_n 0, 1) := by decide +kernel
theorem dX6_setLimit_2 : decode cX6_setLimit 2 = .ok (.iload_n 1, 1) := by decide +kernel
theorem dX6_setLimit_3 : decode cX6_setLimit 3 = .ok (.invokevirtual 122, 3) := by decide +kernel
theorem dX6_setLimit_6 : decode cX6_setLimit 6 = .ok (.ifCond .ne 7, 3) := by decide +kernel
theorem dX6_setLimit_9 : decode cX6_setLimit 9 = .ok (.iconst 1, 1) := by decide +kernel
theorem dX6_setLimit_10 : decode cX6_setLimit 10 = .ok (.goto 15, 3) := by decide +kernel
theorem dX6_setLimit_13 : decode cX6_setLimit 13 = .ok (.iload_n 2, 1) := by decide +kernel
theorem dX6_setLimit_14 : decode cX6_setLimit 14 = .ok (.invokestatic 103, 3) := by decide +kernel
theorem dX6_setLimit_17 : decode cX6_setLimit 17 = .ok (.ifCond .eq 7, 3) := by decide +kernel
theorem dX6_setLimit_20 : decode cX6_setLimit 20 = .ok (.iconst 0, 1) := by decide +kernel
theorem dX6_setLimit_21 : decode cX6_setLimit 21 = .ok (.goto 4, 3) := by decide +kernel
theorem dX6_setLimit_24 : decode cX6_setLimit 24 = .ok (.iconst 2, 1) := by decide +kernel
theorem dX6_setLimit_25 : decode cX6_setLimit 25 = .ok (.putfield 29, 3) := by decide +kernel
theorem dX6_setLimit_28 : decode cX6_setLimit 28 = .ok (.aload_n 0, 1) := by decide +kernel
theorem dX6_setLimit_29 : decode cX6_setLimit 29 = .ok (.getfield 29, 3) := by decide +kernel
theorem dX6_setLimit_32 : decode cX6_setLimit 32 = .ok (.ifCond .eq 7, 3) := by decide +kernel
theorem dX6_setLimit_35 : decode cX6_setLimit 35 = .ok (.iconst 0, 1) := by decide +kernel
theorem dX6_setLimit_36 : decode cX6_setLimit 36 = .ok (.goto 10, 3) := by decide +kernel
theorem dX6_setLimit_39 : decode cX6_setLimit 39 = .ok (.aload_n 0, 1) := by decide +kernel
theorem dX6_setLimit_40 : decode cX6_setLimit 40 = .ok (.iload_n 1, 1) := by decide +kernel
theorem dX6_setLimit_41 : decode cX6_setLimit 41 = .ok (.iconst 3, 1) := by decide +kernel
theorem dX6_setLimit_42 : decode cX6_setLimit 42 = .ok (.iload_n 2, 1) := by decide +kernel
theorem dX6_setLimit_43 : decode cX6_setLimit 43 = .ok (.invokevirtual 125, 3) := by decide +kernel
theorem dX6_setLimit_46 : decode cX6_setLimit 46 = .ok (.ireturn, 1) := by decide +kernel
set_option maxRecDepth 20000 in
theorem ggX6_isShip_X6_in : GoodIn wsX6_isShip wsX6_in := goodIn_r _ [5] (by decide +kernel) (by decide +kernel)
set_option maxRecDepth 20000 in
theorem gX6_isShip_X6_in : GoodIn wsX6_isShip (va_wsS RX6 40 yX6_in wsX6_in) := goodIn_app (goodIn_of _ (by decide +kernel)) ggX6_isShip_X6_in
theorem dX6_isShip_0 : decode cX6_isShip 0 = .ok (.iload_n 0, 1) := by decide +kernel
theorem dX6_isShip_1 : decode cX6_isShip 1 = .ok (.iconst 1, 1) := by decide +kernel
theorem dX6_isShip_2 : decode cX6_isShip 2 = .ok (.ldc 129, 2) := by decide +kernel
theorem dX6_isShip_4 : decode cX6_isShip 4 = .ok (.invokestatic 40, 3) := by decide +kernel
theorem dX6_isShip_7 : decode cX6_isShip 7 = .ok (.ifCond .eq 18, 3) := by decide +kernel
theorem dX6_isShip_10 : decode cX6_isShip 10 = .ok (.iload_n 1, 1) := by decide +kernel
theorem dX6_isShip_11 : decode cX6_isShip 11 = .ok (.iconst 0, 1) := by decide +kernel
theorem dX6_isShip_12 : decode cX6_isShip 12 = .ok (.sipush 400, 3) := by decide +kernel
theorem dX6_isShip_15 : decode cX6_isShip 15 = .ok (.invokestatic 40, 3) := by decide +kernel
theorem dX6_isShip_18 : decode cX6_isShip 18 = .ok (.ifCond .eq 7, 3) := by decide +kernel
theorem dX6_isShip_21 : decode cX6_isShip 21 = .ok (.iconst 1, 1) := by decide +kernel
theorem dX6_isShip_22 : decode cX6_isShip 22 = .ok (.goto 4, 3) := by decide +kernel
theorem dX6_isShip_25 : decode cX6_isShip 25 = .ok (.iconst 0, 1) := by decide +kernel
theorem dX6_isShip_26 : decode cX6_isShip 26 = .ok (.ireturn, 1) := by decide +kernel
set_option maxRecDepth 20000 in
theorem ggX6_setShip_X6_isShip : GoodIn wsX6_setShip wsX6_isShip := goodIn_r _ [6, 7, 8, 9, 5, 10] (by decide +kernel) (by decide +kernel)
set_option maxRecDepth 20000 in
theorem gX6_setShip_X6_isShip : GoodIn wsX6_setShip (va_wsS RX6 130 yX6_isShip wsX6_isShip) := goodIn_app (goodIn_of _ (by decide +kernel)) ggX6_setShip_X6_isShip
set_option maxRecDepth 20000 in
theorem ggX6_setShip_X6_keep : GoodIn wsX6_setShip wsX6_keep := goodIn_r _ [14, 15, 16, 2, 17, 18, 5, 19, 20, 21, 22, 23, 24, 25, 26, 27, 28, 29, 30, 31, 32, 33, 34, 35, 36, 37, 38] (by decide +kernel) (by decide +kernel)
set_option maxRecDepth 20000 in
theorem gX6_setShip_X6_keep : GoodIn wsX6_setShip (wsV RX6 115 RX6 yX6_keep wsX6_keep) := goodIn_app (goodIn_of _ (by decide +kernel)) ggX6_setShip_X6_keep
theorem dX6_setShip_0 : decode cX6_setShip 0 = .ok (.aload_n 0, 1) := by decide +kernel
theorem dX6_setShip_1 : decode cX6_setShip 1 = .ok (.iload_n 1, 1) := by decide +kernel
theorem dX6_setShip_2 : decode cX6_setShip 2 = .ok (.iload_n 2, 1) := by decide +kernel
theorem dX6_setShip_3 : decode cX6_setShip 3 = .ok (.invokestatic 130, 3) := by decide +kernel
theorem dX6_setShip_6 : decode cX6_setShip 6 = .ok (.ifCond .eq 7, 3) := by decide +kernel
theorem dX6_setShip_9 : decode cX6_setShip 9 = .ok (.iconst 0, 1) := by decide +kernel
theorem dX6_setShip_10 : decode cX6_setShip 10 = .ok (.goto 4, 3) := by decide +kernel
theorem dX6_setShip_13 : decode cX6_setShip 13 = .ok (.iconst 1, 1) := by decide +kernel
theorem dX6_setShip_14 : decode cX6_setShip 14 = .ok (.putfield 29, 3) := by decide +kernel
theorem dX6_setShip_17 : decode cX6_setShip 17 = .ok (.aload_n 0, 1) := by decide +kernel
theorem dX6_setShip_18 : decode cX6_setShip 18 = .ok (.getfield 29, 3) := by decide +kernel
theorem dX6_setShip_21 : decode cX6_setShip 21 = .ok (.ifCond .eq 5, 3) := by decide +kernel
theorem dX6_setShip_24 : decode cX6_setShip 24 = .ok (.iconst 0, 1) := by decide +kernel
theorem dX6_setShip_25 : decode cX6_setShip 25 = .ok (.ireturn, 1) := by decide +kernel
theorem dX6_setShip_26 : decode cX6_setShip 26 = .ok (.aload_n 0, 1) := by decide +kernel
theorem dX6_setShip_27 : decode cX6_setShip 27 = .ok (.invokevirtual 115, 3) := by decide +kernel
theorem dX6_setShip_30 : decode cX6_setShip 30 = .ok (.aload_n 0, 1) := by decide +kernel
theorem dX6_setShip_31 : decode cX6_setShip 31 = .ok (.getfield 7, 3) := by decide +kernel
theorem dX6_setShip_34 : decode cX6_setShip 34 = .ok (.iconst 0, 1) := by decide +kernel
theorem dX6_setShip_35 : decode cX6_setShip 35 = .ok (.iaload, 1) := by decide +kernel
theorem dX6_setShip_36 : decode cX6_setShip 36 = .ok (.istore_n 3, 1) := by decide +kernel
theorem dX6_setShip_37 : decode cX6_setShip 37 = .ok (.aload_n 0, 1) := by decide +kernel
theorem dX6_setShip_38 : decode cX6_setShip 38 = .ok (.getfield 7, 3) := by decide +kernel
theorem dX6_setShip_41 : decode cX6_setShip 41 = .ok (.iconst 0, 1) := by decide +kernel
theorem dX6_setShip_42 : decode cX6_setShip 42 = .ok (.iload_n 1, 1) := by decide +kernel
theorem dX6_setShip_43 : decode cX6_setShip 43 = .ok (.iastore, 1) := by decide +kernel
theorem dX6_setShip_44 : decode cX6_setShip 44 = .ok (.aload_n 0, 1) := by decide +kernel
theorem dX6_setShip_45 : decode cX6_setShip 45 = .ok (.getfield 7, 3) := by decide +kernel
theorem dX6_setShip_48 : decode cX6_setShip 48 = .ok (.iconst 1, 1) := by decide +kernel
theorem dX6_setShip_49 : decode cX6_setShip 49 = .ok (.iload_n 2, 1) := by decide +kernel
theorem dX6_setShip_50 : decode cX6_setShip 50 = .ok (.iastore, 1) := by decide +kernel
theorem dX6_setShip_51 : decode cX6_setShip 51 = .ok (.iload_n 3, 1) := by decide +kernel
theorem dX6_setShip_52 : decode cX6_setShip 52 = .ok (.ireturn, 1) := by decide +kernel
set_option maxRecDepth 20000 in
theorem ggX6_canPull_X6_of : GoodIn wsX6_canPull wsX6_of := goodIn_r _ [6, 7, 55, 56, 57, 58, 59, 60, 61, 62, 63, 64, 65, 66, 67, 68, 69, 70, 71, 72, 73] (by decide +kernel) (by decide +kernel)
set_option maxRecDepth 20000 in
theorem gX6_canPull_X6_of : GoodIn wsX6_canPull (wsV RX6 44 RX6 yX6_of wsX6_of) := goodIn_app (goodIn_of _ (by decide +kernel)) ggX6_canPull_X6_of
set_option maxRecDepth 20000 in
theorem ggX6_canPull_X6_lay : GoodIn wsX6_canPull wsX6_lay := goodIn_r _ [11, 7, 55, 56, 57, 58, 59, 60, 61, 62, 63, 64, 65, 66, 67, 68, 69, 70, 71, 72, 73] (by decide +kernel) (by decide +kernel)
set_option maxRecDepth 20000 in
theorem gX6_canPull_X6_lay : GoodIn wsX6_canPull (wsV RX6 107 RX6 yX6_lay wsX6_lay) := goodIn_app (goodIn_of _ (by decide +kernel)) ggX6_canPull_X6_lay
set_option maxRecDepth 20000 in
theorem ggX6_canPull_X6_settle : GoodIn wsX6_canPull wsX6_settle := goodIn_r _ [15, 16, 17, 1, 18, 19, 20, 21, 5, 22, 7, 2, 3, 4, 6, 23, 24, 25, 26, 27, 28, 29, 30, 31, 32, 33, 34, 35, 36, 37, 38, 39, 40, 41, 42, 43, 44, 45, 46, 55, 56, 57, 58, 59, 60, 61, 62, 63, 64, 65, 66, 67, 68, 69, 70, 71, 72, 73] (by decide +kernel) (by decide +kernel)
set_option maxRecDepth 20000 in
theorem gX6_canPull_X6_settle : GoodIn wsX6_canPull (wsV RX6 133 RX6 yX6_settle wsX6_settle) := goodIn_app (goodIn_of _ (by decide +kernel)) ggX6_canPull_X6_settle
set_option maxRecDepth 20000 in
theorem ggX6_canPull_X6_overloaded : GoodIn wsX6_canPull wsX6_overloaded := goodIn_r _ [50, 7, 51, 52, 53, 5, 54, 1, 18, 2, 3, 4, 6, 55, 56, 57, 58, 59, 60, 61, 62, 63, 64, 65, 66, 67, 68, 69, 70, 71, 72, 73] (by decide +kernel) (by decide +kernel)
set_option maxRecDepth 20000 in
theorem gX6_canPull_X6_overloaded : GoodIn wsX6_canPull (wsV RX6 136 RX6 yX6_overloaded wsX6_overloaded) := goodIn_app (goodIn_of _ (by decide +kernel)) ggX6_canPull_X6_overloaded
theorem dX6_canPull_0 : decode cX6_canPull 0 = .ok (.aload_n 0, 1) := by decide +kernel
theorem dX6_canPull_1 : decode cX6_canPull 1 = .ok (.iload_n 1, 1) := by decide +kernel
theorem dX6_canPull_2 : decode cX6_canPull 2 = .ok (.iconst 4, 1) := by decide +kernel
theorem dX6_canPull_3 : decode cX6_canPull 3 = .ok (.invokevirtual 44, 3) := by decide +kernel
theorem dX6_canPull_6 : decode cX6_canPull 6 = .ok (.ifCond .eq 5, 3) := by decide +kernel
theorem dX6_canPull_9 : decode cX6_canPull 9 = .ok (.iconst 0, 1) := by decide +kernel
theorem dX6_canPull_10 : decode cX6_canPull 10 = .ok (.ireturn, 1) := by decide +kernel
theorem dX6_canPull_11 : decode cX6_canPull 11 = .ok (.aload_n 0, 1) := by decide +kernel
theorem dX6_canPull_12 : decode cX6_canPull 12 = .ok (.iload_n 1, 1) := by decide +kernel
theorem dX6_canPull_13 : decode cX6_canPull 13 = .ok (.iconst 4, 1) := by decide +kernel
theorem dX6_canPull_14 : decode cX6_canPull 14 = .ok (.iconst 1, 1) := by decide +kernel
theorem dX6_canPull_15 : decode cX6_canPull 15 = .ok (.invokevirtual 107, 3) := by decide +kernel
theorem dX6_canPull_18 : decode cX6_canPull 18 = .ok (.aload_n 0, 1) := by decide +kernel
theorem dX6_canPull_19 : decode cX6_canPull 19 = .ok (.invokevirtual 133, 3) := by decide +kernel
theorem dX6_canPull_22 : decode cX6_canPull 22 = .ok (.aload_n 0, 1) := by decide +kernel
theorem dX6_canPull_23 : decode cX6_canPull 23 = .ok (.iload_n 1, 1) := by decide +kernel
theorem dX6_canPull_24 : decode cX6_canPull 24 = .ok (.iconst 4, 1) := by decide +kernel
theorem dX6_canPull_25 : decode cX6_canPull 25 = .ok (.iconst 0, 1) := by decide +kernel
theorem dX6_canPull_26 : decode cX6_canPull 26 = .ok (.invokevirtual 107, 3) := by decide +kernel
theorem dX6_canPull_29 : decode cX6_canPull 29 = .ok (.aload_n 0, 1) := by decide +kernel
theorem dX6_canPull_30 : decode cX6_canPull 30 = .ok (.getfield 78, 3) := by decide +kernel
theorem dX6_canPull_33 : decode cX6_canPull 33 = .ok (.ifCond .eq 14, 3) := by decide +kernel
theorem dX6_canPull_36 : decode cX6_canPull 36 = .ok (.aload_n 0, 1) := by decide +kernel
theorem dX6_canPull_37 : decode cX6_canPull 37 = .ok (.invokevirtual 136, 3) := by decide +kernel
theorem dX6_canPull_40 : decode cX6_canPull 40 = .ok (.ifCond .ne 7, 3) := by decide +kernel
theorem dX6_canPull_43 : decode cX6_canPull 43 = .ok (.iconst 1, 1) := by decide +kernel
theorem dX6_canPull_44 : decode cX6_canPull 44 = .ok (.goto 4, 3) := by decide +kernel
theorem dX6_canPull_47 : decode cX6_canPull 47 = .ok (.iconst 0, 1) := by decide +kernel
theorem dX6_canPull_48 : decode cX6_canPull 48 = .ok (.ireturn, 1) := by decide +kernel
set_option maxRecDepth 20000 in
theorem ggX6_pull_X6_isBlock : GoodIn wsX6_pull wsX6_isBlock := goodIn_r _ [6, 7, 8, 9, 5, 10, 88, 89, 90, 91, 92, 93, 94, 95, 96, 97, 98, 99, 100, 101, 102, 103, 104, 105, 106] (by decide +kernel) (by decide +kernel)
set_option maxRecDepth 20000 in
theorem gX6_pull_X6_isBlock : GoodIn wsX6_pull (wsV RX6 122 RX6 yX6_isBlock wsX6_isBlock) := goodIn_app (goodIn_of _ (by decide +kernel)) ggX6_pull_X6_isBlock
set_option maxRecDepth 20000 in
theorem ggX6_pull_X6_canPull : GoodIn wsX6_pull wsX6_canPull := goodIn_r _ [14, 15, 16, 17, 18, 5, 19, 7, 20, 21, 22, 23, 24, 25, 26, 27, 28, 29, 30, 31, 32, 33, 34, 35, 36, 37, 38, 39, 40, 41, 42, 43, 44, 45, 46, 47, 48, 49, 50, 51, 52, 53, 54, 55, 56, 57, 58, 59, 60, 61, 62, 63, 64, 65, 66, 88, 89, 90, 91, 92, 93, 94, 95, 96, 97, 98, 99, 100, 101, 102, 103, 104, 105, 106] (by decide +kernel) (by decide +kernel)
set_option maxRecDepth 20000 in
theorem gX6_pull_X6_canPull : GoodIn wsX6_pull (wsV RX6 139 RX6 yX6_canPull wsX6_canPull) := goodIn_app (goodIn_of _ (by decide +kernel)) ggX6_pull_X6_canPull
set_option maxRecDepth 20000 in
theorem ggX6_pull_X6_change : GoodIn wsX6_pull wsX6_change := goodIn_r _ [70, 71, 72, 73, 5, 74, 75, 76, 7, 77, 78, 79, 16, 17, 18, 19, 20, 21, 22, 23, 88, 89, 90, 91, 92, 93, 94, 95, 96, 97, 98, 99, 100, 101, 102, 103, 104, 105, 106] (by decide +kernel) (by decide +kernel)
set_option maxRecDepth 20000 in
theorem gX6_pull_X6_change : GoodIn wsX6_pull (wsV RX6 125 RX6 yX6_change wsX6_change) := goodIn_app (goodIn_of _ (by decide +kernel)) ggX6_pull_X6_change
set_option maxRecDepth 20000 in
theorem ggX6_pull_X6_greatest : GoodIn wsX6_pull wsX6_greatest := goodIn_r _ [83, 30, 84, 85, 86, 5, 87, 7, 15, 88, 89, 90, 91, 92, 93, 94, 95, 96, 97, 98, 99, 100, 101, 102, 103, 104, 105, 106] (by decide +kernel) (by decide +kernel)
set_option maxRecDepth 20000 in
theorem gX6_pull_X6_greatest : GoodIn wsX6_pull (wsV RX6 142 RX6 yX6_greatest wsX6_greatest) := goodIn_app (goodIn_of _ (by decide +kernel)) ggX6_pull_X6_greatest
theorem dX6_pull_0 : decode cX6_pull 0 = .ok (.aload_n 0, 1) := by decide +kernel
theorem dX6_pull_1 : decode cX6_pull 1 = .ok (.aload_n 0, 1) := by decide +kernel
theorem dX6_pull_2 : decode cX6_pull 2 = .ok (.iload_n 1, 1) := by decide +kernel
theorem dX6_pull_3 : decode cX6_pull 3 = .ok (.invokevirtual 122, 3) := by decide +kernel
theorem dX6_pull_6 : decode cX6_pull 6 = .ok (.ifCond .ne 7, 3) := by decide +kernel
theorem dX6_pull_9 : decode cX6_pull 9 = .ok (.iconst 1, 1) := by decide +kernel
theorem dX6_pull_10 : decode cX6_pull 10 = .ok (.goto 16, 3) := by decide +kernel
theorem dX6_pull_13 : decode cX6_pull 13 = .ok (.aload_n 0, 1) := by decide +kernel
theorem dX6_pull_14 : decode cX6_pull 14 = .ok (.iload_n 1, 1) := by decide +kernel
theorem dX6_pull_15 : decode cX6_pull 15 = .ok (.invokevirtual 139, 3) := by decide +kernel
theorem dX6_pull_18 : decode cX6_pull 18 = .ok (.ifCond .eq 7, 3) := by decide +kernel
theorem dX6_pull_21 : decode cX6_pull 21 = .ok (.iconst 0, 1) := by decide +kernel
theorem dX6_pull_22 : decode cX6_pull 22 = .ok (.goto 4, 3) := by decide +kernel
theorem dX6_pull_25 : decode cX6_pull 25 = .ok (.iconst 2, 1) := by decide +kernel
theorem dX6_pull_26 : decode cX6_pull 26 = .ok (.putfield 29, 3) := by decide +kernel
theorem dX6_pull_29 : decode cX6_pull 29 = .ok (.aload_n 0, 1) := by decide +kernel
theorem dX6_pull_30 : decode cX6_pull 30 = .ok (.getfield 29, 3) := by decide +kernel
theorem dX6_pull_33 : decode cX6_pull 33 = .ok (.ifCond .eq 5, 3) := by decide +kernel
theorem dX6_pull_36 : decode cX6_pull 36 = .ok (.iconst 0, 1) := by decide +kernel
theorem dX6_pull_37 : decode cX6_pull 37 = .ok (.ireturn, 1) := by decide +kernel
theorem dX6_pull_38 : decode cX6_pull 38 = .ok (.aload_n 0, 1) := by decide +kernel
theorem dX6_pull_39 : decode cX6_pull 39 = .ok (.iload_n 1, 1) := by decide +kernel
theorem dX6_pull_40 : decode cX6_pull 40 = .ok (.iconst 4, 1) := by decide +kernel
theorem dX6_pull_41 : decode cX6_pull 41 = .ok (.iconst 1, 1) := by decide +kernel
theorem dX6_pull_42 : decode cX6_pull 42 = .ok (.invokevirtual 125, 3) := by decide +kernel
theorem dX6_pull_45 : decode cX6_pull 45 = .ok (.istore_n 2, 1) := by decide +kernel
theorem dX6_pull_46 : decode cX6_pull 46 = .ok (.aload_n 0, 1) := by decide +kernel
theorem dX6_pull_47 : decode cX6_pull 47 = .ok (.invokevirtual 142, 3) := by decide +kernel
theorem dX6_pull_50 : decode cX6_pull 50 = .ok (.ireturn, 1) := by decide +kernel
set_option maxRecDepth 20000 in
theorem ggX6_put_X6_isBlock : GoodIn wsX6_put wsX6_isBlock := goodIn_r _ [8, 9, 10, 11, 7, 12, 68, 69, 70, 71, 72, 73, 74, 75, 76, 77, 78, 79, 80, 81, 82, 83, 84, 85, 86] (by decide +kernel) (by decide +kernel)
set_option maxRecDepth 20000 in
theorem gX6_put_X6_isBlock : GoodIn wsX6_put (wsV RX6 122 RX6 yX6_isBlock wsX6_isBlock) := goodIn_app (goodIn_of _ (by decide +kernel)) ggX6_put_X6_isBlock
set_option maxRecDepth 20000 in
theorem ggX6_put_X6_of : GoodIn wsX6_put wsX6_of := goodIn_r _ [16, 9, 68, 69, 70, 71, 72, 73, 74, 75, 76, 77, 78, 79, 80, 81, 82, 83, 84, 85, 86] (by decide +kernel) (by decide +kernel)
set_option maxRecDepth 20000 in
theorem gX6_put_X6_of : GoodIn wsX6_put (wsV RX6 44 RX6 yX6_of wsX6_of) := goodIn_app (goodIn_of _ (by decide +kernel)) ggX6_put_X6_of
set_option maxRecDepth 20000 in
theorem ggX6_put_X6_change : GoodIn wsX6_put wsX6_change := goodIn_r _ [20, 21, 22, 23, 7, 24, 25, 26, 9, 27, 28, 29, 13, 14, 15, 16, 30, 31, 32, 33, 68, 69, 70, 71, 72, 73, 74, 75, 76, 77, 78, 79, 80, 81, 82, 83, 84, 85, 86] (by decide +kernel) (by decide +kernel)
set_option maxRecDepth 20000 in
theorem gX6_put_X6_change : GoodIn wsX6_put (wsV RX6 125 RX6 yX6_change wsX6_change) := goodIn_app (goodIn_of _ (by decide +kernel)) ggX6_put_X6_change
set_option maxRecDepth 20000 in
theorem ggX6_put_X6_settle : GoodIn wsX6_put wsX6_settle := goodIn_r _ [37, 38, 39, 2, 3, 40, 41, 42, 7, 43, 9, 13, 14, 15, 16, 44, 45, 46, 47, 48, 49, 50, 51, 52, 53, 54, 55, 56, 57, 58, 59, 60, 61, 62, 63, 64, 65, 66, 67, 68, 69, 70, 71, 72, 73, 74, 75, 76, 77, 78, 79, 80, 81, 82, 83, 84, 85, 86] (by decide +kernel) (by decide +kernel)
set_option maxRecDepth 20000 in
theorem gX6_put_X6_settle : GoodIn wsX6_put (wsV RX6 133 RX6 yX6_settle wsX6_settle) := goodIn_app (goodIn_of _ (by decide +kernel)) ggX6_put_X6_settle
theorem dX6_put_0 : decode cX6_put 0 = .ok (.aload_n 0, 1) := by decide +kernel
theorem dX6_put_1 : decode cX6_put 1 = .ok (.aload_n 0, 1) := by decide +kernel
theorem dX6_put_2 : decode cX6_put 2 = .ok (.iload_n 1, 1) := by decide +kernel
theorem dX6_put_3 : decode cX6_put 3 = .ok (.invokevirtual 122, 3) := by decide +kernel
theorem dX6_put_6 : decode cX6_put 6 = .ok (.ifCond .ne 7, 3) := by decide +kernel
theorem dX6_put_9 : decode cX6_put 9 = .ok (.iconst 1, 1) := by decide +kernel
theorem dX6_put_10 : decode cX6_put 10 = .ok (.goto 17, 3) := by decide +kernel
theorem dX6_put_13 : decode cX6_put 13 = .ok (.aload_n 0, 1) := by decide +kernel
theorem dX6_put_14 : decode cX6_put 14 = .ok (.iload_n 1, 1) := by decide +kernel
theorem dX6_put_15 : decode cX6_put 15 = .ok (.iconst 4, 1) := by decide +kernel
theorem dX6_put_16 : decode cX6_put 16 = .ok (.invokevirtual 44, 3) := by decide +kernel
theorem dX6_put_19 : decode cX6_put 19 = .ok (.ifCond .ne 7, 3) := by decide +kernel
theorem dX6_put_22 : decode cX6_put 22 = .ok (.iconst 2, 1) := by decide +kernel
theorem dX6_put_23 : decode cX6_put 23 = .ok (.goto 4, 3) := by decide +kernel
theorem dX6_put_26 : decode cX6_put 26 = .ok (.iconst 0, 1) := by decide +kernel
theorem dX6_put_27 : decode cX6_put 27 = .ok (.putfield 29, 3) := by decide +kernel
theorem dX6_put_30 : decode cX6_put 30 = .ok (.aload_n 0, 1) := by decide +kernel
theorem dX6_put_31 : decode cX6_put 31 = .ok (.getfield 29, 3) := by decide +kernel
theorem dX6_put_34 : decode cX6_put 34 = .ok (.ifCond .eq 5, 3) := by decide +kernel
theorem dX6_put_37 : decode cX6_put 37 = .ok (.iconst 0, 1) := by decide +kernel
theorem dX6_put_38 : decode cX6_put 38 = .ok (.ireturn, 1) := by decide +kernel
theorem dX6_put_39 : decode cX6_put 39 = .ok (.aload_n 0, 1) := by decide +kernel
theorem dX6_put_40 : decode cX6_put 40 = .ok (.iload_n 1, 1) := by decide +kernel
theorem dX6_put_41 : decode cX6_put 41 = .ok (.iconst 4, 1) := by decide +kernel
theorem dX6_put_42 : decode cX6_put 42 = .ok (.iconst 0, 1) := by decide +kernel
theorem dX6_put_43 : decode cX6_put 43 = .ok (.invokevirtual 125, 3) := by decide +kernel
theorem dX6_put_46 : decode cX6_put 46 = .ok (.istore_n 2, 1) := by decide +kernel
theorem dX6_put_47 : decode cX6_put 47 = .ok (.aload_n 0, 1) := by decide +kernel
theorem dX6_put_48 : decode cX6_put 48 = .ok (.invokevirtual 133, 3) := by decide +kernel
theorem dX6_put_51 : decode cX6_put 51 = .ok (.aload_n 0, 1) := by decide +kernel
theorem dX6_put_52 : decode cX6_put 52 = .ok (.getfield 78, 3) := by decide +kernel
theorem dX6_put_55 : decode cX6_put 55 = .ok (.ifCond .eq 12, 3) := by decide +kernel
theorem dX6_put_58 : decode cX6_put 58 = .ok (.aload_n 0, 1) := by decide +kernel
theorem dX6_put_59 : decode cX6_put 59 = .ok (.getfield 22, 3) := by decide +kernel
theorem dX6_put_62 : decode cX6_put 62 = .ok (.iload_n 1, 1) := by decide +kernel
theorem dX6_put_63 : decode cX6_put 63 = .ok (.iaload, 1) := by decide +kernel
theorem dX6_put_64 : decode cX6_put 64 = .ok (.goto 4, 3) := by decide +kernel
theorem dX6_put_67 : decode cX6_put 67 = .ok (.iconst (-1), 1) := by decide +kernel
theorem dX6_put_68 : decode cX6_put 68 = .ok (.ireturn, 1) := by decide +kernel
set_option maxRecDepth 20000 in
theorem ggX6_fall_X6_settle : GoodIn wsX6_fall wsX6_settle := goodIn_r _ [7, 8, 9, 10, 11, 12, 13, 14, 6, 15, 2, 16, 17, 18, 19, 20, 21, 22, 23, 24, 25, 26, 27, 28, 29, 30, 31, 32, 33, 34, 35, 36, 37, 38, 39, 40, 41, 42, 43, 59, 60, 61, 62, 63, 64, 65, 66, 67, 68, 69, 70, 71, 72, 73, 74, 75, 76, 77] (by decide +kernel) (by decide +kernel)
set_option maxRecDepth 20000 in
theorem gX6_fall_X6_settle : GoodIn wsX6_fall (wsV RX6 133 RX6 yX6_settle wsX6_settle) := goodIn_app (goodIn_of _ (by decide +kernel)) ggX6_fall_X6_settle
set_option maxRecDepth 20000 in
theorem ggX6_fall_X6_overloaded : GoodIn wsX6_fall wsX6_overloaded := goodIn_r _ [47, 2, 48, 49, 50, 6, 51, 10, 11, 16, 17, 18, 19, 59, 60, 61, 62, 63, 64, 65, 66, 67, 68, 69, 70, 71, 72, 73, 74, 75, 76, 77] (by decide +kernel) (by decide +kernel)
set_option maxRecDepth 20000 in
theorem gX6_fall_X6_overloaded : GoodIn wsX6_fall (wsV RX6 136 RX6 yX6_overloaded wsX6_overloaded) := goodIn_app (goodIn_of _ (by decide +kernel)) ggX6_fall_X6_overloaded
set_option maxRecDepth 20000 in
theorem ggX6_fall_X6_has : GoodIn wsX6_fall wsX6_has := goodIn_r _ [29] (by decide +kernel) (by decide +kernel)
set_option maxRecDepth 20000 in
theorem gX6_fall_X6_has : GoodIn wsX6_fall (va_wsS RX6 51 yX6_has wsX6_has) := goodIn_app (goodIn_of _ (by decide +kernel)) ggX6_fall_X6_has
set_option maxRecDepth 20000 in
theorem ggX6_fall_X6_of : GoodIn wsX6_fall wsX6_of := goodIn_r _ [19, 2, 59, 60, 61, 62, 63, 64, 65, 66, 67, 68, 69, 70, 71, 72, 73, 74, 75, 76, 77] (by decide +kernel) (by decide +kernel)
set_option maxRecDepth 20000 in
theorem gX6_fall_X6_of : GoodIn wsX6_fall (wsV RX6 44 RX6 yX6_of wsX6_of) := goodIn_app (goodIn_of _ (by decide +kernel)) ggX6_fall_X6_of
set_option maxRecDepth 20000 in
theorem ggX6_fall_X6_lay : GoodIn wsX6_fall wsX6_lay := goodIn_r _ [55, 2, 59, 60, 61, 62, 63, 64, 65, 66, 67, 68, 69, 70, 71, 72, 73, 74, 75, 76, 77] (by decide +kernel) (by decide +kernel)
set_option maxRecDepth 20000 in
theorem gX6_fall_X6_lay : GoodIn wsX6_fall (wsV RX6 107 RX6 yX6_lay wsX6_lay) := goodIn_app (goodIn_of _ (by decide +kernel)) ggX6_fall_X6_lay
set_option maxRecDepth 20000 in
theorem ggX6_fall_X6_many : GoodIn wsX6_fall wsX6_many := goodIn_r _ [58] (by decide +kernel) (by decide +kernel)
set_option maxRecDepth 20000 in
theorem gX6_fall_X6_many : GoodIn wsX6_fall (va_wsS RX6 148 yX6_many wsX6_many) := goodIn_app (goodIn_of _ (by decide +kernel)) ggX6_fall_X6_many
theorem dX6_fall_0 : decode cX6_fall 0 = .ok (.iconst 0, 1) := by decide +kernel
theorem dX6_fall_1 : decode cX6_fall 1 = .ok (.istore_n 1, 1) := by decide +kernel
theorem dX6_fall_2 : decode cX6_fall 2 = .ok (.aload_n 0, 1) := by decide +kernel
theorem dX6_fall_3 : decode cX6_fall 3 = .ok (.iconst 0, 1) := by decide +kernel
theorem dX6_fall_4 : decode cX6_fall 4 = .ok (.putfield 145, 3) := by decide +kernel
theorem dX6_fall_7 : decode cX6_fall 7 = .ok (.aload_n 0, 1) := by decide +kernel
theorem dX6_fall_8 : decode cX6_fall 8 = .ok (.invokevirtual 133, 3) := by decide +kernel
theorem dX6_fall_11 : decode cX6_fall 11 = .ok (.aload_n 0, 1) := by decide +kernel
theorem dX6_fall_12 : decode cX6_fall 12 = .ok (.invokevirtual 136, 3) := by decide +kernel
theorem dX6_fall_15 : decode cX6_fall 15 = .ok (.istore_n 2, 1) := by decide +kernel
theorem dX6_fall_16 : decode cX6_fall 16 = .ok (.iload_n 2, 1) := by decide +kernel
theorem dX6_fall_17 : decode cX6_fall 17 = .ok (.ifCond .eq 73, 3) := by decide +kernel
theorem dX6_fall_20 : decode cX6_fall 20 = .ok (.iconst 0, 1) := by decide +kernel
theorem dX6_fall_21 : decode cX6_fall 21 = .ok (.istore_n 3, 1) := by decide +kernel
theorem dX6_fall_22 : decode cX6_fall 22 = .ok (.iload_n 3, 1) := by decide +kernel
theorem dX6_fall_23 : decode cX6_fall 23 = .ok (.aload_n 0, 1) := by decide +kernel
theorem dX6_fall_24 : decode cX6_fall 24 = .ok (.getfield 7, 3) := by decide +kernel
theorem dX6_fall_27 : decode cX6_fall 27 = .ok (.iconst 2, 1) := by decide +kernel
theorem dX6_fall_28 : decode cX6_fall 28 = .ok (.iaload, 1) := by decide +kernel
theorem dX6_fall_29 : decode cX6_fall 29 = .ok (.if_icmp .ge 33, 3) := by decide +kernel
theorem dX6_fall_32 : decode cX6_fall 32 = .ok (.aload_n 0, 1) := by decide +kernel
theorem dX6_fall_33 : decode cX6_fall 33 = .ok (.iload_n 3, 1) := by decide +kernel
theorem dX6_fall_34 : decode cX6_fall 34 = .ok (.iconst 4, 1) := by decide +kernel
theorem dX6_fall_35 : decode cX6_fall 35 = .ok (.iload_n 2, 1) := by decide +kernel
theorem dX6_fall_36 : decode cX6_fall 36 = .ok (.iload_n 3, 1) := by decide +kernel
theorem dX6_fall_37 : decode cX6_fall 37 = .ok (.invokestatic 51, 3) := by decide +kernel
theorem dX6_fall_40 : decode cX6_fall 40 = .ok (.ifCond .eq 7, 3) := by decide +kernel
theorem dX6_fall_43 : decode cX6_fall 43 = .ok (.iconst 2, 1) := by decide +kernel
theorem dX6_fall_44 : decode cX6_fall 44 = .ok (.goto 9, 3) := by decide +kernel
theorem dX6_fall_47 : decode cX6_fall 47 = .ok (.aload_n 0, 1) := by decide +kernel
theorem dX6_fall_48 : decode cX6_fall 48 = .ok (.iload_n 3, 1) := by decide +kernel
theorem dX6_fall_49 : decode cX6_fall 49 = .ok (.iconst 4, 1) := by decide +kernel
theorem dX6_fall_50 : decode cX6_fall 50 = .ok (.invokevirtual 44, 3) := by decide +kernel
theorem dX6_fall_53 : decode cX6_fall 53 = .ok (.invokevirtual 107, 3) := by decide +kernel
theorem dX6_fall_56 : decode cX6_fall 56 = .ok (.iinc 3 1, 3) := by decide +kernel
theorem dX6_fall_59 : decode cX6_fall 59 = .ok (.goto (-37), 3) := by decide +kernel
theorem dX6_fall_62 : decode cX6_fall 62 = .ok (.aload_n 0, 1) := by decide +kernel
theorem dX6_fall_63 : decode cX6_fall 63 = .ok (.dup, 1) := by decide +kernel
theorem dX6_fall_64 : decode cX6_fall 64 = .ok (.getfield 145, 3) := by decide +kernel
theorem dX6_fall_67 : decode cX6_fall 67 = .ok (.iload_n 2, 1) := by decide +kernel
theorem dX6_fall_68 : decode cX6_fall 68 = .ok (.invokestatic 148, 3) := by decide +kernel
theorem dX6_fall_71 : decode cX6_fall 71 = .ok (.iadd, 1) := by decide +kernel
theorem dX6_fall_72 : decode cX6_fall 72 = .ok (.putfield 145, 3) := by decide +kernel
theorem dX6_fall_75 : decode cX6_fall 75 = .ok (.iinc 1 1, 3) := by decide +kernel
theorem dX6_fall_78 : decode cX6_fall 78 = .ok (.aload_n 0, 1) := by decide +kernel
theorem dX6_fall_79 : decode cX6_fall 79 = .ok (.invokevirtual 133, 3) := by decide +kernel
theorem dX6_fall_82 : decode cX6_fall 82 = .ok (.aload_n 0, 1) := by decide +kernel
theorem dX6_fall_83 : decode cX6_fall 83 = .ok (.invokevirtual 136, 3) := by decide +kernel
theorem dX6_fall_86 : decode cX6_fall 86 = .ok (.istore_n 2, 1) := by decide +kernel
theorem dX6_fall_87 : decode cX6_fall 87 = .ok (.goto (-71), 3) := by decide +kernel
theorem dX6_fall_90 : decode cX6_fall 90 = .ok (.iload_n 1, 1) := by decide +kernel
theorem dX6_fall_91 : decode cX6_fall 91 = .ok (.ireturn, 1) := by decide +kernel
set_option maxRecDepth 20000 in
theorem ggX6_cascade_X6_keep : GoodIn wsX6_cascade wsX6_keep := goodIn_r _ [7, 8, 9, 10, 11, 12, 6, 13, 73, 74, 75, 76, 77, 78, 79, 80, 81, 82, 83, 84, 85, 86, 87, 88, 89, 90, 91] (by decide +kernel) (by decide +kernel)
set_option maxRecDepth 20000 in
theorem gX6_cascade_X6_keep : GoodIn wsX6_cascade (wsV RX6 115 RX6 yX6_keep wsX6_keep) := goodIn_app (goodIn_of _ (by decide +kernel)) ggX6_cascade_X6_keep
set_option maxRecDepth 20000 in
theorem ggX6_cascade_X6_fall : GoodIn wsX6_cascade wsX6_fall := goodIn_r _ [17, 2, 10, 18, 19, 20, 6, 21, 22, 23, 24, 25, 26, 27, 28, 29, 30, 31, 32, 33, 34, 35, 36, 37, 38, 39, 40, 41, 42, 43, 44, 45, 46, 47, 48, 49, 50, 51, 52, 53, 54, 55, 56, 57, 58, 59, 60, 61, 62, 63, 64, 65, 66, 67, 68, 69, 70, 71, 72, 73, 74, 75, 76, 77, 78, 79, 80, 81, 82, 83, 84, 85, 86, 87, 88, 89, 90, 91] (by decide +kernel) (by decide +kernel)
set_option maxRecDepth 20000 in
theorem gX6_cascade_X6_fall : GoodIn wsX6_cascade (wsV RX6 151 RX6 yX6_fall wsX6_fall) := goodIn_app (goodIn_of _ (by decide +kernel)) ggX6_cascade_X6_fall
theorem dX6_cascade_0 : decode cX6_cascade 0 = .ok (.aload_n 0, 1) := by decide +kernel
theorem dX6_cascade_1 : decode cX6_cascade 1 = .ok (.iconst 0, 1) := by decide +kernel
theorem dX6_cascade_2 : decode cX6_cascade 2 = .ok (.putfield 29, 3) := by decide +kernel
theorem dX6_cascade_5 : decode cX6_cascade 5 = .ok (.aload_n 0, 1) := by decide +kernel
theorem dX6_cascade_6 : decode cX6_cascade 6 = .ok (.invokevirtual 115, 3) := by decide +kernel
theorem dX6_cascade_9 : decode cX6_cascade 9 = .ok (.aload_n 0, 1) := by decide +kernel
theorem dX6_cascade_10 : decode cX6_cascade 10 = .ok (.invokevirtual 151, 3) := by decide +kernel
theorem dX6_cascade_13 : decode cX6_cascade 13 = .ok (.istore_n 1, 1) := by decide +kernel
theorem dX6_cascade_14 : decode cX6_cascade 14 = .ok (.aload_n 0, 1) := by decide +kernel
theorem dX6_cascade_15 : decode cX6_cascade 15 = .ok (.getfield 145, 3) := by decide +kernel
theorem dX6_cascade_18 : decode cX6_cascade 18 = .ok (.ireturn, 1) := by decide +kernel
set_option maxRecDepth 20000 in
theorem ggX6_nextShaved_X6_isOver : GoodIn wsX6_nextShaved wsX6_isOver := goodIn_r _ [7, 8, 2, 9, 10, 11, 6, 12, 1, 13, 14, 15, 16, 17, 18, 19, 20, 21, 22, 23, 24, 25, 26, 27, 28, 29, 30, 31] (by decide +kernel) (by decide +kernel)
set_option maxRecDepth 20000 in
theorem gX6_nextShaved_X6_isOver : GoodIn wsX6_nextShaved (wsV RX6 93 RX6 yX6_isOver wsX6_isOver) := goodIn_app (goodIn_of _ (by decide +kernel)) ggX6_nextShaved_X6_isOver
set_option maxRecDepth 20000 in
theorem ggX6_nextShaved_X6_of : GoodIn wsX6_nextShaved wsX6_of := goodIn_r _ [12, 1, 13, 14, 15, 16, 17, 18, 19, 20, 21, 22, 23, 24, 25, 26, 27, 28, 29, 30, 31] (by decide +kernel) (by decide +kernel)
set_option maxRecDepth 20000 in
theorem gX6_nextShaved_X6_of : GoodIn wsX6_nextShaved (wsV RX6 44 RX6 yX6_of wsX6_of) := goodIn_app (goodIn_of _ (by decide +kernel)) ggX6_nextShaved_X6_of
theorem dX6_nextShaved_0 : decode cX6_nextShaved 0 = .ok (.iconst (-1), 1) := by decide +kernel
theorem dX6_nextShaved_1 : decode cX6_nextShaved 1 = .ok (.istore_n 1, 1) := by decide +kernel
theorem dX6_nextShaved_2 : decode cX6_nextShaved 2 = .ok (.iconst 0, 1) := by decide +kernel
theorem dX6_nextShaved_3 : decode cX6_nextShaved 3 = .ok (.istore_n 2, 1) := by decide +kernel
theorem dX6_nextShaved_4 : decode cX6_nextShaved 4 = .ok (.iload_n 2, 1) := by decide +kernel
theorem dX6_nextShaved_5 : decode cX6_nextShaved 5 = .ok (.aload_n 0, 1) := by decide +kernel
theorem dX6_nextShaved_6 : decode cX6_nextShaved 6 = .ok (.getfield 7, 3) := by decide +kernel
theorem dX6_nextShaved_9 : decode cX6_nextShaved 9 = .ok (.iconst 2, 1) := by decide +kernel
theorem dX6_nextShaved_10 : decode cX6_nextShaved 10 = .ok (.iaload, 1) := by decide +kernel
theorem dX6_nextShaved_11 : decode cX6_nextShaved 11 = .ok (.if_icmp .ge 67, 3) := by decide +kernel
theorem dX6_nextShaved_14 : decode cX6_nextShaved 14 = .ok (.aload_n 0, 1) := by decide +kernel
theorem dX6_nextShaved_15 : decode cX6_nextShaved 15 = .ok (.iload_n 2, 1) := by decide +kernel
theorem dX6_nextShaved_16 : decode cX6_nextShaved 16 = .ok (.invokevirtual 93, 3) := by decide +kernel
theorem dX6_nextShaved_19 : decode cX6_nextShaved 19 = .ok (.ifCond .eq 41, 3) := by decide +kernel
theorem dX6_nextShaved_22 : decode cX6_nextShaved 22 = .ok (.iload_n 1, 1) := by decide +kernel
theorem dX6_nextShaved_23 : decode cX6_nextShaved 23 = .ok (.iconst (-1), 1) := by decide +kernel
theorem dX6_nextShaved_24 : decode cX6_nextShaved 24 = .ok (.if_icmp .eq 32, 3) := by decide +kernel
theorem dX6_nextShaved_27 : decode cX6_nextShaved 27 = .ok (.aload_n 0, 1) := by decide +kernel
theorem dX6_nextShaved_28 : decode cX6_nextShaved 28 = .ok (.getfield 22, 3) := by decide +kernel
theorem dX6_nextShaved_31 : decode cX6_nextShaved 31 = .ok (.iload_n 2, 1) := by decide +kernel
theorem dX6_nextShaved_32 : decode cX6_nextShaved 32 = .ok (.iaload, 1) := by decide +kernel
theorem dX6_nextShaved_33 : decode cX6_nextShaved 33 = .ok (.aload_n 0, 1) := by decide +kernel
theorem dX6_nextShaved_34 : decode cX6_nextShaved 34 = .ok (.iload_n 2, 1) := by decide +kernel
theorem dX6_nextShaved_35 : decode cX6_nextShaved 35 = .ok (.iconst 3, 1) := by decide +kernel
theorem dX6_nextShaved_36 : decode cX6_nextShaved 36 = .ok (.invokevirtual 44, 3) := by decide +kernel
theorem dX6_nextShaved_39 : decode cX6_nextShaved 39 = .ok (.isub, 1) := by decide +kernel
theorem dX6_nextShaved_40 : decode cX6_nextShaved 40 = .ok (.aload_n 0, 1) := by decide +kernel
theorem dX6_nextShaved_41 : decode cX6_nextShaved 41 = .ok (.getfield 22, 3) := by decide +kernel
theorem dX6_nextShaved_44 : decode cX6_nextShaved 44 = .ok (.iload_n 1, 1) := by decide +kernel
theorem dX6_nextShaved_45 : decode cX6_nextShaved 45 = .ok (.iaload, 1) := by decide +kernel
theorem dX6_nextShaved_46 : decode cX6_nextShaved 46 = .ok (.aload_n 0, 1) := by decide +kernel
theorem dX6_nextShaved_47 : decode cX6_nextShaved 47 = .ok (.iload_n 1, 1) := by decide +kernel
theorem dX6_nextShaved_48 : decode cX6_nextShaved 48 = .ok (.iconst 3, 1) := by decide +kernel
theorem dX6_nextShaved_49 : decode cX6_nextShaved 49 = .ok (.invokevirtual 44, 3) := by decide +kernel
theorem dX6_nextShaved_52 : decode cX6_nextShaved 52 = .ok (.isub, 1) := by decide +kernel
theorem dX6_nextShaved_53 : decode cX6_nextShaved 53 = .ok (.if_icmp .le 7, 3) := by decide +kernel
theorem dX6_nextShaved_56 : decode cX6_nextShaved 56 = .ok (.iconst 1, 1) := by decide +kernel
theorem dX6_nextShaved_57 : decode cX6_nextShaved 57 = .ok (.goto 4, 3) := by decide +kernel
theorem dX6_nextShaved_60 : decode cX6_nextShaved 60 = .ok (.iconst 0, 1) := by decide +kernel
theorem dX6_nextShaved_61 : decode cX6_nextShaved 61 = .ok (.istore_n 3, 1) := by decide +kernel
theorem dX6_nextShaved_62 : decode cX6_nextShaved 62 = .ok (.iload_n 3, 1) := by decide +kernel
theorem dX6_nextShaved_63 : decode cX6_nextShaved 63 = .ok (.ifCond .eq 7, 3) := by decide +kernel
theorem dX6_nextShaved_66 : decode cX6_nextShaved 66 = .ok (.iload_n 2, 1) := by decide +kernel
theorem dX6_nextShaved_67 : decode cX6_nextShaved 67 = .ok (.goto 4, 3) := by decide +kernel
theorem dX6_nextShaved_70 : decode cX6_nextShaved 70 = .ok (.iload_n 1, 1) := by decide +kernel
theorem dX6_nextShaved_71 : decode cX6_nextShaved 71 = .ok (.istore_n 1, 1) := by decide +kernel
theorem dX6_nextShaved_72 : decode cX6_nextShaved 72 = .ok (.iinc 2 1, 3) := by decide +kernel
theorem dX6_nextShaved_75 : decode cX6_nextShaved 75 = .ok (.goto (-71), 3) := by decide +kernel
theorem dX6_nextShaved_78 : decode cX6_nextShaved 78 = .ok (.iload_n 1, 1) := by decide +kernel
theorem dX6_nextShaved_79 : decode cX6_nextShaved 79 = .ok (.ireturn, 1) := by decide +kernel
set_option maxRecDepth 20000 in
theorem ggX6_shaves_X6_settle : GoodIn wsX6_shaves wsX6_settle := goodIn_r _ [5, 6, 7, 8, 9, 10, 11, 12, 4, 13, 14, 15, 16, 17, 18, 19, 20, 21, 22, 23, 24, 25, 26, 27, 28, 29, 30, 31, 32, 33, 34, 35, 36, 37, 38, 39, 40, 41, 42, 55, 56, 57, 58, 59, 60, 61, 62, 63, 64, 65, 66, 67, 68, 69, 70, 71, 72, 73] (by decide +kernel) (by decide +kernel)
set_option maxRecDepth 20000 in
theorem gX6_shaves_X6_settle : GoodIn wsX6_shaves (wsV RX6 133 RX6 yX6_settle wsX6_settle) := goodIn_app (goodIn_of _ (by decide +kernel)) ggX6_shaves_X6_settle
set_option maxRecDepth 20000 in
theorem ggX6_shaves_X6_nextShaved : GoodIn wsX6_shaves wsX6_nextShaved := goodIn_r _ [46, 14, 9, 47, 48, 49, 4, 50, 8, 15, 16, 17, 18, 55, 56, 57, 58, 59, 60, 61, 62, 63, 64, 65, 66, 67, 68, 69, 70, 71, 72, 73] (by decide +kernel) (by decide +kernel)
set_option maxRecDepth 20000 in
theorem gX6_shaves_X6_nextShaved : GoodIn wsX6_shaves (wsV RX6 154 RX6 yX6_nextShaved wsX6_nextShaved) := goodIn_app (goodIn_of _ (by decide +kernel)) ggX6_shaves_X6_nextShaved
set_option maxRecDepth 20000 in
theorem ggX6_shaves_X6_of : GoodIn wsX6_shaves wsX6_of := goodIn_r _ [18, 14, 55, 56, 57, 58, 59, 60, 61, 62, 63, 64, 65, 66, 67, 68, 69, 70, 71, 72, 73] (by decide +kernel) (by decide +kernel)
set_option maxRecDepth 20000 in
theorem gX6_shaves_X6_of : GoodIn wsX6_shaves (wsV RX6 44 RX6 yX6_of wsX6_of) := goodIn_app (goodIn_of _ (by decide +kernel)) ggX6_shaves_X6_of
set_option maxRecDepth 20000 in
theorem ggX6_shaves_X6_lay : GoodIn wsX6_shaves wsX6_lay := goodIn_r _ [54, 14, 55, 56, 57, 58, 59, 60, 61, 62, 63, 64, 65, 66, 67, 68, 69, 70, 71, 72, 73] (by decide +kernel) (by decide +kernel)
set_option maxRecDepth 20000 in
theorem gX6_shaves_X6_lay : GoodIn wsX6_shaves (wsV RX6 107 RX6 yX6_lay wsX6_lay) := goodIn_app (goodIn_of _ (by decide +kernel)) ggX6_shaves_X6_lay
theorem dX6_shaves_0 : decode cX6_shaves 0 = .ok (.iconst 0, 1) := by decide +kernel
theorem dX6_shaves_1 : decode cX6_shaves 1 = .ok (.istore_n 1, 1) := by decide +kernel
theorem dX6_shaves_2 : decode cX6_shaves 2 = .ok (.aload_n 0, 1) := by decide +kernel
theorem dX6_shaves_3 : decode cX6_shaves 3 = .ok (.invokevirtual 133, 3) := by decide +kernel
theorem dX6_shaves_6 : decode cX6_shaves 6 = .ok (.aload_n 0, 1) := by decide +kernel
theorem dX6_shaves_7 : decode cX6_shaves 7 = .ok (.invokevirtual 154, 3) := by decide +kernel
theorem dX6_shaves_10 : decode cX6_shaves 10 = .ok (.istore_n 2, 1) := by decide +kernel
theorem dX6_shaves_11 : decode cX6_shaves 11 = .ok (.iload_n 2, 1) := by decide +kernel
theorem dX6_shaves_12 : decode cX6_shaves 12 = .ok (.iconst (-1), 1) := by decide +kernel
theorem dX6_shaves_13 : decode cX6_shaves 13 = .ok (.if_icmp .eq 63, 3) := by decide +kernel
theorem dX6_shaves_16 : decode cX6_shaves 16 = .ok (.iload_n 1, 1) := by decide +kernel
theorem dX6_shaves_17 : decode cX6_shaves 17 = .ok (.bipush 100, 2) := by decide +kernel
theorem dX6_shaves_19 : decode cX6_shaves 19 = .ok (.if_icmp .ge 57, 3) := by decide +kernel
theorem dX6_shaves_22 : decode cX6_shaves 22 = .ok (.aload_n 0, 1) := by decide +kernel
theorem dX6_shaves_23 : decode cX6_shaves 23 = .ok (.iload_n 2, 1) := by decide +kernel
theorem dX6_shaves_24 : decode cX6_shaves 24 = .ok (.iconst 2, 1) := by decide +kernel
theorem dX6_shaves_25 : decode cX6_shaves 25 = .ok (.invokevirtual 44, 3) := by decide +kernel
theorem dX6_shaves_28 : decode cX6_shaves 28 = .ok (.bipush (-50), 2) := by decide +kernel
theorem dX6_shaves_30 : decode cX6_shaves 30 = .ok (.if_icmp .le 46, 3) := by decide +kernel
theorem dX6_shaves_33 : decode cX6_shaves 33 = .ok (.aload_n 0, 1) := by decide +kernel
theorem dX6_shaves_34 : decode cX6_shaves 34 = .ok (.iload_n 2, 1) := by decide +kernel
theorem dX6_shaves_35 : decode cX6_shaves 35 = .ok (.iconst 2, 1) := by decide +kernel
theorem dX6_shaves_36 : decode cX6_shaves 36 = .ok (.aload_n 0, 1) := by decide +kernel
theorem dX6_shaves_37 : decode cX6_shaves 37 = .ok (.iload_n 2, 1) := by decide +kernel
theorem dX6_shaves_38 : decode cX6_shaves 38 = .ok (.iconst 2, 1) := by decide +kernel
theorem dX6_shaves_39 : decode cX6_shaves 39 = .ok (.invokevirtual 44, 3) := by decide +kernel
theorem dX6_shaves_42 : decode cX6_shaves 42 = .ok (.iconst 1, 1) := by decide +kernel
theorem dX6_shaves_43 : decode cX6_shaves 43 = .ok (.isub, 1) := by decide +kernel
theorem dX6_shaves_44 : decode cX6_shaves 44 = .ok (.invokevirtual 107, 3) := by decide +kernel
theorem dX6_shaves_47 : decode cX6_shaves 47 = .ok (.aload_n 0, 1) := by decide +kernel
theorem dX6_shaves_48 : decode cX6_shaves 48 = .ok (.iload_n 2, 1) := by decide +kernel
theorem dX6_shaves_49 : decode cX6_shaves 49 = .ok (.iconst 5, 1) := by decide +kernel
theorem dX6_shaves_50 : decode cX6_shaves 50 = .ok (.aload_n 0, 1) := by decide +kernel
theorem dX6_shaves_51 : decode cX6_shaves 51 = .ok (.iload_n 2, 1) := by decide +kernel
theorem dX6_shaves_52 : decode cX6_shaves 52 = .ok (.iconst 5, 1) := by decide +kernel
theorem dX6_shaves_53 : decode cX6_shaves 53 = .ok (.invokevirtual 44, 3) := by decide +kernel
theorem dX6_shaves_56 : decode cX6_shaves 56 = .ok (.iconst 1, 1) := by decide +kernel
theorem dX6_shaves_57 : decode cX6_shaves 57 = .ok (.iadd, 1) := by decide +kernel
theorem dX6_shaves_58 : decode cX6_shaves 58 = .ok (.invokevirtual 107, 3) := by decide +kernel
theorem dX6_shaves_61 : decode cX6_shaves 61 = .ok (.iinc 1 1, 3) := by decide +kernel
theorem dX6_shaves_64 : decode cX6_shaves 64 = .ok (.aload_n 0, 1) := by decide +kernel
theorem dX6_shaves_65 : decode cX6_shaves 65 = .ok (.invokevirtual 133, 3) := by decide +kernel
theorem dX6_shaves_68 : decode cX6_shaves 68 = .ok (.aload_n 0, 1) := by decide +kernel
theorem dX6_shaves_69 : decode cX6_shaves 69 = .ok (.invokevirtual 154, 3) := by decide +kernel
theorem dX6_shaves_72 : decode cX6_shaves 72 = .ok (.istore_n 2, 1) := by decide +kernel
theorem dX6_shaves_73 : decode cX6_shaves 73 = .ok (.goto (-62), 3) := by decide +kernel
theorem dX6_shaves_76 : decode cX6_shaves 76 = .ok (.iload_n 1, 1) := by decide +kernel
theorem dX6_shaves_77 : decode cX6_shaves 77 = .ok (.ireturn, 1) := by decide +kernel
set_option maxRecDepth 20000 in
theorem ggX6_shave_X6_keep : GoodIn wsX6_shave wsX6_keep := goodIn_r _ [6, 7, 8, 9, 10, 11, 5, 12, 69, 70, 71, 72, 73, 74, 75, 76, 77, 78, 79, 80, 81, 82, 83, 84, 85, 86, 87] (by decide +kernel) (by decide +kernel)
set_option maxRecDepth 20000 in
theorem gX6_shave_X6_keep : GoodIn wsX6_shave (wsV RX6 115 RX6 yX6_keep wsX6_keep) := goodIn_app (goodIn_of _ (by decide +kernel)) ggX6_shave_X6_keep
set_option maxRecDepth 20000 in
theorem ggX6_shave_X6_shaves : GoodIn wsX6_shave wsX6_shaves := goodIn_r _ [16, 17, 18, 19, 5, 20, 21, 22, 23, 24, 25, 26, 27, 28, 9, 29, 30, 31, 32, 33, 34, 35, 36, 37, 38, 39, 40, 41, 42, 43, 44, 45, 46, 47, 48, 49, 50, 51, 52, 53, 54, 55, 56, 57, 58, 59, 60, 61, 62, 63, 64, 65, 66, 67, 68, 69, 70, 71, 72, 73, 74, 75, 76, 77, 78, 79, 80, 81, 82, 83, 84, 85, 86, 87] (by decide +kernel) (by decide +kernel)
set_option maxRecDepth 20000 in
theorem gX6_shave_X6_shaves : GoodIn wsX6_shave (wsV RX6 157 RX6 yX6_shaves wsX6_shaves) := goodIn_app (goodIn_of _ (by decide +kernel)) ggX6_shave_X6_shaves
theorem dX6_shave_0 : decode cX6_shave 0 = .ok (.aload_n 0, 1) := by decide +kernel
theorem dX6_shave_1 : decode cX6_shave 1 = .ok (.iconst 0, 1) := by decide +kernel
theorem dX6_shave_2 : decode cX6_shave 2 = .ok (.putfield 29, 3) := by decide +kernel
theorem dX6_shave_5 : decode cX6_shave 5 = .ok (.aload_n 0, 1) := by decide +kernel
theorem dX6_shave_6 : decode cX6_shave 6 = .ok (.invokevirtual 115, 3) := by decide +kernel
theorem dX6_shave_9 : decode cX6_shave 9 = .ok (.aload_n 0, 1) := by decide +kernel
theorem dX6_shave_10 : decode cX6_shave 10 = .ok (.invokevirtual 157, 3) := by decide +kernel
theorem dX6_shave_13 : decode cX6_shave 13 = .ok (.ireturn, 1) := by decide +kernel
set_option maxRecDepth 20000 in
theorem ggX6_blockOf_X6_bears : GoodIn wsX6_blockOf wsX6_bears := goodIn_r _ [6, 7, 8, 9, 10, 5, 11, 21, 22, 23, 24, 25, 26, 27, 28, 29, 30, 31, 32, 33, 34, 35, 36, 37, 38, 39] (by decide +kernel) (by decide +kernel)
set_option maxRecDepth 20000 in
theorem gX6_blockOf_X6_bears : GoodIn wsX6_blockOf (wsV RX6 160 RX6 yX6_bears wsX6_bears) := goodIn_app (goodIn_of _ (by decide +kernel)) ggX6_blockOf_X6_bears
set_option maxRecDepth 20000 in
theorem ggX6_blockOf_X6_isOver : GoodIn wsX6_blockOf wsX6_isOver := goodIn_r _ [15, 7, 1, 16, 17, 18, 5, 19, 20, 21, 22, 23, 24, 25, 26, 27, 28, 29, 30, 31, 32, 33, 34, 35, 36, 37, 38, 39] (by decide +kernel) (by decide +kernel)
set_option maxRecDepth 20000 in
theorem gX6_blockOf_X6_isOver : GoodIn wsX6_blockOf (wsV RX6 93 RX6 yX6_isOver wsX6_isOver) := goodIn_app (goodIn_of _ (by decide +kernel)) ggX6_blockOf_X6_isOver
set_option maxRecDepth 20000 in
theorem ggX6_blockOf_X6_of : GoodIn wsX6_blockOf wsX6_of := goodIn_r _ [19, 20, 21, 22, 23, 24, 25, 26, 27, 28, 29, 30, 31, 32, 33, 34, 35, 36, 37, 38, 39] (by decide +kernel) (by decide +kernel)
set_option maxRecDepth 20000 in
theorem gX6_blockOf_X6_of : GoodIn wsX6_blockOf (wsV RX6 44 RX6 yX6_of wsX6_of) := goodIn_app (goodIn_of _ (by decide +kernel)) ggX6_blockOf_X6_of
theorem dX6_blockOf_0 : decode cX6_blockOf 0 = .ok (.iload_n 2, 1) := by decide +kernel
theorem dX6_blockOf_1 : decode cX6_blockOf 1 = .ok (.tableswitch 73 5 8 #[31, 38, 52, 66], 31) := by decide +kernel
theorem dX6_blockOf_32 : decode cX6_blockOf 32 = .ok (.aload_n 0, 1) := by decide +kernel
theorem dX6_blockOf_33 : decode cX6_blockOf 33 = .ok (.getfield 22, 3) := by decide +kernel
theorem dX6_blockOf_36 : decode cX6_blockOf 36 = .ok (.iload_n 1, 1) := by decide +kernel
theorem dX6_blockOf_37 : decode cX6_blockOf 37 = .ok (.iaload, 1) := by decide +kernel
theorem dX6_blockOf_38 : decode cX6_blockOf 38 = .ok (.ireturn, 1) := by decide +kernel
theorem dX6_blockOf_39 : decode cX6_blockOf 39 = .ok (.aload_n 0, 1) := by decide +kernel
theorem dX6_blockOf_40 : decode cX6_blockOf 40 = .ok (.iload_n 1, 1) := by decide +kernel
theorem dX6_blockOf_41 : decode cX6_blockOf 41 = .ok (.invokevirtual 160, 3) := by decide +kernel
theorem dX6_blockOf_44 : decode cX6_blockOf 44 = .ok (.ifCond .eq 7, 3) := by decide +kernel
theorem dX6_blockOf_47 : decode cX6_blockOf 47 = .ok (.iconst 1, 1) := by decide +kernel
theorem dX6_blockOf_48 : decode cX6_blockOf 48 = .ok (.goto 4, 3) := by decide +kernel
theorem dX6_blockOf_51 : decode cX6_blockOf 51 = .ok (.iconst 0, 1) := by decide +kernel
theorem dX6_blockOf_52 : decode cX6_blockOf 52 = .ok (.ireturn, 1) := by decide +kernel
theorem dX6_blockOf_53 : decode cX6_blockOf 53 = .ok (.aload_n 0, 1) := by decide +kernel
theorem dX6_blockOf_54 : decode cX6_blockOf 54 = .ok (.iload_n 1, 1) := by decide +kernel
theorem dX6_blockOf_55 : decode cX6_blockOf 55 = .ok (.invokevirtual 93, 3) := by decide +kernel
theorem dX6_blockOf_58 : decode cX6_blockOf 58 = .ok (.ifCond .eq 7, 3) := by decide +kernel
theorem dX6_blockOf_61 : decode cX6_blockOf 61 = .ok (.iconst 1, 1) := by decide +kernel
theorem dX6_blockOf_62 : decode cX6_blockOf 62 = .ok (.goto 4, 3) := by decide +kernel
theorem dX6_blockOf_65 : decode cX6_blockOf 65 = .ok (.iconst 0, 1) := by decide +kernel
theorem dX6_blockOf_66 : decode cX6_blockOf 66 = .ok (.ireturn, 1) := by decide +kernel
theorem dX6_blockOf_67 : decode cX6_blockOf 67 = .ok (.aload_n 0, 1) := by decide +kernel
theorem dX6_blockOf_68 : decode cX6_blockOf 68 = .ok (.iload_n 1, 1) := by decide +kernel
theorem dX6_blockOf_69 : decode cX6_blockOf 69 = .ok (.iconst 5, 1) := by decide +kernel
theorem dX6_blockOf_70 : decode cX6_blockOf 70 = .ok (.invokevirtual 44, 3) := by decide +kernel
theorem dX6_blockOf_73 : decode cX6_blockOf 73 = .ok (.ireturn, 1) := by decide +kernel
theorem dX6_blockOf_74 : decode cX6_blockOf 74 = .ok (.aload_n 0, 1) := by decide +kernel
theorem dX6_blockOf_75 : decode cX6_blockOf 75 = .ok (.iload_n 1, 1) := by decide +kernel
theorem dX6_blockOf_76 : decode cX6_blockOf 76 = .ok (.iload_n 2, 1) := by decide +kernel
theorem dX6_blockOf_77 : decode cX6_blockOf 77 = .ok (.invokevirtual 44, 3) := by decide +kernel
theorem dX6_blockOf_80 : decode cX6_blockOf 80 = .ok (.ireturn, 1) := by decide +kernel
set_option maxRecDepth 20000 in
theorem ggX6_block_X6_isBlock : GoodIn wsX6_block wsX6_isBlock := goodIn_r _ [6, 7, 8, 9, 5, 10, 63, 64, 65, 66, 67, 68, 69, 70, 71, 72, 73, 74, 75, 76, 77, 78, 79, 80, 81] (by decide +kernel) (by decide +kernel)
set_option maxRecDepth 20000 in
theorem gX6_block_X6_isBlock : GoodIn wsX6_block (wsV RX6 122 RX6 yX6_isBlock wsX6_isBlock) := goodIn_app (goodIn_of _ (by decide +kernel)) ggX6_block_X6_isBlock
set_option maxRecDepth 20000 in
theorem ggX6_block_X6_in : GoodIn wsX6_block wsX6_in := goodIn_r _ [10] (by decide +kernel) (by decide +kernel)
set_option maxRecDepth 20000 in
theorem gX6_block_X6_in : GoodIn wsX6_block (va_wsS RX6 40 yX6_in wsX6_in) := goodIn_app (goodIn_of _ (by decide +kernel)) ggX6_block_X6_in
set_option maxRecDepth 20000 in
theorem ggX6_block_X6_settle : GoodIn wsX6_block wsX6_settle := goodIn_r _ [14, 15, 16, 17, 18, 19, 20, 21, 5, 22, 7, 23, 24, 25, 26, 27, 28, 29, 30, 31, 32, 33, 34, 35, 36, 37, 38, 39, 40, 41, 42, 43, 44, 45, 46, 47, 48, 49, 50, 63, 64, 65, 66, 67, 68, 69, 70, 71, 72, 73, 74, 75, 76, 77, 78, 79, 80, 81] (by decide +kernel) (by decide +kernel)
set_option maxRecDepth 20000 in
theorem gX6_block_X6_settle : GoodIn wsX6_block (wsV RX6 133 RX6 yX6_settle wsX6_settle) := goodIn_app (goodIn_of _ (by decide +kernel)) ggX6_block_X6_settle
set_option maxRecDepth 20000 in
theorem ggX6_block_X6_blockOf : GoodIn wsX6_block wsX6_blockOf := goodIn_r _ [54, 18, 55, 56, 57, 5, 58, 17, 15, 34, 35, 36, 59, 60, 61, 62, 23, 24, 25, 26, 7, 63, 64, 65, 66, 67, 68, 69, 70, 71, 72, 73, 74, 75, 76, 77, 78, 79, 80, 81] (by decide +kernel) (by decide +kernel)
set_option maxRecDepth 20000 in
theorem gX6_block_X6_blockOf : GoodIn wsX6_block (wsV RX6 163 RX6 yX6_blockOf wsX6_blockOf) := goodIn_app (goodIn_of _ (by decide +kernel)) ggX6_block_X6_blockOf
theorem dX6_block_0 : decode cX6_block 0 = .ok (.aload_n 0, 1) := by decide +kernel
theorem dX6_block_1 : decode cX6_block 1 = .ok (.aload_n 0, 1) := by decide +kernel
theorem dX6_block_2 : decode cX6_block 2 = .ok (.iload_n 1, 1) := by decide +kernel
theorem dX6_block_3 : decode cX6_block 3 = .ok (.invokevirtual 122, 3) := by decide +kernel
theorem dX6_block_6 : decode cX6_block 6 = .ok (.ifCond .ne 7, 3) := by decide +kernel
theorem dX6_block_9 : decode cX6_block 9 = .ok (.iconst 1, 1) := by decide +kernel
theorem dX6_block_10 : decode cX6_block 10 = .ok (.goto 18, 3) := by decide +kernel
theorem dX6_block_13 : decode cX6_block 13 = .ok (.iload_n 2, 1) := by decide +kernel
theorem dX6_block_14 : decode cX6_block 14 = .ok (.iconst 0, 1) := by decide +kernel
theorem dX6_block_15 : decode cX6_block 15 = .ok (.bipush 8, 2) := by decide +kernel
theorem dX6_block_17 : decode cX6_block 17 = .ok (.invokestatic 40, 3) := by decide +kernel
theorem dX6_block_20 : decode cX6_block 20 = .ok (.ifCond .eq 7, 3) := by decide +kernel
theorem dX6_block_23 : decode cX6_block 23 = .ok (.iconst 0, 1) := by decide +kernel
theorem dX6_block_24 : decode cX6_block 24 = .ok (.goto 4, 3) := by decide +kernel
theorem dX6_block_27 : decode cX6_block 27 = .ok (.iconst 2, 1) := by decide +kernel
theorem dX6_block_28 : decode cX6_block 28 = .ok (.putfield 29, 3) := by decide +kernel
theorem dX6_block_31 : decode cX6_block 31 = .ok (.aload_n 0, 1) := by decide +kernel
theorem dX6_block_32 : decode cX6_block 32 = .ok (.getfield 29, 3) := by decide +kernel
theorem dX6_block_35 : decode cX6_block 35 = .ok (.ifCond .eq 5, 3) := by decide +kernel
theorem dX6_block_38 : decode cX6_block 38 = .ok (.iconst 0, 1) := by decide +kernel
theorem dX6_block_39 : decode cX6_block 39 = .ok (.ireturn, 1) := by decide +kernel
theorem dX6_block_40 : decode cX6_block 40 = .ok (.aload_n 0, 1) := by decide +kernel
theorem dX6_block_41 : decode cX6_block 41 = .ok (.invokevirtual 133, 3) := by decide +kernel
theorem dX6_block_44 : decode cX6_block 44 = .ok (.aload_n 0, 1) := by decide +kernel
theorem dX6_block_45 : decode cX6_block 45 = .ok (.iload_n 1, 1) := by decide +kernel
theorem dX6_block_46 : decode cX6_block 46 = .ok (.iload_n 2, 1) := by decide +kernel
theorem dX6_block_47 : decode cX6_block 47 = .ok (.invokevirtual 163, 3) := by decide +kernel
theorem dX6_block_50 : decode cX6_block 50 = .ok (.ireturn, 1) := by decide +kernel
set_option maxRecDepth 20000 in
theorem ggX6_valueOf_X6_standing : GoodIn wsX6_valueOf wsX6_standing := goodIn_r _ [9, 4, 10, 11, 12, 8, 13, 34, 35, 36, 37, 38, 39, 40, 41, 42, 43, 44, 45, 46, 47, 48, 49, 50, 51, 52] (by decide +kernel) (by decide +kernel)
set_option maxRecDepth 20000 in
theorem gX6_valueOf_X6_standing : GoodIn wsX6_valueOf (wsV RX6 71 RX6 yX6_standing wsX6_standing) := goodIn_app (goodIn_of _ (by decide +kernel)) ggX6_valueOf_X6_standing
set_option maxRecDepth 20000 in
theorem ggX6_valueOf_X6_many : GoodIn wsX6_valueOf wsX6_many := goodIn_r _ [16] (by decide +kernel) (by decide +kernel)
set_option maxRecDepth 20000 in
theorem gX6_valueOf_X6_many : GoodIn wsX6_valueOf (va_wsS RX6 148 yX6_many wsX6_many) := goodIn_app (goodIn_of _ (by decide +kernel)) ggX6_valueOf_X6_many
set_option maxRecDepth 20000 in
theorem ggX6_valueOf_X6_overloaded : GoodIn wsX6_valueOf wsX6_overloaded := goodIn_r _ [20, 4, 21, 22, 23, 8, 24, 1, 25, 10, 11, 12, 13, 34, 35, 36, 37, 38, 39, 40, 41, 42, 43, 44, 45, 46, 47, 48, 49, 50, 51, 52] (by decide +kernel) (by decide +kernel)
set_option maxRecDepth 20000 in
theorem gX6_valueOf_X6_overloaded : GoodIn wsX6_valueOf (wsV RX6 136 RX6 yX6_overloaded wsX6_overloaded) := goodIn_app (goodIn_of _ (by decide +kernel)) ggX6_valueOf_X6_overloaded
set_option maxRecDepth 20000 in
theorem ggX6_valueOf_X6_greatest : GoodIn wsX6_valueOf wsX6_greatest := goodIn_r _ [29, 25, 30, 31, 32, 8, 33, 4, 1, 34, 35, 36, 37, 38, 39, 40, 41, 42, 43, 44, 45, 46, 47, 48, 49, 50, 51, 52] (by decide +kernel) (by decide +kernel)
set_option maxRecDepth 20000 in
theorem gX6_valueOf_X6_greatest : GoodIn wsX6_valueOf (wsV RX6 142 RX6 yX6_greatest wsX6_greatest) := goodIn_app (goodIn_of _ (by decide +kernel)) ggX6_valueOf_X6_greatest
set_option maxRecDepth 20000 in
theorem ggX6_valueOf_X6_heaviest : GoodIn wsX6_valueOf wsX6_heaviest := goodIn_r _ [33, 4, 1, 25, 34, 35, 36, 37, 38, 39, 40, 41, 42, 43, 44, 45, 46, 47, 48, 49, 50, 51, 52] (by decide +kernel) (by decide +kernel)
set_option maxRecDepth 20000 in
theorem gX6_valueOf_X6_heaviest : GoodIn wsX6_valueOf (wsV RX6 97 RX6 yX6_heaviest wsX6_heaviest) := goodIn_app (goodIn_of _ (by decide +kernel)) ggX6_valueOf_X6_heaviest
theorem dX6_valueOf_0 : decode cX6_valueOf 0 = .ok (.iload_n 1, 1) := by decide +kernel
theorem dX6_valueOf_1 : decode cX6_valueOf 1 = .ok (.tableswitch 106 3 9 #[43, 51, 70, 78, 91, 96, 101], 43) := by decide +kernel
theorem dX6_valueOf_44 : decode cX6_valueOf 44 = .ok (.aload_n 0, 1) := by decide +kernel
theorem dX6_valueOf_45 : decode cX6_valueOf 45 = .ok (.invokevirtual 71, 3) := by decide +kernel
theorem dX6_valueOf_48 : decode cX6_valueOf 48 = .ok (.invokestatic 148, 3) := by decide +kernel
theorem dX6_valueOf_51 : decode cX6_valueOf 51 = .ok (.ireturn, 1) := by decide +kernel
theorem dX6_valueOf_52 : decode cX6_valueOf 52 = .ok (.aload_n 0, 1) := by decide +kernel
theorem dX6_valueOf_53 : decode cX6_valueOf 53 = .ok (.getfield 78, 3) := by decide +kernel
theorem dX6_valueOf_56 : decode cX6_valueOf 56 = .ok (.ifCond .eq 13, 3) := by decide +kernel
theorem dX6_valueOf_59 : decode cX6_valueOf 59 = .ok (.aload_n 0, 1) := by decide +kernel
theorem dX6_valueOf_60 : decode cX6_valueOf 60 = .ok (.getfield 48, 3) := by decide +kernel
theorem dX6_valueOf_63 : decode cX6_valueOf 63 = .ok (.invokestatic 148, 3) := by decide +kernel
theorem dX6_valueOf_66 : decode cX6_valueOf 66 = .ok (.goto 4, 3) := by decide +kernel
theorem dX6_valueOf_69 : decode cX6_valueOf 69 = .ok (.iconst 0, 1) := by decide +kernel
theorem dX6_valueOf_70 : decode cX6_valueOf 70 = .ok (.ireturn, 1) := by decide +kernel
theorem dX6_valueOf_71 : decode cX6_valueOf 71 = .ok (.aload_n 0, 1) := by decide +kernel
theorem dX6_valueOf_72 : decode cX6_valueOf 72 = .ok (.invokevirtual 136, 3) := by decide +kernel
theorem dX6_valueOf_75 : decode cX6_valueOf 75 = .ok (.invokestatic 148, 3) := by decide +kernel
theorem dX6_valueOf_78 : decode cX6_valueOf 78 = .ok (.ireturn, 1) := by decide +kernel
theorem dX6_valueOf_79 : decode cX6_valueOf 79 = .ok (.aload_n 0, 1) := by decide +kernel
theorem dX6_valueOf_80 : decode cX6_valueOf 80 = .ok (.getfield 78, 3) := by decide +kernel
theorem dX6_valueOf_83 : decode cX6_valueOf 83 = .ok (.ifCond .eq 7, 3) := by decide +kernel
theorem dX6_valueOf_86 : decode cX6_valueOf 86 = .ok (.iconst 1, 1) := by decide +kernel
theorem dX6_valueOf_87 : decode cX6_valueOf 87 = .ok (.goto 4, 3) := by decide +kernel
theorem dX6_valueOf_90 : decode cX6_valueOf 90 = .ok (.iconst 0, 1) := by decide +kernel
theorem dX6_valueOf_91 : decode cX6_valueOf 91 = .ok (.ireturn, 1) := by decide +kernel
theorem dX6_valueOf_92 : decode cX6_valueOf 92 = .ok (.aload_n 0, 1) := by decide +kernel
theorem dX6_valueOf_93 : decode cX6_valueOf 93 = .ok (.getfield 75, 3) := by decide +kernel
theorem dX6_valueOf_96 : decode cX6_valueOf 96 = .ok (.ireturn, 1) := by decide +kernel
theorem dX6_valueOf_97 : decode cX6_valueOf 97 = .ok (.aload_n 0, 1) := by decide +kernel
theorem dX6_valueOf_98 : decode cX6_valueOf 98 = .ok (.invokevirtual 142, 3) := by decide +kernel
theorem dX6_valueOf_101 : decode cX6_valueOf 101 = .ok (.ireturn, 1) := by decide +kernel
theorem dX6_valueOf_102 : decode cX6_valueOf 102 = .ok (.aload_n 0, 1) := by decide +kernel
theorem dX6_valueOf_103 : decode cX6_valueOf 103 = .ok (.invokevirtual 97, 3) := by decide +kernel
theorem dX6_valueOf_106 : decode cX6_valueOf 106 = .ok (.ireturn, 1) := by decide +kernel
theorem dX6_valueOf_107 : decode cX6_valueOf 107 = .ok (.aload_n 0, 1) := by decide +kernel
theorem dX6_valueOf_108 : decode cX6_valueOf 108 = .ok (.getfield 7, 3) := by decide +kernel
theorem dX6_valueOf_111 : decode cX6_valueOf 111 = .ok (.iload_n 1, 1) := by decide +kernel
theorem dX6_valueOf_112 : decode cX6_valueOf 112 = .ok (.iaload, 1) := by decide +kernel
theorem dX6_valueOf_113 : decode cX6_valueOf 113 = .ok (.ireturn, 1) := by decide +kernel
set_option maxRecDepth 20000 in
theorem ggX6_value_X6_in : GoodIn wsX6_value wsX6_in := goodIn_r _ [5] (by decide +kernel) (by decide +kernel)
set_option maxRecDepth 20000 in
theorem gX6_value_X6_in : GoodIn wsX6_value (va_wsS RX6 40 yX6_in wsX6_in) := goodIn_app (goodIn_of _ (by decide +kernel)) ggX6_value_X6_in
set_option maxRecDepth 20000 in
theorem ggX6_value_X6_settle : GoodIn wsX6_value wsX6_settle := goodIn_r _ [9, 10, 11, 12, 13, 14, 15, 16, 4, 17, 18, 19, 20, 21, 22, 23, 24, 25, 26, 27, 28, 29, 30, 31, 32, 33, 34, 35, 36, 37, 38, 39, 40, 41, 42, 43, 44, 45, 46, 70, 71, 72, 73, 74, 75, 76, 77, 78, 79, 80, 81, 82, 83, 84, 85, 86, 87, 88] (by decide +kernel) (by decide +kernel)
set_option maxRecDepth 20000 in
theorem gX6_value_X6_settle : GoodIn wsX6_value (wsV RX6 133 RX6 yX6_settle wsX6_settle) := goodIn_app (goodIn_of _ (by decide +kernel)) ggX6_value_X6_settle
set_option maxRecDepth 20000 in
theorem ggX6_value_X6_valueOf : GoodIn wsX6_value wsX6_valueOf := goodIn_r _ [50, 12, 10, 11, 18, 14, 15, 16, 4, 17, 19, 20, 21, 22, 51, 52, 53, 54, 55, 56, 57, 58, 59, 60, 61, 13, 62, 63, 64, 65, 66, 67, 68, 69, 70, 71, 72, 73, 74, 75, 76, 77, 78, 79, 80, 81, 82, 83, 84, 85, 86, 87, 88] (by decide +kernel) (by decide +kernel)
set_option maxRecDepth 20000 in
theorem gX6_value_X6_valueOf : GoodIn wsX6_value (wsV RX6 166 RX6 yX6_valueOf wsX6_valueOf) := goodIn_app (goodIn_of _ (by decide +kernel)) ggX6_value_X6_valueOf
theorem dX6_value_0 : decode cX6_value 0 = .ok (.aload_n 0, 1) := by decide +kernel
theorem dX6_value_1 : decode cX6_value 1 = .ok (.iload_n 1, 1) := by decide +kernel
theorem dX6_value_2 : decode cX6_value 2 = .ok (.iconst 0, 1) := by decide +kernel
theorem dX6_value_3 : decode cX6_value 3 = .ok (.bipush 9, 2) := by decide +kernel
theorem dX6_value_5 : decode cX6_value 5 = .ok (.invokestatic 40, 3) := by decide +kernel
theorem dX6_value_8 : decode cX6_value 8 = .ok (.ifCond .eq 7, 3) := by decide +kernel
theorem dX6_value_11 : decode cX6_value 11 = .ok (.iconst 0, 1) := by decide +kernel
theorem dX6_value_12 : decode cX6_value 12 = .ok (.goto 4, 3) := by decide +kernel
theorem dX6_value_15 : decode cX6_value 15 = .ok (.iconst 1, 1) := by decide +kernel
theorem dX6_value_16 : decode cX6_value 16 = .ok (.putfield 29, 3) := by decide +kernel
theorem dX6_value_19 : decode cX6_value 19 = .ok (.aload_n 0, 1) := by decide +kernel
theorem dX6_value_20 : decode cX6_value 20 = .ok (.getfield 29, 3) := by decide +kernel
theorem dX6_value_23 : decode cX6_value 23 = .ok (.ifCond .eq 5, 3) := by decide +kernel
theorem dX6_value_26 : decode cX6_value 26 = .ok (.iconst 0, 1) := by decide +kernel
theorem dX6_value_27 : decode cX6_value 27 = .ok (.ireturn, 1) := by decide +kernel
theorem dX6_value_28 : decode cX6_value 28 = .ok (.aload_n 0, 1) := by decide +kernel
theorem dX6_value_29 : decode cX6_value 29 = .ok (.invokevirtual 133, 3) := by decide +kernel
theorem dX6_value_32 : decode cX6_value 32 = .ok (.aload_n 0, 1) := by decide +kernel
theorem dX6_value_33 : decode cX6_value 33 = .ok (.iload_n 1, 1) := by decide +kernel
theorem dX6_value_34 : decode cX6_value 34 = .ok (.invokevirtual 166, 3) := by decide +kernel
theorem dX6_value_37 : decode cX6_value 37 = .ok (.ireturn, 1) := by decide +kernel
theorem dX6_balanceOf_0 : decode cX6_balanceOf 0 = .ok (.aload_n 0, 1) := by decide +kernel
theorem dX6_balanceOf_1 : decode cX6_balanceOf 1 = .ok (.getfield 78, 3) := by decide +kernel
theorem dX6_balanceOf_4 : decode cX6_balanceOf 4 = .ok (.ifCond .ne 7, 3) := by decide +kernel
theorem dX6_balanceOf_7 : decode cX6_balanceOf 7 = .ok (.lconst 0, 1) := by decide +kernel
theorem dX6_balanceOf_8 : decode cX6_balanceOf 8 = .ok (.goto 30, 3) := by decide +kernel
theorem dX6_balanceOf_11 : decode cX6_balanceOf 11 = .ok (.iload_n 1, 1) := by decide +kernel
theorem dX6_balanceOf_12 : decode cX6_balanceOf 12 = .ok (.ifCond .ne 10, 3) := by decide +kernel
theorem dX6_balanceOf_15 : decode cX6_balanceOf 15 = .ok (.aload_n 0, 1) := by decide +kernel
theorem dX6_balanceOf_16 : decode cX6_balanceOf 16 = .ok (.getfield 59, 3) := by decide +kernel
theorem dX6_balanceOf_19 : decode cX6_balanceOf 19 = .ok (.goto 19, 3) := by decide +kernel
theorem dX6_balanceOf_22 : decode cX6_balanceOf 22 = .ok (.iload_n 1, 1) := by decide +kernel
theorem dX6_balanceOf_23 : decode cX6_balanceOf 23 = .ok (.iconst 1, 1) := by decide +kernel
theorem dX6_balanceOf_24 : decode cX6_balanceOf 24 = .ok (.if_icmp .ne 10, 3) := by decide +kernel
theorem dX6_balanceOf_27 : decode cX6_balanceOf 27 = .ok (.aload_n 0, 1) := by decide +kernel
theorem dX6_balanceOf_28 : decode cX6_balanceOf 28 = .ok (.getfield 62, 3) := by decide +kernel
theorem dX6_balanceOf_31 : decode cX6_balanceOf 31 = .ok (.goto 7, 3) := by decide +kernel
theorem dX6_balanceOf_34 : decode cX6_balanceOf 34 = .ok (.aload_n 0, 1) := by decide +kernel
theorem dX6_balanceOf_35 : decode cX6_balanceOf 35 = .ok (.getfield 55, 3) := by decide +kernel
theorem dX6_balanceOf_38 : decode cX6_balanceOf 38 = .ok (.lreturn, 1) := by decide +kernel
set_option maxRecDepth 20000 in
theorem ggX6_balance_X6_in : GoodIn wsX6_balance wsX6_in := goodIn_r _ [5] (by decide +kernel) (by decide +kernel)
set_option maxRecDepth 20000 in
theorem gX6_balance_X6_in : GoodIn wsX6_balance (va_wsS RX6 40 yX6_in wsX6_in) := goodIn_app (goodIn_of _ (by decide +kernel)) ggX6_balance_X6_in
set_option maxRecDepth 20000 in
theorem ggX6_balance_X6_settle : GoodIn wsX6_balance wsX6_settle := goodIn_r _ [9, 10, 11, 12, 13, 14, 15, 16, 4, 17, 18, 19, 20, 21, 22, 23, 24, 25, 26, 27, 28, 29, 30, 31, 32, 33, 34, 35, 36, 37, 38, 39, 40, 41, 42, 43, 44, 45, 46, 51, 52, 53, 54, 55, 56, 57, 58, 59, 60, 61, 62, 63, 64, 65, 66, 67, 68, 69] (by decide +kernel) (by decide +kernel)
set_option maxRecDepth 20000 in
theorem gX6_balance_X6_settle : GoodIn wsX6_balance (wsV RX6 133 RX6 yX6_settle wsX6_settle) := goodIn_app (goodIn_of _ (by decide +kernel)) ggX6_balance_X6_settle
set_option maxRecDepth 20000 in
theorem ggX6_balance_X6_balanceOf : GoodIn wsX6_balance wsX6_balanceOf := goodIn_r _ [50, 12, 28, 29, 27, 51, 52, 53, 54, 55, 56, 57, 58, 59, 60, 61, 62, 63, 64, 65, 66, 67, 68, 69] (by decide +kernel) (by decide +kernel)
set_option maxRecDepth 20000 in
theorem gX6_balance_X6_balanceOf : GoodIn wsX6_balance (wsV RX6 169 RX6 yX6_balanceOf wsX6_balanceOf) := goodIn_app (goodIn_of _ (by decide +kernel)) ggX6_balance_X6_balanceOf
theorem dX6_balance_0 : decode cX6_balance 0 = .ok (.aload_n 0, 1) := by decide +kernel
theorem dX6_balance_1 : decode cX6_balance 1 = .ok (.iload_n 1, 1) := by decide +kernel
theorem dX6_balance_2 : decode cX6_balance 2 = .ok (.iconst 0, 1) := by decide +kernel
theorem dX6_balance_3 : decode cX6_balance 3 = .ok (.iconst 2, 1) := by decide +kernel
theorem dX6_balance_4 : decode cX6_balance 4 = .ok (.invokestatic 40, 3) := by decide +kernel
theorem dX6_balance_7 : decode cX6_balance 7 = .ok (.ifCond .eq 7, 3) := by decide +kernel
theorem dX6_balance_10 : decode cX6_balance 10 = .ok (.iconst 0, 1) := by decide +kernel
theorem dX6_balance_11 : decode cX6_balance 11 = .ok (.goto 4, 3) := by decide +kernel
theorem dX6_balance_14 : decode cX6_balance 14 = .ok (.iconst 1, 1) := by decide +kernel
theorem dX6_balance_15 : decode cX6_balance 15 = .ok (.putfield 29, 3) := by decide +kernel
theorem dX6_balance_18 : decode cX6_balance 18 = .ok (.aload_n 0, 1) := by decide +kernel
theorem dX6_balance_19 : decode cX6_balance 19 = .ok (.getfield 29, 3) := by decide +kernel
theorem dX6_balance_22 : decode cX6_balance 22 = .ok (.ifCond .eq 5, 3) := by decide +kernel
theorem dX6_balance_25 : decode cX6_balance 25 = .ok (.lconst 0, 1) := by decide +kernel
theorem dX6_balance_26 : decode cX6_balance 26 = .ok (.lreturn, 1) := by decide +kernel
theorem dX6_balance_27 : decode cX6_balance 27 = .ok (.aload_n 0, 1) := by decide +kernel
theorem dX6_balance_28 : decode cX6_balance 28 = .ok (.invokevirtual 133, 3) := by decide +kernel
theorem dX6_balance_31 : decode cX6_balance 31 = .ok (.aload_n 0, 1) := by decide +kernel
theorem dX6_balance_32 : decode cX6_balance 32 = .ok (.iload_n 1, 1) := by decide +kernel
theorem dX6_balance_33 : decode cX6_balance 33 = .ok (.invokevirtual 169, 3) := by decide +kernel
theorem dX6_balance_36 : decode cX6_balance 36 = .ok (.lreturn, 1) := by decide +kernel
set_option maxRecDepth 20000 in
theorem ggX6_tilt_X6_settle : GoodIn wsX6_tilt wsX6_settle := goodIn_r _ [9, 10, 11, 2, 12, 13, 14, 15, 8, 16, 17, 18, 19, 20, 21, 22, 23, 24, 25, 4, 26, 3, 27, 28, 29, 30, 31, 32, 33, 34, 35, 36, 37, 38, 39, 40, 41, 42, 43, 44, 45, 46, 47, 48, 49, 50, 51, 52, 53, 54, 55, 56, 57, 58, 59, 60, 61, 62] (by decide +kernel) (by decide +kernel)
set_option maxRecDepth 20000 in
theorem gX6_tilt_X6_settle : GoodIn wsX6_tilt (wsV RX6 133 RX6 yX6_settle wsX6_settle) := goodIn_app (goodIn_of _ (by decide +kernel)) ggX6_tilt_X6_settle
theorem dX6_tilt_0 : decode cX6_tilt 0 = .ok (.aload_n 0, 1) := by decide +kernel
theorem dX6_tilt_1 : decode cX6_tilt 1 = .ok (.iconst 0, 1) := by decide +kernel
theorem dX6_tilt_2 : decode cX6_tilt 2 = .ok (.putfield 29, 3) := by decide +kernel
theorem dX6_tilt_5 : decode cX6_tilt 5 = .ok (.aload_n 0, 1) := by decide +kernel
theorem dX6_tilt_6 : decode cX6_tilt 6 = .ok (.invokevirtual 133, 3) := by decide +kernel
theorem dX6_tilt_9 : decode cX6_tilt 9 = .ok (.aload_n 0, 1) := by decide +kernel
theorem dX6_tilt_10 : decode cX6_tilt 10 = .ok (.getfield 78, 3) := by decide +kernel
theorem dX6_tilt_13 : decode cX6_tilt 13 = .ok (.ifCond .eq 17, 3) := by decide +kernel
theorem dX6_tilt_16 : decode cX6_tilt 16 = .ok (.aload_n 0, 1) := by decide +kernel
theorem dX6_tilt_17 : decode cX6_tilt 17 = .ok (.getfield 62, 3) := by decide +kernel
theorem dX6_tilt_20 : decode cX6_tilt 20 = .ok (.l2d, 1) := by decide +kernel
theorem dX6_tilt_21 : decode cX6_tilt 21 = .ok (.aload_n 0, 1) := by decide +kernel
theorem dX6_tilt_22 : decode cX6_tilt 22 = .ok (.getfield 55, 3) := by decide +kernel
theorem dX6_tilt_25 : decode cX6_tilt 25 = .ok (.l2d, 1) := by decide +kernel
theorem dX6_tilt_26 : decode cX6_tilt 26 = .ok (.ddiv, 1) := by decide +kernel
theorem dX6_tilt_27 : decode cX6_tilt 27 = .ok (.goto 4, 3) := by decide +kernel
theorem dX6_tilt_30 : decode cX6_tilt 30 = .ok (.dconst 0, 1) := by decide +kernel
theorem dX6_tilt_31 : decode cX6_tilt 31 = .ok (.dreturn, 1) := by decide +kernel
set_option maxRecDepth 20000 in
theorem ggX6_loadWithout_X6_isBlock : GoodIn wsX6_loadWithout wsX6_isBlock := goodIn_r _ [8, 9, 10, 11, 7, 12, 55, 56, 57, 58, 59, 60, 61, 62, 63, 64, 65, 66, 67, 68, 69, 70, 71, 72, 73] (by decide +kernel) (by decide +kernel)
set_option maxRecDepth 20000 in
theorem gX6_loadWithout_X6_isBlock : GoodIn wsX6_loadWithout (wsV RX6 122 RX6 yX6_isBlock wsX6_isBlock) := goodIn_app (goodIn_of _ (by decide +kernel)) ggX6_loadWithout_X6_isBlock
set_option maxRecDepth 20000 in
theorem ggX6_loadWithout_X6_of : GoodIn wsX6_loadWithout wsX6_of := goodIn_r _ [16, 9, 55, 56, 57, 58, 59, 60, 61, 62, 63, 64, 65, 66, 67, 68, 69, 70, 71, 72, 73] (by decide +kernel) (by decide +kernel)
set_option maxRecDepth 20000 in
theorem gX6_loadWithout_X6_of : GoodIn wsX6_loadWithout (wsV RX6 44 RX6 yX6_of wsX6_of) := goodIn_app (goodIn_of _ (by decide +kernel)) ggX6_loadWithout_X6_of
set_option maxRecDepth 20000 in
theorem ggX6_loadWithout_X6_lay : GoodIn wsX6_loadWithout wsX6_lay := goodIn_r _ [20, 9, 55, 56, 57, 58, 59, 60, 61, 62, 63, 64, 65, 66, 67, 68, 69, 70, 71, 72, 73] (by decide +kernel) (by decide +kernel)
set_option maxRecDepth 20000 in
theorem gX6_loadWithout_X6_lay : GoodIn wsX6_loadWithout (wsV RX6 107 RX6 yX6_lay wsX6_lay) := goodIn_app (goodIn_of _ (by decide +kernel)) ggX6_loadWithout_X6_lay
set_option maxRecDepth 20000 in
theorem ggX6_loadWithout_X6_settle : GoodIn wsX6_loadWithout wsX6_settle := goodIn_r _ [24, 25, 26, 2, 3, 27, 28, 29, 7, 30, 9, 13, 14, 15, 16, 31, 32, 33, 34, 35, 36, 37, 38, 39, 40, 41, 42, 43, 44, 45, 46, 47, 48, 49, 50, 51, 52, 53, 54, 55, 56, 57, 58, 59, 60, 61, 62, 63, 64, 65, 66, 67, 68, 69, 70, 71, 72, 73] (by decide +kernel) (by decide +kernel)
set_option maxRecDepth 20000 in
theorem gX6_loadWithout_X6_settle : GoodIn wsX6_loadWithout (wsV RX6 133 RX6 yX6_settle wsX6_settle) := goodIn_app (goodIn_of _ (by decide +kernel)) ggX6_loadWithout_X6_settle
