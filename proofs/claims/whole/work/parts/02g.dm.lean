theorem dX6_loadWithout_0 : decode cX6_loadWithout 0 = .ok (.aload_n 0, 1) := by decide +kernel
theorem dX6_loadWithout_1 : decode cX6_loadWithout 1 = .ok (.aload_n 0, 1) := by decide +kernel
theorem dX6_loadWithout_2 : decode cX6_loadWithout 2 = .ok (.iload_n 1, 1) := by decide +kernel
theorem dX6_loadWithout_3 : decode cX6_loadWithout 3 = .ok (.invokevirtual 122, 3) := by decide +kernel
theorem dX6_loadWithout_6 : decode cX6_loadWithout 6 = .ok (.ifCond .eq 15, 3) := by decide +kernel
theorem dX6_loadWithout_9 : decode cX6_loadWithout 9 = .ok (.aload_n 0, 1) := by decide +kernel
theorem dX6_loadWithout_10 : decode cX6_loadWithout 10 = .ok (.iload_n 2, 1) := by decide +kernel
theorem dX6_loadWithout_11 : decode cX6_loadWithout 11 = .ok (.invokevirtual 122, 3) := by decide +kernel
theorem dX6_loadWithout_14 : decode cX6_loadWithout 14 = .ok (.ifCond .eq 7, 3) := by decide +kernel
theorem dX6_loadWithout_17 : decode cX6_loadWithout 17 = .ok (.iconst 0, 1) := by decide +kernel
theorem dX6_loadWithout_18 : decode cX6_loadWithout 18 = .ok (.goto 4, 3) := by decide +kernel
theorem dX6_loadWithout_21 : decode cX6_loadWithout 21 = .ok (.iconst 1, 1) := by decide +kernel
theorem dX6_loadWithout_22 : decode cX6_loadWithout 22 = .ok (.putfield 29, 3) := by decide +kernel
theorem dX6_loadWithout_25 : decode cX6_loadWithout 25 = .ok (.aload_n 0, 1) := by decide +kernel
theorem dX6_loadWithout_26 : decode cX6_loadWithout 26 = .ok (.getfield 29, 3) := by decide +kernel
theorem dX6_loadWithout_29 : decode cX6_loadWithout 29 = .ok (.ifCond .eq 5, 3) := by decide +kernel
theorem dX6_loadWithout_32 : decode cX6_loadWithout 32 = .ok (.iconst 0, 1) := by decide +kernel
theorem dX6_loadWithout_33 : decode cX6_loadWithout 33 = .ok (.ireturn, 1) := by decide +kernel
theorem dX6_loadWithout_34 : decode cX6_loadWithout 34 = .ok (.aload_n 0, 1) := by decide +kernel
theorem dX6_loadWithout_35 : decode cX6_loadWithout 35 = .ok (.iload_n 2, 1) := by decide +kernel
theorem dX6_loadWithout_36 : decode cX6_loadWithout 36 = .ok (.iconst 4, 1) := by decide +kernel
theorem dX6_loadWithout_37 : decode cX6_loadWithout 37 = .ok (.invokevirtual 44, 3) := by decide +kernel
theorem dX6_loadWithout_40 : decode cX6_loadWithout 40 = .ok (.istore_n 3, 1) := by decide +kernel
theorem dX6_loadWithout_41 : decode cX6_loadWithout 41 = .ok (.aload_n 0, 1) := by decide +kernel
theorem dX6_loadWithout_42 : decode cX6_loadWithout 42 = .ok (.iload_n 2, 1) := by decide +kernel
theorem dX6_loadWithout_43 : decode cX6_loadWithout 43 = .ok (.iconst 4, 1) := by decide +kernel
theorem dX6_loadWithout_44 : decode cX6_loadWithout 44 = .ok (.iconst 1, 1) := by decide +kernel
theorem dX6_loadWithout_45 : decode cX6_loadWithout 45 = .ok (.invokevirtual 107, 3) := by decide +kernel
theorem dX6_loadWithout_48 : decode cX6_loadWithout 48 = .ok (.aload_n 0, 1) := by decide +kernel
theorem dX6_loadWithout_49 : decode cX6_loadWithout 49 = .ok (.invokevirtual 133, 3) := by decide +kernel
theorem dX6_loadWithout_52 : decode cX6_loadWithout 52 = .ok (.aload_n 0, 1) := by decide +kernel
theorem dX6_loadWithout_53 : decode cX6_loadWithout 53 = .ok (.iload_n 2, 1) := by decide +kernel
theorem dX6_loadWithout_54 : decode cX6_loadWithout 54 = .ok (.iconst 4, 1) := by decide +kernel
theorem dX6_loadWithout_55 : decode cX6_loadWithout 55 = .ok (.iload_n 3, 1) := by decide +kernel
theorem dX6_loadWithout_56 : decode cX6_loadWithout 56 = .ok (.invokevirtual 107, 3) := by decide +kernel
theorem dX6_loadWithout_59 : decode cX6_loadWithout 59 = .ok (.aload_n 0, 1) := by decide +kernel
theorem dX6_loadWithout_60 : decode cX6_loadWithout 60 = .ok (.getfield 78, 3) := by decide +kernel
theorem dX6_loadWithout_63 : decode cX6_loadWithout 63 = .ok (.ifCond .eq 12, 3) := by decide +kernel
theorem dX6_loadWithout_66 : decode cX6_loadWithout 66 = .ok (.aload_n 0, 1) := by decide +kernel
theorem dX6_loadWithout_67 : decode cX6_loadWithout 67 = .ok (.getfield 22, 3) := by decide +kernel
theorem dX6_loadWithout_70 : decode cX6_loadWithout 70 = .ok (.iload_n 1, 1) := by decide +kernel
theorem dX6_loadWithout_71 : decode cX6_loadWithout 71 = .ok (.iaload, 1) := by decide +kernel
theorem dX6_loadWithout_72 : decode cX6_loadWithout 72 = .ok (.goto 4, 3) := by decide +kernel
theorem dX6_loadWithout_75 : decode cX6_loadWithout 75 = .ok (.iconst (-1), 1) := by decide +kernel
theorem dX6_loadWithout_76 : decode cX6_loadWithout 76 = .ok (.ireturn, 1) := by decide +kernel
set_option maxRecDepth 20000 in
theorem ggX6_pullable_X6_canPull : GoodIn wsX6_pullable wsX6_canPull := goodIn_r _ [7, 8, 9, 10, 11, 6, 12, 2, 13, 14, 15, 16, 17, 18, 19, 20, 21, 22, 23, 24, 25, 26, 27, 28, 29, 30, 31, 32, 33, 34, 35, 36, 37, 38, 39, 40, 41, 42, 43, 44, 45, 46, 47, 48, 49, 50, 51, 52, 53, 54, 55, 56, 57, 58, 59, 60, 61, 62, 63, 64, 65, 66, 67, 68, 69, 70, 71, 72, 73, 74, 75, 76, 77, 78] (by decide +kernel) (by decide +kernel)
set_option maxRecDepth 20000 in
theorem gX6_pullable_X6_canPull : GoodIn wsX6_pullable (wsV RX6 139 RX6 yX6_canPull wsX6_canPull) := goodIn_app (goodIn_of _ (by decide +kernel)) ggX6_pullable_X6_canPull
theorem dX6_pullable_0 : decode cX6_pullable 0 = .ok (.aload_n 0, 1) := by decide +kernel
theorem dX6_pullable_1 : decode cX6_pullable 1 = .ok (.iconst 0, 1) := by decide +kernel
theorem dX6_pullable_2 : decode cX6_pullable 2 = .ok (.putfield 29, 3) := by decide +kernel
theorem dX6_pullable_5 : decode cX6_pullable 5 = .ok (.iconst 0, 1) := by decide +kernel
theorem dX6_pullable_6 : decode cX6_pullable 6 = .ok (.istore_n 1, 1) := by decide +kernel
theorem dX6_pullable_7 : decode cX6_pullable 7 = .ok (.iconst 0, 1) := by decide +kernel
theorem dX6_pullable_8 : decode cX6_pullable 8 = .ok (.istore_n 2, 1) := by decide +kernel
theorem dX6_pullable_9 : decode cX6_pullable 9 = .ok (.iload_n 2, 1) := by decide +kernel
theorem dX6_pullable_10 : decode cX6_pullable 10 = .ok (.aload_n 0, 1) := by decide +kernel
theorem dX6_pullable_11 : decode cX6_pullable 11 = .ok (.getfield 7, 3) := by decide +kernel
theorem dX6_pullable_14 : decode cX6_pullable 14 = .ok (.iconst 2, 1) := by decide +kernel
theorem dX6_pullable_15 : decode cX6_pullable 15 = .ok (.iaload, 1) := by decide +kernel
theorem dX6_pullable_16 : decode cX6_pullable 16 = .ok (.if_icmp .ge 25, 3) := by decide +kernel
theorem dX6_pullable_19 : decode cX6_pullable 19 = .ok (.iload_n 1, 1) := by decide +kernel
theorem dX6_pullable_20 : decode cX6_pullable 20 = .ok (.aload_n 0, 1) := by decide +kernel
theorem dX6_pullable_21 : decode cX6_pullable 21 = .ok (.iload_n 2, 1) := by decide +kernel
theorem dX6_pullable_22 : decode cX6_pullable 22 = .ok (.invokevirtual 139, 3) := by decide +kernel
theorem dX6_pullable_25 : decode cX6_pullable 25 = .ok (.ifCond .eq 7, 3) := by decide +kernel
theorem dX6_pullable_28 : decode cX6_pullable 28 = .ok (.iconst 1, 1) := by decide +kernel
theorem dX6_pullable_29 : decode cX6_pullable 29 = .ok (.goto 4, 3) := by decide +kernel
theorem dX6_pullable_32 : decode cX6_pullable 32 = .ok (.iconst 0, 1) := by decide +kernel
theorem dX6_pullable_33 : decode cX6_pullable 33 = .ok (.iadd, 1) := by decide +kernel
theorem dX6_pullable_34 : decode cX6_pullable 34 = .ok (.istore_n 1, 1) := by decide +kernel
theorem dX6_pullable_35 : decode cX6_pullable 35 = .ok (.iinc 2 1, 3) := by decide +kernel
theorem dX6_pullable_38 : decode cX6_pullable 38 = .ok (.goto (-29), 3) := by decide +kernel
theorem dX6_pullable_41 : decode cX6_pullable 41 = .ok (.iload_n 1, 1) := by decide +kernel
theorem dX6_pullable_42 : decode cX6_pullable 42 = .ok (.ireturn, 1) := by decide +kernel
set_option maxRecDepth 20000 in
theorem ggX6_fallSteps_X6_bring : GoodIn wsX6_fallSteps wsX6_bring := goodIn_r _ [6] (by decide +kernel) (by decide +kernel)
set_option maxRecDepth 20000 in
theorem gX6_fallSteps_X6_bring : GoodIn wsX6_fallSteps (va_wsS RX6 36 yX6_bring wsX6_bring) := goodIn_app (goodIn_of _ (by decide +kernel)) ggX6_fallSteps_X6_bring
set_option maxRecDepth 20000 in
theorem ggX6_fallSteps_X6_fall : GoodIn wsX6_fallSteps wsX6_fall := goodIn_r _ [10, 11, 1, 12, 13, 14, 5, 15, 16, 17, 18, 19, 20, 21, 22, 23, 24, 25, 26, 27, 28, 29, 30, 31, 32, 33, 34, 35, 36, 37, 38, 39, 40, 41, 42, 43, 44, 45, 46, 47, 48, 49, 50, 51, 52, 53, 54, 55, 56, 57, 58, 59, 60, 61, 62, 63, 64, 65, 66, 67, 68, 69, 70, 71, 72, 73, 74, 75, 76, 77, 78, 79, 80, 81, 82, 83, 84, 85] (by decide +kernel) (by decide +kernel)
set_option maxRecDepth 20000 in
theorem gX6_fallSteps_X6_fall : GoodIn wsX6_fallSteps (wsV RX6 151 RX6 yX6_fall wsX6_fall) := goodIn_app (goodIn_of _ (by decide +kernel)) ggX6_fallSteps_X6_fall
theorem dX6_fallSteps_0 : decode cX6_fallSteps 0 = .ok (.aload_n 0, 1) := by decide +kernel
theorem dX6_fallSteps_1 : decode cX6_fallSteps 1 = .ok (.getfield 7, 3) := by decide +kernel
theorem dX6_fallSteps_4 : decode cX6_fallSteps 4 = .ok (.iconst 0, 1) := by decide +kernel
theorem dX6_fallSteps_5 : decode cX6_fallSteps 5 = .ok (.aload_n 0, 1) := by decide +kernel
theorem dX6_fallSteps_6 : decode cX6_fallSteps 6 = .ok (.getfield 13, 3) := by decide +kernel
theorem dX6_fallSteps_9 : decode cX6_fallSteps 9 = .ok (.iconst 0, 1) := by decide +kernel
theorem dX6_fallSteps_10 : decode cX6_fallSteps 10 = .ok (.invokestatic 36, 3) := by decide +kernel
theorem dX6_fallSteps_13 : decode cX6_fallSteps 13 = .ok (.aload_n 0, 1) := by decide +kernel
theorem dX6_fallSteps_14 : decode cX6_fallSteps 14 = .ok (.invokevirtual 151, 3) := by decide +kernel
theorem dX6_fallSteps_17 : decode cX6_fallSteps 17 = .ok (.istore_n 1, 1) := by decide +kernel
theorem dX6_fallSteps_18 : decode cX6_fallSteps 18 = .ok (.aload_n 0, 1) := by decide +kernel
theorem dX6_fallSteps_19 : decode cX6_fallSteps 19 = .ok (.getfield 13, 3) := by decide +kernel
theorem dX6_fallSteps_22 : decode cX6_fallSteps 22 = .ok (.iconst 0, 1) := by decide +kernel
theorem dX6_fallSteps_23 : decode cX6_fallSteps 23 = .ok (.aload_n 0, 1) := by decide +kernel
theorem dX6_fallSteps_24 : decode cX6_fallSteps 24 = .ok (.getfield 7, 3) := by decide +kernel
theorem dX6_fallSteps_27 : decode cX6_fallSteps 27 = .ok (.iconst 0, 1) := by decide +kernel
theorem dX6_fallSteps_28 : decode cX6_fallSteps 28 = .ok (.invokestatic 36, 3) := by decide +kernel
theorem dX6_fallSteps_31 : decode cX6_fallSteps 31 = .ok (.iload_n 1, 1) := by decide +kernel
theorem dX6_fallSteps_32 : decode cX6_fallSteps 32 = .ok (.ireturn, 1) := by decide +kernel
set_option maxRecDepth 20000 in
theorem ggX6_cascadeSteps_X6_fallSteps : GoodIn wsX6_cascadeSteps wsX6_fallSteps := goodIn_r _ [6, 7, 8, 9, 10, 5, 11, 12, 13, 14, 15, 16, 17, 18, 19, 20, 21, 22, 23, 24, 25, 26, 27, 28, 29, 30, 31, 32, 33, 34, 35, 36, 37, 38, 39, 40, 41, 42, 43, 44, 45, 46, 47, 48, 49, 50, 51, 52, 53, 54, 55, 56, 57, 58, 59, 60, 61, 62, 63, 64, 65, 66, 67, 68, 69, 70, 71, 72, 73, 74, 75, 76, 77, 78, 79, 80, 81, 82, 83, 84, 85, 86, 87, 88, 89, 90] (by decide +kernel) (by decide +kernel)
set_option maxRecDepth 20000 in
theorem gX6_cascadeSteps_X6_fallSteps : GoodIn wsX6_cascadeSteps (wsV RX6 172 RX6 yX6_fallSteps wsX6_fallSteps) := goodIn_app (goodIn_of _ (by decide +kernel)) ggX6_cascadeSteps_X6_fallSteps
theorem dX6_cascadeSteps_0 : decode cX6_cascadeSteps 0 = .ok (.aload_n 0, 1) := by decide +kernel
theorem dX6_cascadeSteps_1 : decode cX6_cascadeSteps 1 = .ok (.iconst 0, 1) := by decide +kernel
theorem dX6_cascadeSteps_2 : decode cX6_cascadeSteps 2 = .ok (.putfield 29, 3) := by decide +kernel
theorem dX6_cascadeSteps_5 : decode cX6_cascadeSteps 5 = .ok (.aload_n 0, 1) := by decide +kernel
theorem dX6_cascadeSteps_6 : decode cX6_cascadeSteps 6 = .ok (.invokevirtual 172, 3) := by decide +kernel
theorem dX6_cascadeSteps_9 : decode cX6_cascadeSteps 9 = .ok (.ireturn, 1) := by decide +kernel
set_option maxRecDepth 20000 in
theorem ggX6_survives_X6_fallSteps : GoodIn wsX6_survives wsX6_fallSteps := goodIn_r _ [7, 8, 9, 10, 11, 6, 12, 13, 14, 15, 16, 17, 18, 19, 20, 21, 22, 23, 2, 24, 25, 26, 27, 28, 29, 30, 31, 32, 33, 34, 35, 36, 37, 38, 39, 40, 41, 42, 43, 44, 45, 46, 47, 48, 49, 50, 51, 52, 53, 54, 55, 56, 57, 58, 59, 60, 61, 62, 63, 64, 65, 66, 67, 68, 69, 70, 71, 72, 73, 74, 75, 76, 77, 78, 79, 80, 81, 82, 83, 84, 85, 86, 87, 88, 89, 90] (by decide +kernel) (by decide +kernel)
set_option maxRecDepth 20000 in
theorem gX6_survives_X6_fallSteps : GoodIn wsX6_survives (wsV RX6 172 RX6 yX6_fallSteps wsX6_fallSteps) := goodIn_app (goodIn_of _ (by decide +kernel)) ggX6_survives_X6_fallSteps
theorem dX6_survives_0 : decode cX6_survives 0 = .ok (.aload_n 0, 1) := by decide +kernel
theorem dX6_survives_1 : decode cX6_survives 1 = .ok (.iconst 0, 1) := by decide +kernel
theorem dX6_survives_2 : decode cX6_survives 2 = .ok (.putfield 29, 3) := by decide +kernel
theorem dX6_survives_5 : decode cX6_survives 5 = .ok (.aload_n 0, 1) := by decide +kernel
theorem dX6_survives_6 : decode cX6_survives 6 = .ok (.invokevirtual 172, 3) := by decide +kernel
theorem dX6_survives_9 : decode cX6_survives 9 = .ok (.istore_n 1, 1) := by decide +kernel
theorem dX6_survives_10 : decode cX6_survives 10 = .ok (.aload_n 0, 1) := by decide +kernel
theorem dX6_survives_11 : decode cX6_survives 11 = .ok (.getfield 78, 3) := by decide +kernel
theorem dX6_survives_14 : decode cX6_survives 14 = .ok (.ireturn, 1) := by decide +kernel
set_option maxRecDepth 20000 in
theorem ggX6_shavingSteps_X6_bring : GoodIn wsX6_shavingSteps wsX6_bring := goodIn_r _ [8] (by decide +kernel) (by decide +kernel)
set_option maxRecDepth 20000 in
theorem gX6_shavingSteps_X6_bring : GoodIn wsX6_shavingSteps (va_wsS RX6 36 yX6_bring wsX6_bring) := goodIn_app (goodIn_of _ (by decide +kernel)) ggX6_shavingSteps_X6_bring
set_option maxRecDepth 20000 in
theorem ggX6_shavingSteps_X6_shaves : GoodIn wsX6_shavingSteps wsX6_shaves := goodIn_r _ [12, 13, 14, 15, 7, 16, 17, 18, 4, 19, 20, 21, 22, 23, 2, 24, 25, 26, 27, 28, 29, 30, 31, 32, 33, 34, 35, 36, 37, 38, 39, 40, 41, 42, 43, 44, 45, 46, 47, 48, 49, 50, 51, 52, 53, 54, 55, 56, 57, 58, 59, 60, 61, 62, 63, 68, 69, 70, 71, 72, 73, 74, 75, 76, 77, 78, 79, 80, 81, 82, 83, 84, 85, 86] (by decide +kernel) (by decide +kernel)
set_option maxRecDepth 20000 in
theorem gX6_shavingSteps_X6_shaves : GoodIn wsX6_shavingSteps (wsV RX6 157 RX6 yX6_shaves wsX6_shaves) := goodIn_app (goodIn_of _ (by decide +kernel)) ggX6_shavingSteps_X6_shaves
set_option maxRecDepth 20000 in
theorem ggX6_shavingSteps_X6_overloaded : GoodIn wsX6_shavingSteps wsX6_overloaded := goodIn_r _ [67, 2, 56, 57, 58, 7, 59, 4, 19, 24, 25, 26, 27, 68, 69, 70, 71, 72, 73, 74, 75, 76, 77, 78, 79, 80, 81, 82, 83, 84, 85, 86] (by decide +kernel) (by decide +kernel)
set_option maxRecDepth 20000 in
theorem gX6_shavingSteps_X6_overloaded : GoodIn wsX6_shavingSteps (wsV RX6 136 RX6 yX6_overloaded wsX6_overloaded) := goodIn_app (goodIn_of _ (by decide +kernel)) ggX6_shavingSteps_X6_overloaded
theorem dX6_shavingSteps_0 : decode cX6_shavingSteps 0 = .ok (.aload_n 0, 1) := by decide +kernel
theorem dX6_shavingSteps_1 : decode cX6_shavingSteps 1 = .ok (.iconst 0, 1) := by decide +kernel
theorem dX6_shavingSteps_2 : decode cX6_shavingSteps 2 = .ok (.putfield 29, 3) := by decide +kernel
theorem dX6_shavingSteps_5 : decode cX6_shavingSteps 5 = .ok (.aload_n 0, 1) := by decide +kernel
theorem dX6_shavingSteps_6 : decode cX6_shavingSteps 6 = .ok (.getfield 7, 3) := by decide +kernel
theorem dX6_shavingSteps_9 : decode cX6_shavingSteps 9 = .ok (.iconst 0, 1) := by decide +kernel
theorem dX6_shavingSteps_10 : decode cX6_shavingSteps 10 = .ok (.aload_n 0, 1) := by decide +kernel
theorem dX6_shavingSteps_11 : decode cX6_shavingSteps 11 = .ok (.getfield 13, 3) := by decide +kernel
theorem dX6_shavingSteps_14 : decode cX6_shavingSteps 14 = .ok (.iconst 0, 1) := by decide +kernel
theorem dX6_shavingSteps_15 : decode cX6_shavingSteps 15 = .ok (.invokestatic 36, 3) := by decide +kernel
theorem dX6_shavingSteps_18 : decode cX6_shavingSteps 18 = .ok (.aload_n 0, 1) := by decide +kernel
theorem dX6_shavingSteps_19 : decode cX6_shavingSteps 19 = .ok (.invokevirtual 157, 3) := by decide +kernel
theorem dX6_shavingSteps_22 : decode cX6_shavingSteps 22 = .ok (.istore_n 1, 1) := by decide +kernel
theorem dX6_shavingSteps_23 : decode cX6_shavingSteps 23 = .ok (.aload_n 0, 1) := by decide +kernel
theorem dX6_shavingSteps_24 : decode cX6_shavingSteps 24 = .ok (.getfield 78, 3) := by decide +kernel
theorem dX6_shavingSteps_27 : decode cX6_shavingSteps 27 = .ok (.ifCond .eq 14, 3) := by decide +kernel
theorem dX6_shavingSteps_30 : decode cX6_shavingSteps 30 = .ok (.aload_n 0, 1) := by decide +kernel
theorem dX6_shavingSteps_31 : decode cX6_shavingSteps 31 = .ok (.invokevirtual 136, 3) := by decide +kernel
theorem dX6_shavingSteps_34 : decode cX6_shavingSteps 34 = .ok (.ifCond .ne 7, 3) := by decide +kernel
theorem dX6_shavingSteps_37 : decode cX6_shavingSteps 37 = .ok (.iconst 1, 1) := by decide +kernel
theorem dX6_shavingSteps_38 : decode cX6_shavingSteps 38 = .ok (.goto 4, 3) := by decide +kernel
theorem dX6_shavingSteps_41 : decode cX6_shavingSteps 41 = .ok (.iconst 0, 1) := by decide +kernel
theorem dX6_shavingSteps_42 : decode cX6_shavingSteps 42 = .ok (.istore_n 2, 1) := by decide +kernel
theorem dX6_shavingSteps_43 : decode cX6_shavingSteps 43 = .ok (.aload_n 0, 1) := by decide +kernel
theorem dX6_shavingSteps_44 : decode cX6_shavingSteps 44 = .ok (.getfield 13, 3) := by decide +kernel
theorem dX6_shavingSteps_47 : decode cX6_shavingSteps 47 = .ok (.iconst 0, 1) := by decide +kernel
theorem dX6_shavingSteps_48 : decode cX6_shavingSteps 48 = .ok (.aload_n 0, 1) := by decide +kernel
theorem dX6_shavingSteps_49 : decode cX6_shavingSteps 49 = .ok (.getfield 7, 3) := by decide +kernel
theorem dX6_shavingSteps_52 : decode cX6_shavingSteps 52 = .ok (.iconst 0, 1) := by decide +kernel
theorem dX6_shavingSteps_53 : decode cX6_shavingSteps 53 = .ok (.invokestatic 36, 3) := by decide +kernel
theorem dX6_shavingSteps_56 : decode cX6_shavingSteps 56 = .ok (.iload_n 2, 1) := by decide +kernel
theorem dX6_shavingSteps_57 : decode cX6_shavingSteps 57 = .ok (.ifCond .eq 7, 3) := by decide +kernel
theorem dX6_shavingSteps_60 : decode cX6_shavingSteps 60 = .ok (.iload_n 1, 1) := by decide +kernel
theorem dX6_shavingSteps_61 : decode cX6_shavingSteps 61 = .ok (.goto 8, 3) := by decide +kernel
theorem dX6_shavingSteps_64 : decode cX6_shavingSteps 64 = .ok (.sipush (-1000), 3) := by decide +kernel
theorem dX6_shavingSteps_67 : decode cX6_shavingSteps 67 = .ok (.iload_n 1, 1) := by decide +kernel
theorem dX6_shavingSteps_68 : decode cX6_shavingSteps 68 = .ok (.isub, 1) := by decide +kernel
theorem dX6_shavingSteps_69 : decode cX6_shavingSteps 69 = .ok (.ireturn, 1) := by decide +kernel
set_option maxRecDepth 20000 in
theorem ggX6_greatestWeight_X6_settle : GoodIn wsX6_greatestWeight wsX6_settle := goodIn_r _ [9, 10, 11, 4, 12, 13, 14, 15, 8, 16, 2, 17, 18, 19, 20, 21, 22, 23, 24, 25, 26, 27, 28, 29, 30, 31, 32, 33, 34, 35, 36, 37, 38, 39, 40, 41, 42, 43, 44, 53, 54, 55, 56, 57, 58, 59, 60, 61, 62, 63, 64, 65, 66, 67, 68, 69, 70, 71] (by decide +kernel) (by decide +kernel)
set_option maxRecDepth 20000 in
theorem gX6_greatestWeight_X6_settle : GoodIn wsX6_greatestWeight (wsV RX6 133 RX6 yX6_settle wsX6_settle) := goodIn_app (goodIn_of _ (by decide +kernel)) ggX6_greatestWeight_X6_settle
set_option maxRecDepth 20000 in
theorem ggX6_greatestWeight_X6_overloaded : GoodIn wsX6_greatestWeight wsX6_overloaded := goodIn_r _ [48, 2, 49, 50, 51, 8, 52, 4, 12, 17, 18, 19, 20, 53, 54, 55, 56, 57, 58, 59, 60, 61, 62, 63, 64, 65, 66, 67, 68, 69, 70, 71] (by decide +kernel) (by decide +kernel)
set_option maxRecDepth 20000 in
theorem gX6_greatestWeight_X6_overloaded : GoodIn wsX6_greatestWeight (wsV RX6 136 RX6 yX6_overloaded wsX6_overloaded) := goodIn_app (goodIn_of _ (by decide +kernel)) ggX6_greatestWeight_X6_overloaded
theorem dX6_greatestWeight_0 : decode cX6_greatestWeight 0 = .ok (.aload_n 0, 1) := by decide +kernel
theorem dX6_greatestWeight_1 : decode cX6_greatestWeight 1 = .ok (.iconst 0, 1) := by decide +kernel
theorem dX6_greatestWeight_2 : decode cX6_greatestWeight 2 = .ok (.putfield 29, 3) := by decide +kernel
theorem dX6_greatestWeight_5 : decode cX6_greatestWeight 5 = .ok (.aload_n 0, 1) := by decide +kernel
theorem dX6_greatestWeight_6 : decode cX6_greatestWeight 6 = .ok (.getfield 7, 3) := by decide +kernel
theorem dX6_greatestWeight_9 : decode cX6_greatestWeight 9 = .ok (.iconst 0, 1) := by decide +kernel
theorem dX6_greatestWeight_10 : decode cX6_greatestWeight 10 = .ok (.iaload, 1) := by decide +kernel
theorem dX6_greatestWeight_11 : decode cX6_greatestWeight 11 = .ok (.istore_n 1, 1) := by decide +kernel
theorem dX6_greatestWeight_12 : decode cX6_greatestWeight 12 = .ok (.iconst (-1), 1) := by decide +kernel
theorem dX6_greatestWeight_13 : decode cX6_greatestWeight 13 = .ok (.istore_n 2, 1) := by decide +kernel
theorem dX6_greatestWeight_14 : decode cX6_greatestWeight 14 = .ok (.sipush 1000, 3) := by decide +kernel
theorem dX6_greatestWeight_17 : decode cX6_greatestWeight 17 = .ok (.istore_n 3, 1) := by decide +kernel
theorem dX6_greatestWeight_18 : decode cX6_greatestWeight 18 = .ok (.iload_n 3, 1) := by decide +kernel
theorem dX6_greatestWeight_19 : decode cX6_greatestWeight 19 = .ok (.ldc 129, 2) := by decide +kernel
theorem dX6_greatestWeight_21 : decode cX6_greatestWeight 21 = .ok (.if_icmp .gt 43, 3) := by decide +kernel
theorem dX6_greatestWeight_24 : decode cX6_greatestWeight 24 = .ok (.aload_n 0, 1) := by decide +kernel
theorem dX6_greatestWeight_25 : decode cX6_greatestWeight 25 = .ok (.getfield 7, 3) := by decide +kernel
theorem dX6_greatestWeight_28 : decode cX6_greatestWeight 28 = .ok (.iconst 0, 1) := by decide +kernel
theorem dX6_greatestWeight_29 : decode cX6_greatestWeight 29 = .ok (.iload_n 3, 1) := by decide +kernel
theorem dX6_greatestWeight_30 : decode cX6_greatestWeight 30 = .ok (.iastore, 1) := by decide +kernel
theorem dX6_greatestWeight_31 : decode cX6_greatestWeight 31 = .ok (.aload_n 0, 1) := by decide +kernel
theorem dX6_greatestWeight_32 : decode cX6_greatestWeight 32 = .ok (.invokevirtual 133, 3) := by decide +kernel
theorem dX6_greatestWeight_35 : decode cX6_greatestWeight 35 = .ok (.aload_n 0, 1) := by decide +kernel
theorem dX6_greatestWeight_36 : decode cX6_greatestWeight 36 = .ok (.getfield 78, 3) := by decide +kernel
theorem dX6_greatestWeight_39 : decode cX6_greatestWeight 39 = .ok (.ifCond .eq 14, 3) := by decide +kernel
theorem dX6_greatestWeight_42 : decode cX6_greatestWeight 42 = .ok (.aload_n 0, 1) := by decide +kernel
theorem dX6_greatestWeight_43 : decode cX6_greatestWeight 43 = .ok (.invokevirtual 136, 3) := by decide +kernel
theorem dX6_greatestWeight_46 : decode cX6_greatestWeight 46 = .ok (.ifCond .ne 7, 3) := by decide +kernel
theorem dX6_greatestWeight_49 : decode cX6_greatestWeight 49 = .ok (.iload_n 3, 1) := by decide +kernel
theorem dX6_greatestWeight_50 : decode cX6_greatestWeight 50 = .ok (.goto 4, 3) := by decide +kernel
theorem dX6_greatestWeight_53 : decode cX6_greatestWeight 53 = .ok (.iload_n 2, 1) := by decide +kernel
theorem dX6_greatestWeight_54 : decode cX6_greatestWeight 54 = .ok (.istore_n 2, 1) := by decide +kernel
theorem dX6_greatestWeight_55 : decode cX6_greatestWeight 55 = .ok (.iinc 3 1000, 6) := by decide +kernel
theorem dX6_greatestWeight_61 : decode cX6_greatestWeight 61 = .ok (.goto (-43), 3) := by decide +kernel
theorem dX6_greatestWeight_64 : decode cX6_greatestWeight 64 = .ok (.aload_n 0, 1) := by decide +kernel
theorem dX6_greatestWeight_65 : decode cX6_greatestWeight 65 = .ok (.getfield 7, 3) := by decide +kernel
theorem dX6_greatestWeight_68 : decode cX6_greatestWeight 68 = .ok (.iconst 0, 1) := by decide +kernel
theorem dX6_greatestWeight_69 : decode cX6_greatestWeight 69 = .ok (.iload_n 1, 1) := by decide +kernel
theorem dX6_greatestWeight_70 : decode cX6_greatestWeight 70 = .ok (.iastore, 1) := by decide +kernel
theorem dX6_greatestWeight_71 : decode cX6_greatestWeight 71 = .ok (.iload_n 2, 1) := by decide +kernel
theorem dX6_greatestWeight_72 : decode cX6_greatestWeight 72 = .ok (.ireturn, 1) := by decide +kernel
set_option maxRecDepth 20000 in
theorem ggX6_bestCenter_X6_settle : GoodIn wsX6_bestCenter wsX6_settle := goodIn_r _ [8, 9, 10, 3, 11, 12, 13, 14, 7, 15, 2, 16, 17, 18, 19, 20, 21, 22, 23, 24, 25, 26, 27, 28, 29, 30, 31, 32, 33, 34, 35, 36, 37, 38, 39, 40, 41, 42, 43, 52, 53, 54, 55, 56, 57, 58, 59, 60, 61, 62, 63, 64, 65, 66, 67, 68, 69, 70] (by decide +kernel) (by decide +kernel)
set_option maxRecDepth 20000 in
theorem gX6_bestCenter_X6_settle : GoodIn wsX6_bestCenter (wsV RX6 133 RX6 yX6_settle wsX6_settle) := goodIn_app (goodIn_of _ (by decide +kernel)) ggX6_bestCenter_X6_settle
set_option maxRecDepth 20000 in
theorem ggX6_bestCenter_X6_greatest : GoodIn wsX6_bestCenter wsX6_greatest := goodIn_r _ [47, 11, 48, 49, 50, 7, 51, 2, 3, 52, 53, 54, 55, 56, 57, 58, 59, 60, 61, 62, 63, 64, 65, 66, 67, 68, 69, 70] (by decide +kernel) (by decide +kernel)
set_option maxRecDepth 20000 in
theorem gX6_bestCenter_X6_greatest : GoodIn wsX6_bestCenter (wsV RX6 142 RX6 yX6_greatest wsX6_greatest) := goodIn_app (goodIn_of _ (by decide +kernel)) ggX6_bestCenter_X6_greatest
theorem dX6_bestCenter_0 : decode cX6_bestCenter 0 = .ok (.aload_n 0, 1) := by decide +kernel
theorem dX6_bestCenter_1 : decode cX6_bestCenter 1 = .ok (.iconst 0, 1) := by decide +kernel
theorem dX6_bestCenter_2 : decode cX6_bestCenter 2 = .ok (.putfield 29, 3) := by decide +kernel
theorem dX6_bestCenter_5 : decode cX6_bestCenter 5 = .ok (.aload_n 0, 1) := by decide +kernel
theorem dX6_bestCenter_6 : decode cX6_bestCenter 6 = .ok (.getfield 7, 3) := by decide +kernel
theorem dX6_bestCenter_9 : decode cX6_bestCenter 9 = .ok (.iconst 1, 1) := by decide +kernel
theorem dX6_bestCenter_10 : decode cX6_bestCenter 10 = .ok (.iaload, 1) := by decide +kernel
theorem dX6_bestCenter_11 : decode cX6_bestCenter 11 = .ok (.istore_n 1, 1) := by decide +kernel
theorem dX6_bestCenter_12 : decode cX6_bestCenter 12 = .ok (.iconst (-1), 1) := by decide +kernel
theorem dX6_bestCenter_13 : decode cX6_bestCenter 13 = .ok (.istore_n 2, 1) := by decide +kernel
theorem dX6_bestCenter_14 : decode cX6_bestCenter 14 = .ok (.iconst 0, 1) := by decide +kernel
theorem dX6_bestCenter_15 : decode cX6_bestCenter 15 = .ok (.istore_n 3, 1) := by decide +kernel
theorem dX6_bestCenter_16 : decode cX6_bestCenter 16 = .ok (.iconst 0, 1) := by decide +kernel
theorem dX6_bestCenter_17 : decode cX6_bestCenter 17 = .ok (.istore 4, 2) := by decide +kernel
theorem dX6_bestCenter_19 : decode cX6_bestCenter 19 = .ok (.iload 4, 2) := by decide +kernel
theorem dX6_bestCenter_21 : decode cX6_bestCenter 21 = .ok (.sipush 400, 3) := by decide +kernel
theorem dX6_bestCenter_24 : decode cX6_bestCenter 24 = .ok (.if_icmp .gt 74, 3) := by decide +kernel
theorem dX6_bestCenter_27 : decode cX6_bestCenter 27 = .ok (.aload_n 0, 1) := by decide +kernel
theorem dX6_bestCenter_28 : decode cX6_bestCenter 28 = .ok (.getfield 7, 3) := by decide +kernel
theorem dX6_bestCenter_31 : decode cX6_bestCenter 31 = .ok (.iconst 1, 1) := by decide +kernel
theorem dX6_bestCenter_32 : decode cX6_bestCenter 32 = .ok (.iload 4, 2) := by decide +kernel
theorem dX6_bestCenter_34 : decode cX6_bestCenter 34 = .ok (.iastore, 1) := by decide +kernel
theorem dX6_bestCenter_35 : decode cX6_bestCenter 35 = .ok (.aload_n 0, 1) := by decide +kernel
theorem dX6_bestCenter_36 : decode cX6_bestCenter 36 = .ok (.invokevirtual 133, 3) := by decide +kernel
theorem dX6_bestCenter_39 : decode cX6_bestCenter 39 = .ok (.aload_n 0, 1) := by decide +kernel
theorem dX6_bestCenter_40 : decode cX6_bestCenter 40 = .ok (.getfield 78, 3) := by decide +kernel
theorem dX6_bestCenter_43 : decode cX6_bestCenter 43 = .ok (.ifCond .eq 20, 3) := by decide +kernel
theorem dX6_bestCenter_46 : decode cX6_bestCenter 46 = .ok (.iload_n 2, 1) := by decide +kernel
theorem dX6_bestCenter_47 : decode cX6_bestCenter 47 = .ok (.iconst (-1), 1) := by decide +kernel
theorem dX6_bestCenter_48 : decode cX6_bestCenter 48 = .ok (.if_icmp .eq 11, 3) := by decide +kernel
theorem dX6_bestCenter_51 : decode cX6_bestCenter 51 = .ok (.aload_n 0, 1) := by decide +kernel
theorem dX6_bestCenter_52 : decode cX6_bestCenter 52 = .ok (.invokevirtual 142, 3) := by decide +kernel
theorem dX6_bestCenter_55 : decode cX6_bestCenter 55 = .ok (.iload_n 3, 1) := by decide +kernel
theorem dX6_bestCenter_56 : decode cX6_bestCenter 56 = .ok (.if_icmp .ge 7, 3) := by decide +kernel
theorem dX6_bestCenter_59 : decode cX6_bestCenter 59 = .ok (.iconst 1, 1) := by decide +kernel
theorem dX6_bestCenter_60 : decode cX6_bestCenter 60 = .ok (.goto 4, 3) := by decide +kernel
theorem dX6_bestCenter_63 : decode cX6_bestCenter 63 = .ok (.iconst 0, 1) := by decide +kernel
theorem dX6_bestCenter_64 : decode cX6_bestCenter 64 = .ok (.istore 5, 2) := by decide +kernel
theorem dX6_bestCenter_66 : decode cX6_bestCenter 66 = .ok (.iload 5, 2) := by decide +kernel
theorem dX6_bestCenter_68 : decode cX6_bestCenter 68 = .ok (.ifCond .eq 8, 3) := by decide +kernel
theorem dX6_bestCenter_71 : decode cX6_bestCenter 71 = .ok (.iload 4, 2) := by decide +kernel
theorem dX6_bestCenter_73 : decode cX6_bestCenter 73 = .ok (.goto 4, 3) := by decide +kernel
theorem dX6_bestCenter_76 : decode cX6_bestCenter 76 = .ok (.iload_n 2, 1) := by decide +kernel
theorem dX6_bestCenter_77 : decode cX6_bestCenter 77 = .ok (.istore_n 2, 1) := by decide +kernel
theorem dX6_bestCenter_78 : decode cX6_bestCenter 78 = .ok (.iload 5, 2) := by decide +kernel
theorem dX6_bestCenter_80 : decode cX6_bestCenter 80 = .ok (.ifCond .eq 10, 3) := by decide +kernel
theorem dX6_bestCenter_83 : decode cX6_bestCenter 83 = .ok (.aload_n 0, 1) := by decide +kernel
theorem dX6_bestCenter_84 : decode cX6_bestCenter 84 = .ok (.invokevirtual 142, 3) := by decide +kernel
theorem dX6_bestCenter_87 : decode cX6_bestCenter 87 = .ok (.goto 4, 3) := by decide +kernel
theorem dX6_bestCenter_90 : decode cX6_bestCenter 90 = .ok (.iload_n 3, 1) := by decide +kernel
theorem dX6_bestCenter_91 : decode cX6_bestCenter 91 = .ok (.istore_n 3, 1) := by decide +kernel
theorem dX6_bestCenter_92 : decode cX6_bestCenter 92 = .ok (.iinc 4 5, 3) := by decide +kernel
theorem dX6_bestCenter_95 : decode cX6_bestCenter 95 = .ok (.goto (-76), 3) := by decide +kernel
theorem dX6_bestCenter_98 : decode cX6_bestCenter 98 = .ok (.aload_n 0, 1) := by decide +kernel
theorem dX6_bestCenter_99 : decode cX6_bestCenter 99 = .ok (.getfield 7, 3) := by decide +kernel
theorem dX6_bestCenter_102 : decode cX6_bestCenter 102 = .ok (.iconst 1, 1) := by decide +kernel
theorem dX6_bestCenter_103 : decode cX6_bestCenter 103 = .ok (.iload_n 1, 1) := by decide +kernel
theorem dX6_bestCenter_104 : decode cX6_bestCenter 104 = .ok (.iastore, 1) := by decide +kernel
theorem dX6_bestCenter_105 : decode cX6_bestCenter 105 = .ok (.iload_n 2, 1) := by decide +kernel
theorem dX6_bestCenter_106 : decode cX6_bestCenter 106 = .ok (.ireturn, 1) := by decide +kernel
set_option maxRecDepth 20000 in
theorem ggX6_bestPlace_X6_in : GoodIn wsX6_bestPlace wsX6_in := goodIn_r _ [8] (by decide +kernel) (by decide +kernel)
set_option maxRecDepth 20000 in
theorem gX6_bestPlace_X6_in : GoodIn wsX6_bestPlace (va_wsS RX6 40 yX6_in wsX6_in) := goodIn_app (goodIn_of _ (by decide +kernel)) ggX6_bestPlace_X6_in
set_option maxRecDepth 20000 in
theorem ggX6_bestPlace_X6_build : GoodIn wsX6_bestPlace wsX6_build := goodIn_r _ [12, 2, 13, 14, 15, 7, 16, 64, 65, 66, 67, 68, 69, 70, 71, 72, 73, 74, 75, 76, 77, 78, 79, 80, 81, 82] (by decide +kernel) (by decide +kernel)
set_option maxRecDepth 20000 in
theorem gX6_bestPlace_X6_build : GoodIn wsX6_bestPlace (wsV RX6 118 RX6 yX6_build wsX6_build) := goodIn_app (goodIn_of _ (by decide +kernel)) ggX6_bestPlace_X6_build
set_option maxRecDepth 20000 in
theorem ggX6_bestPlace_X6_settle : GoodIn wsX6_bestPlace wsX6_settle := goodIn_r _ [20, 21, 22, 4, 23, 24, 25, 26, 7, 27, 2, 28, 29, 30, 31, 32, 33, 34, 35, 36, 37, 38, 39, 40, 41, 42, 43, 44, 45, 46, 47, 48, 49, 50, 51, 52, 53, 54, 55, 64, 65, 66, 67, 68, 69, 70, 71, 72, 73, 74, 75, 76, 77, 78, 79, 80, 81, 82] (by decide +kernel) (by decide +kernel)
set_option maxRecDepth 20000 in
theorem gX6_bestPlace_X6_settle : GoodIn wsX6_bestPlace (wsV RX6 133 RX6 yX6_settle wsX6_settle) := goodIn_app (goodIn_of _ (by decide +kernel)) ggX6_bestPlace_X6_settle
set_option maxRecDepth 20000 in
theorem ggX6_bestPlace_X6_greatest : GoodIn wsX6_bestPlace wsX6_greatest := goodIn_r _ [59, 23, 60, 61, 62, 7, 63, 2, 4, 64, 65, 66, 67, 68, 69, 70, 71, 72, 73, 74, 75, 76, 77, 78, 79, 80, 81, 82] (by decide +kernel) (by decide +kernel)
set_option maxRecDepth 20000 in
theorem gX6_bestPlace_X6_greatest : GoodIn wsX6_bestPlace (wsV RX6 142 RX6 yX6_greatest wsX6_greatest) := goodIn_app (goodIn_of _ (by decide +kernel)) ggX6_bestPlace_X6_greatest
theorem dX6_bestPlace_0 : decode cX6_bestPlace 0 = .ok (.aload_n 0, 1) := by decide +kernel
theorem dX6_bestPlace_1 : decode cX6_bestPlace 1 = .ok (.iload_n 1, 1) := by decide +kernel
theorem dX6_bestPlace_2 : decode cX6_bestPlace 2 = .ok (.iconst 1, 1) := by decide +kernel
theorem dX6_bestPlace_3 : decode cX6_bestPlace 3 = .ok (.bipush 100, 2) := by decide +kernel
theorem dX6_bestPlace_5 : decode cX6_bestPlace 5 = .ok (.invokestatic 40, 3) := by decide +kernel
theorem dX6_bestPlace_8 : decode cX6_bestPlace 8 = .ok (.ifCond .eq 7, 3) := by decide +kernel
theorem dX6_bestPlace_11 : decode cX6_bestPlace 11 = .ok (.iconst 0, 1) := by decide +kernel
theorem dX6_bestPlace_12 : decode cX6_bestPlace 12 = .ok (.goto 4, 3) := by decide +kernel
theorem dX6_bestPlace_15 : decode cX6_bestPlace 15 = .ok (.iconst 1, 1) := by decide +kernel
theorem dX6_bestPlace_16 : decode cX6_bestPlace 16 = .ok (.putfield 29, 3) := by decide +kernel
theorem dX6_bestPlace_19 : decode cX6_bestPlace 19 = .ok (.aload_n 0, 1) := by decide +kernel
theorem dX6_bestPlace_20 : decode cX6_bestPlace 20 = .ok (.getfield 29, 3) := by decide +kernel
theorem dX6_bestPlace_23 : decode cX6_bestPlace 23 = .ok (.ifCond .eq 5, 3) := by decide +kernel
theorem dX6_bestPlace_26 : decode cX6_bestPlace 26 = .ok (.iconst 0, 1) := by decide +kernel
theorem dX6_bestPlace_27 : decode cX6_bestPlace 27 = .ok (.ireturn, 1) := by decide +kernel
theorem dX6_bestPlace_28 : decode cX6_bestPlace 28 = .ok (.iconst (-1), 1) := by decide +kernel
theorem dX6_bestPlace_29 : decode cX6_bestPlace 29 = .ok (.istore_n 2, 1) := by decide +kernel
theorem dX6_bestPlace_30 : decode cX6_bestPlace 30 = .ok (.iconst 0, 1) := by decide +kernel
theorem dX6_bestPlace_31 : decode cX6_bestPlace 31 = .ok (.istore_n 3, 1) := by decide +kernel
theorem dX6_bestPlace_32 : decode cX6_bestPlace 32 = .ok (.iconst 0, 1) := by decide +kernel
theorem dX6_bestPlace_33 : decode cX6_bestPlace 33 = .ok (.istore 4, 2) := by decide +kernel
theorem dX6_bestPlace_35 : decode cX6_bestPlace 35 = .ok (.iload 4, 2) := by decide +kernel
theorem dX6_bestPlace_37 : decode cX6_bestPlace 37 = .ok (.sipush 400, 3) := by decide +kernel
theorem dX6_bestPlace_40 : decode cX6_bestPlace 40 = .ok (.if_icmp .gt 97, 3) := by decide +kernel
theorem dX6_bestPlace_43 : decode cX6_bestPlace 43 = .ok (.aload_n 0, 1) := by decide +kernel
theorem dX6_bestPlace_44 : decode cX6_bestPlace 44 = .ok (.getfield 7, 3) := by decide +kernel
theorem dX6_bestPlace_47 : decode cX6_bestPlace 47 = .ok (.iconst 2, 1) := by decide +kernel
theorem dX6_bestPlace_48 : decode cX6_bestPlace 48 = .ok (.iaload, 1) := by decide +kernel
theorem dX6_bestPlace_49 : decode cX6_bestPlace 49 = .ok (.bipush 16, 2) := by decide +kernel
theorem dX6_bestPlace_51 : decode cX6_bestPlace 51 = .ok (.if_icmp .ge 86, 3) := by decide +kernel
theorem dX6_bestPlace_54 : decode cX6_bestPlace 54 = .ok (.aload_n 0, 1) := by decide +kernel
theorem dX6_bestPlace_55 : decode cX6_bestPlace 55 = .ok (.iload 4, 2) := by decide +kernel
theorem dX6_bestPlace_57 : decode cX6_bestPlace 57 = .ok (.iload_n 1, 1) := by decide +kernel
theorem dX6_bestPlace_58 : decode cX6_bestPlace 58 = .ok (.iconst 0, 1) := by decide +kernel
theorem dX6_bestPlace_59 : decode cX6_bestPlace 59 = .ok (.ldc 106, 2) := by decide +kernel
theorem dX6_bestPlace_61 : decode cX6_bestPlace 61 = .ok (.invokevirtual 118, 3) := by decide +kernel
theorem dX6_bestPlace_64 : decode cX6_bestPlace 64 = .ok (.aload_n 0, 1) := by decide +kernel
theorem dX6_bestPlace_65 : decode cX6_bestPlace 65 = .ok (.invokevirtual 133, 3) := by decide +kernel
theorem dX6_bestPlace_68 : decode cX6_bestPlace 68 = .ok (.aload_n 0, 1) := by decide +kernel
theorem dX6_bestPlace_69 : decode cX6_bestPlace 69 = .ok (.getfield 78, 3) := by decide +kernel
theorem dX6_bestPlace_72 : decode cX6_bestPlace 72 = .ok (.ifCond .eq 20, 3) := by decide +kernel
theorem dX6_bestPlace_75 : decode cX6_bestPlace 75 = .ok (.iload_n 2, 1) := by decide +kernel
theorem dX6_bestPlace_76 : decode cX6_bestPlace 76 = .ok (.iconst (-1), 1) := by decide +kernel
theorem dX6_bestPlace_77 : decode cX6_bestPlace 77 = .ok (.if_icmp .eq 11, 3) := by decide +kernel
theorem dX6_bestPlace_80 : decode cX6_bestPlace 80 = .ok (.aload_n 0, 1) := by decide +kernel
theorem dX6_bestPlace_81 : decode cX6_bestPlace 81 = .ok (.invokevirtual 142, 3) := by decide +kernel
theorem dX6_bestPlace_84 : decode cX6_bestPlace 84 = .ok (.iload_n 3, 1) := by decide +kernel
theorem dX6_bestPlace_85 : decode cX6_bestPlace 85 = .ok (.if_icmp .ge 7, 3) := by decide +kernel
theorem dX6_bestPlace_88 : decode cX6_bestPlace 88 = .ok (.iconst 1, 1) := by decide +kernel
theorem dX6_bestPlace_89 : decode cX6_bestPlace 89 = .ok (.goto 4, 3) := by decide +kernel
theorem dX6_bestPlace_92 : decode cX6_bestPlace 92 = .ok (.iconst 0, 1) := by decide +kernel
theorem dX6_bestPlace_93 : decode cX6_bestPlace 93 = .ok (.istore 5, 2) := by decide +kernel
theorem dX6_bestPlace_95 : decode cX6_bestPlace 95 = .ok (.iload 5, 2) := by decide +kernel
theorem dX6_bestPlace_97 : decode cX6_bestPlace 97 = .ok (.ifCond .eq 8, 3) := by decide +kernel
theorem dX6_bestPlace_100 : decode cX6_bestPlace 100 = .ok (.iload 4, 2) := by decide +kernel
theorem dX6_bestPlace_102 : decode cX6_bestPlace 102 = .ok (.goto 4, 3) := by decide +kernel
theorem dX6_bestPlace_105 : decode cX6_bestPlace 105 = .ok (.iload_n 2, 1) := by decide +kernel
theorem dX6_bestPlace_106 : decode cX6_bestPlace 106 = .ok (.istore_n 2, 1) := by decide +kernel
theorem dX6_bestPlace_107 : decode cX6_bestPlace 107 = .ok (.iload 5, 2) := by decide +kernel
theorem dX6_bestPlace_109 : decode cX6_bestPlace 109 = .ok (.ifCond .eq 10, 3) := by decide +kernel
theorem dX6_bestPlace_112 : decode cX6_bestPlace 112 = .ok (.aload_n 0, 1) := by decide +kernel
theorem dX6_bestPlace_113 : decode cX6_bestPlace 113 = .ok (.invokevirtual 142, 3) := by decide +kernel
theorem dX6_bestPlace_116 : decode cX6_bestPlace 116 = .ok (.goto 4, 3) := by decide +kernel
theorem dX6_bestPlace_119 : decode cX6_bestPlace 119 = .ok (.iload_n 3, 1) := by decide +kernel
theorem dX6_bestPlace_120 : decode cX6_bestPlace 120 = .ok (.istore_n 3, 1) := by decide +kernel
theorem dX6_bestPlace_121 : decode cX6_bestPlace 121 = .ok (.aload_n 0, 1) := by decide +kernel
theorem dX6_bestPlace_122 : decode cX6_bestPlace 122 = .ok (.getfield 7, 3) := by decide +kernel
theorem dX6_bestPlace_125 : decode cX6_bestPlace 125 = .ok (.iconst 2, 1) := by decide +kernel
theorem dX6_bestPlace_126 : decode cX6_bestPlace 126 = .ok (.dup2, 1) := by decide +kernel
theorem dX6_bestPlace_127 : decode cX6_bestPlace 127 = .ok (.iaload, 1) := by decide +kernel
theorem dX6_bestPlace_128 : decode cX6_bestPlace 128 = .ok (.iconst 1, 1) := by decide +kernel
theorem dX6_bestPlace_129 : decode cX6_bestPlace 129 = .ok (.isub, 1) := by decide +kernel
theorem dX6_bestPlace_130 : decode cX6_bestPlace 130 = .ok (.iastore, 1) := by decide +kernel
theorem dX6_bestPlace_131 : decode cX6_bestPlace 131 = .ok (.iinc 4 10, 3) := by decide +kernel
theorem dX6_bestPlace_134 : decode cX6_bestPlace 134 = .ok (.goto (-99), 3) := by decide +kernel
theorem dX6_bestPlace_137 : decode cX6_bestPlace 137 = .ok (.iload_n 2, 1) := by decide +kernel
theorem dX6_bestPlace_138 : decode cX6_bestPlace 138 = .ok (.ireturn, 1) := by decide +kernel
set_option maxRecDepth 20000 in
theorem ggX6_append_X6_in : GoodIn wsX6_append wsX6_in := goodIn_r _ [7] (by decide +kernel) (by decide +kernel)
set_option maxRecDepth 20000 in
theorem gX6_append_X6_in : GoodIn wsX6_append (va_wsS RX6 40 yX6_in wsX6_in) := goodIn_app (goodIn_of _ (by decide +kernel)) ggX6_append_X6_in
theorem dX6_append_0 : decode cX6_append 0 = .ok (.aload_n 0, 1) := by decide +kernel
theorem dX6_append_1 : decode cX6_append 1 = .ok (.iload_n 1, 1) := by decide +kernel
theorem dX6_append_2 : decode cX6_append 2 = .ok (.iconst 0, 1) := by decide +kernel
theorem dX6_append_3 : decode cX6_append 3 = .ok (.bipush 127, 2) := by decide +kernel
theorem dX6_append_5 : decode cX6_append 5 = .ok (.invokestatic 40, 3) := by decide +kernel
theorem dX6_append_8 : decode cX6_append 8 = .ok (.ifCond .ne 7, 3) := by decide +kernel
theorem dX6_append_11 : decode cX6_append 11 = .ok (.iconst 1, 1) := by decide +kernel
theorem dX6_append_12 : decode cX6_append 12 = .ok (.goto 18, 3) := by decide +kernel
theorem dX6_append_15 : decode cX6_append 15 = .ok (.aload_n 0, 1) := by decide +kernel
theorem dX6_append_16 : decode cX6_append 16 = .ok (.getfield 175, 3) := by decide +kernel
theorem dX6_append_19 : decode cX6_append 19 = .ok (.sipush 160, 3) := by decide +kernel
theorem dX6_append_22 : decode cX6_append 22 = .ok (.if_icmp .ne 7, 3) := by decide +kernel
theorem dX6_append_25 : decode cX6_append 25 = .ok (.iconst 2, 1) := by decide +kernel
theorem dX6_append_26 : decode cX6_append 26 = .ok (.goto 4, 3) := by decide +kernel
theorem dX6_append_29 : decode cX6_append 29 = .ok (.iconst 0, 1) := by decide +kernel
theorem dX6_append_30 : decode cX6_append 30 = .ok (.putfield 29, 3) := by decide +kernel
theorem dX6_append_33 : decode cX6_append 33 = .ok (.aload_n 0, 1) := by decide +kernel
theorem dX6_append_34 : decode cX6_append 34 = .ok (.getfield 29, 3) := by decide +kernel
theorem dX6_append_37 : decode cX6_append 37 = .ok (.ifCond .eq 5, 3) := by decide +kernel
theorem dX6_append_40 : decode cX6_append 40 = .ok (.iconst 0, 1) := by decide +kernel
theorem dX6_append_41 : decode cX6_append 41 = .ok (.ireturn, 1) := by decide +kernel
theorem dX6_append_42 : decode cX6_append 42 = .ok (.aload_n 0, 1) := by decide +kernel
theorem dX6_append_43 : decode cX6_append 43 = .ok (.getfield 19, 3) := by decide +kernel
theorem dX6_append_46 : decode cX6_append 46 = .ok (.aload_n 0, 1) := by decide +kernel
theorem dX6_append_47 : decode cX6_append 47 = .ok (.getfield 175, 3) := by decide +kernel
theorem dX6_append_50 : decode cX6_append 50 = .ok (.iload_n 1, 1) := by decide +kernel
theorem dX6_append_51 : decode cX6_append 51 = .ok (.iastore, 1) := by decide +kernel
theorem dX6_append_52 : decode cX6_append 52 = .ok (.aload_n 0, 1) := by decide +kernel
theorem dX6_append_53 : decode cX6_append 53 = .ok (.dup, 1) := by decide +kernel
theorem dX6_append_54 : decode cX6_append 54 = .ok (.getfield 175, 3) := by decide +kernel
theorem dX6_append_57 : decode cX6_append 57 = .ok (.iconst 1, 1) := by decide +kernel
theorem dX6_append_58 : decode cX6_append 58 = .ok (.iadd, 1) := by decide +kernel
theorem dX6_append_59 : decode cX6_append 59 = .ok (.putfield 175, 3) := by decide +kernel
theorem dX6_append_62 : decode cX6_append 62 = .ok (.aload_n 0, 1) := by decide +kernel
theorem dX6_append_63 : decode cX6_append 63 = .ok (.getfield 175, 3) := by decide +kernel
theorem dX6_append_66 : decode cX6_append 66 = .ok (.ireturn, 1) := by decide +kernel
theorem dX6_clearText_0 : decode cX6_clearText 0 = .ok (.aload_n 0, 1) := by decide +kernel
theorem dX6_clearText_1 : decode cX6_clearText 1 = .ok (.iconst 0, 1) := by decide +kernel
theorem dX6_clearText_2 : decode cX6_clearText 2 = .ok (.putfield 29, 3) := by decide +kernel
theorem dX6_clearText_5 : decode cX6_clearText 5 = .ok (.aload_n 0, 1) := by decide +kernel
theorem dX6_clearText_6 : decode cX6_clearText 6 = .ok (.getfield 175, 3) := by decide +kernel
theorem dX6_clearText_9 : decode cX6_clearText 9 = .ok (.istore_n 1, 1) := by decide +kernel
theorem dX6_clearText_10 : decode cX6_clearText 10 = .ok (.aload_n 0, 1) := by decide +kernel
theorem dX6_clearText_11 : decode cX6_clearText 11 = .ok (.iconst 0, 1) := by decide +kernel
theorem dX6_clearText_12 : decode cX6_clearText 12 = .ok (.putfield 175, 3) := by decide +kernel
theorem dX6_clearText_15 : decode cX6_clearText 15 = .ok (.iload_n 1, 1) := by decide +kernel
theorem dX6_clearText_16 : decode cX6_clearText 16 = .ok (.ireturn, 1) := by decide +kernel
theorem dX6_here_0 : decode cX6_here 0 = .ok (.aload_n 0, 1) := by decide +kernel
theorem dX6_here_1 : decode cX6_here 1 = .ok (.getfield 178, 3) := by decide +kernel
theorem dX6_here_4 : decode cX6_here 4 = .ok (.aload_n 0, 1) := by decide +kernel
theorem dX6_here_5 : decode cX6_here 5 = .ok (.getfield 175, 3) := by decide +kernel
theorem dX6_here_8 : decode cX6_here 8 = .ok (.if_icmp .ge 15, 3) := by decide +kernel
theorem dX6_here_11 : decode cX6_here 11 = .ok (.aload_n 0, 1) := by decide +kernel
theorem dX6_here_12 : decode cX6_here 12 = .ok (.getfield 19, 3) := by decide +kernel
theorem dX6_here_15 : decode cX6_here 15 = .ok (.aload_n 0, 1) := by decide +kernel
theorem dX6_here_16 : decode cX6_here 16 = .ok (.getfield 178, 3) := by decide +kernel
theorem dX6_here_19 : decode cX6_here 19 = .ok (.iaload, 1) := by decide +kernel
theorem dX6_here_20 : decode cX6_here 20 = .ok (.goto 4, 3) := by decide +kernel
theorem dX6_here_23 : decode cX6_here 23 = .ok (.iconst (-1), 1) := by decide +kernel
theorem dX6_here_24 : decode cX6_here 24 = .ok (.ireturn, 1) := by decide +kernel
set_option maxRecDepth 20000 in
theorem ggX6_takes_X6_here : GoodIn wsX6_takes wsX6_here := goodIn_r _ [6, 1, 7, 8, 9, 10, 11, 12, 13, 14, 15, 16, 17, 18, 19, 20, 21, 22, 23, 24, 25, 26, 27] (by decide +kernel) (by decide +kernel)
set_option maxRecDepth 20000 in
theorem gX6_takes_X6_here : GoodIn wsX6_takes (wsV RX6 181 RX6 yX6_here wsX6_here) := goodIn_app (goodIn_of _ (by decide +kernel)) ggX6_takes_X6_here
theorem dX6_takes_0 : decode cX6_takes 0 = .ok (.aload_n 0, 1) := by decide +kernel
theorem dX6_takes_1 : decode cX6_takes 1 = .ok (.invokevirtual 181, 3) := by decide +kernel
theorem dX6_takes_4 : decode cX6_takes 4 = .ok (.iload_n 1, 1) := by decide +kernel
theorem dX6_takes_5 : decode cX6_takes 5 = .ok (.if_icmp .ne 7, 3) := by decide +kernel
theorem dX6_takes_8 : decode cX6_takes 8 = .ok (.iconst 1, 1) := by decide +kernel
theorem dX6_takes_9 : decode cX6_takes 9 = .ok (.goto 4, 3) := by decide +kernel
theorem dX6_takes_12 : decode cX6_takes 12 = .ok (.iconst 0, 1) := by decide +kernel
theorem dX6_takes_13 : decode cX6_takes 13 = .ok (.istore_n 2, 1) := by decide +kernel
theorem dX6_takes_14 : decode cX6_takes 14 = .ok (.aload_n 0, 1) := by decide +kernel
theorem dX6_takes_15 : decode cX6_takes 15 = .ok (.dup, 1) := by decide +kernel
theorem dX6_takes_16 : decode cX6_takes 16 = .ok (.getfield 178, 3) := by decide +kernel
theorem dX6_takes_19 : decode cX6_takes 19 = .ok (.iload_n 2, 1) := by decide +kernel
theorem dX6_takes_20 : decode cX6_takes 20 = .ok (.ifCond .eq 7, 3) := by decide +kernel
theorem dX6_takes_23 : decode cX6_takes 23 = .ok (.iconst 1, 1) := by decide +kernel
theorem dX6_takes_24 : decode cX6_takes 24 = .ok (.goto 4, 3) := by decide +kernel
theorem dX6_takes_27 : decode cX6_takes 27 = .ok (.iconst 0, 1) := by decide +kernel
theorem dX6_takes_28 : decode cX6_takes 28 = .ok (.iadd, 1) := by decide +kernel
theorem dX6_takes_29 : decode cX6_takes 29 = .ok (.putfield 178, 3) := by decide +kernel
theorem dX6_takes_32 : decode cX6_takes 32 = .ok (.iload_n 2, 1) := by decide +kernel
theorem dX6_takes_33 : decode cX6_takes 33 = .ok (.ireturn, 1) := by decide +kernel
set_option maxRecDepth 20000 in
theorem ggX6_readNumber_X6_takes : GoodIn wsX6_readNumber wsX6_takes := goodIn_r _ [7, 1, 8, 9, 10, 6, 11, 12, 13, 17, 18, 19, 20, 21, 22, 23, 24, 25, 26, 27, 28, 29, 30, 31, 32, 33, 34, 35] (by decide +kernel) (by decide +kernel)
set_option maxRecDepth 20000 in
theorem gX6_readNumber_X6_takes : GoodIn wsX6_readNumber (wsV RX6 184 RX6 yX6_takes wsX6_takes) := goodIn_app (goodIn_of _ (by decide +kernel)) ggX6_readNumber_X6_takes
set_option maxRecDepth 20000 in
theorem ggX6_readNumber_X6_here : GoodIn wsX6_readNumber wsX6_here := goodIn_r _ [11, 1, 12, 13, 17, 18, 19, 20, 21, 22, 23, 24, 25, 26, 27, 28, 29, 30, 31, 32, 33, 34, 35] (by decide +kernel) (by decide +kernel)
set_option maxRecDepth 20000 in
theorem gX6_readNumber_X6_here : GoodIn wsX6_readNumber (wsV RX6 181 RX6 yX6_here wsX6_here) := goodIn_app (goodIn_of _ (by decide +kernel)) ggX6_readNumber_X6_here
set_option maxRecDepth 20000 in
theorem ggX6_readNumber_X6_in : GoodIn wsX6_readNumber wsX6_in := goodIn_r _ [16] (by decide +kernel) (by decide +kernel)
set_option maxRecDepth 20000 in
theorem gX6_readNumber_X6_in : GoodIn wsX6_readNumber (va_wsS RX6 40 yX6_in wsX6_in) := goodIn_app (goodIn_of _ (by decide +kernel)) ggX6_readNumber_X6_in
theorem dX6_readNumber_0 : decode cX6_readNumber 0 = .ok (.iload_n 2, 1) := by decide +kernel
theorem dX6_readNumber_1 : decode cX6_readNumber 1 = .ok (.ifCond .ge 16, 3) := by decide +kernel
theorem dX6_readNumber_4 : decode cX6_readNumber 4 = .ok (.aload_n 0, 1) := by decide +kernel
theorem dX6_readNumber_5 : decode cX6_readNumber 5 = .ok (.bipush 45, 2) := by decide +kernel
theorem dX6_readNumber_7 : decode cX6_readNumber 7 = .ok (.invokevirtual 184, 3) := by decide +kernel
theorem dX6_readNumber_10 : decode cX6_readNumber 10 = .ok (.ifCond .eq 7, 3) := by decide +kernel
theorem dX6_readNumber_13 : decode cX6_readNumber 13 = .ok (.iconst 1, 1) := by decide +kernel
theorem dX6_readNumber_14 : decode cX6_readNumber 14 = .ok (.goto 4, 3) := by decide +kernel
theorem dX6_readNumber_17 : decode cX6_readNumber 17 = .ok (.iconst 0, 1) := by decide +kernel
theorem dX6_readNumber_18 : decode cX6_readNumber 18 = .ok (.istore 5, 2) := by decide +kernel
theorem dX6_readNumber_20 : decode cX6_readNumber 20 = .ok (.aload_n 0, 1) := by decide +kernel
theorem dX6_readNumber_21 : decode cX6_readNumber 21 = .ok (.getfield 178, 3) := by decide +kernel
theorem dX6_readNumber_24 : decode cX6_readNumber 24 = .ok (.istore 6, 2) := by decide +kernel
theorem dX6_readNumber_26 : decode cX6_readNumber 26 = .ok (.aload_n 0, 1) := by decide +kernel
theorem dX6_readNumber_27 : decode cX6_readNumber 27 = .ok (.iconst 0, 1) := by decide +kernel
theorem dX6_readNumber_28 : decode cX6_readNumber 28 = .ok (.putfield 187, 3) := by decide +kernel
theorem dX6_readNumber_31 : decode cX6_readNumber 31 = .ok (.aload_n 0, 1) := by decide +kernel
theorem dX6_readNumber_32 : decode cX6_readNumber 32 = .ok (.getfield 178, 3) := by decide +kernel
theorem dX6_readNumber_35 : decode cX6_readNumber 35 = .ok (.iload 6, 2) := by decide +kernel
theorem dX6_readNumber_37 : decode cX6_readNumber 37 = .ok (.iload_n 1, 1) := by decide +kernel
theorem dX6_readNumber_38 : decode cX6_readNumber 38 = .ok (.iadd, 1) := by decide +kernel
theorem dX6_readNumber_39 : decode cX6_readNumber 39 = .ok (.if_icmp .ge 49, 3) := by decide +kernel
theorem dX6_readNumber_42 : decode cX6_readNumber 42 = .ok (.aload_n 0, 1) := by decide +kernel
theorem dX6_readNumber_43 : decode cX6_readNumber 43 = .ok (.invokevirtual 181, 3) := by decide +kernel
theorem dX6_readNumber_46 : decode cX6_readNumber 46 = .ok (.bipush 48, 2) := by decide +kernel
theorem dX6_readNumber_48 : decode cX6_readNumber 48 = .ok (.bipush 57, 2) := by decide +kernel
theorem dX6_readNumber_50 : decode cX6_readNumber 50 = .ok (.invokestatic 40, 3) := by decide +kernel
theorem dX6_readNumber_53 : decode cX6_readNumber 53 = .ok (.ifCond .eq 35, 3) := by decide +kernel
theorem dX6_readNumber_56 : decode cX6_readNumber 56 = .ok (.aload_n 0, 1) := by decide +kernel
theorem dX6_readNumber_57 : decode cX6_readNumber 57 = .ok (.bipush 10, 2) := by decide +kernel
theorem dX6_readNumber_59 : decode cX6_readNumber 59 = .ok (.aload_n 0, 1) := by decide +kernel
theorem dX6_readNumber_60 : decode cX6_readNumber 60 = .ok (.getfield 187, 3) := by decide +kernel
theorem dX6_readNumber_63 : decode cX6_readNumber 63 = .ok (.imul, 1) := by decide +kernel
theorem dX6_readNumber_64 : decode cX6_readNumber 64 = .ok (.aload_n 0, 1) := by decide +kernel
theorem dX6_readNumber_65 : decode cX6_readNumber 65 = .ok (.invokevirtual 181, 3) := by decide +kernel
theorem dX6_readNumber_68 : decode cX6_readNumber 68 = .ok (.iadd, 1) := by decide +kernel
theorem dX6_readNumber_69 : decode cX6_readNumber 69 = .ok (.bipush 48, 2) := by decide +kernel
theorem dX6_readNumber_71 : decode cX6_readNumber 71 = .ok (.isub, 1) := by decide +kernel
theorem dX6_readNumber_72 : decode cX6_readNumber 72 = .ok (.putfield 187, 3) := by decide +kernel
theorem dX6_readNumber_75 : decode cX6_readNumber 75 = .ok (.aload_n 0, 1) := by decide +kernel
theorem dX6_readNumber_76 : decode cX6_readNumber 76 = .ok (.dup, 1) := by decide +kernel
theorem dX6_readNumber_77 : decode cX6_readNumber 77 = .ok (.getfield 178, 3) := by decide +kernel
theorem dX6_readNumber_80 : decode cX6_readNumber 80 = .ok (.iconst 1, 1) := by decide +kernel
theorem dX6_readNumber_81 : decode cX6_readNumber 81 = .ok (.iadd, 1) := by decide +kernel
theorem dX6_readNumber_82 : decode cX6_readNumber 82 = .ok (.putfield 178, 3) := by decide +kernel
theorem dX6_readNumber_85 : decode cX6_readNumber 85 = .ok (.goto (-54), 3) := by decide +kernel
theorem dX6_readNumber_88 : decode cX6_readNumber 88 = .ok (.aload_n 0, 1) := by decide +kernel
theorem dX6_readNumber_89 : decode cX6_readNumber 89 = .ok (.getfield 178, 3) := by decide +kernel
theorem dX6_readNumber_92 : decode cX6_readNumber 92 = .ok (.iload 6, 2) := by decide +kernel
theorem dX6_readNumber_94 : decode cX6_readNumber 94 = .ok (.if_icmp .eq 17, 3) := by decide +kernel
theorem dX6_readNumber_97 : decode cX6_readNumber 97 = .ok (.aload_n 0, 1) := by decide +kernel
theorem dX6_readNumber_98 : decode cX6_readNumber 98 = .ok (.invokevirtual 181, 3) := by decide +kernel
theorem dX6_readNumber_101 : decode cX6_readNumber 101 = .ok (.bipush 48, 2) := by decide +kernel
theorem dX6_readNumber_103 : decode cX6_readNumber 103 = .ok (.bipush 57, 2) := by decide +kernel
theorem dX6_readNumber_105 : decode cX6_readNumber 105 = .ok (.invokestatic 40, 3) := by decide +kernel
theorem dX6_readNumber_108 : decode cX6_readNumber 108 = .ok (.ifCond .eq 5, 3) := by decide +kernel
theorem dX6_readNumber_111 : decode cX6_readNumber 111 = .ok (.iconst 0, 1) := by decide +kernel
theorem dX6_readNumber_112 : decode cX6_readNumber 112 = .ok (.ireturn, 1) := by decide +kernel
theorem dX6_readNumber_113 : decode cX6_readNumber 113 = .ok (.aload_n 0, 1) := by decide +kernel
theorem dX6_readNumber_114 : decode cX6_readNumber 114 = .ok (.iload 5, 2) := by decide +kernel
theorem dX6_readNumber_116 : decode cX6_readNumber 116 = .ok (.ifCond .eq 11, 3) := by decide +kernel
theorem dX6_readNumber_119 : decode cX6_readNumber 119 = .ok (.aload_n 0, 1) := by decide +kernel
theorem dX6_readNumber_120 : decode cX6_readNumber 120 = .ok (.getfield 187, 3) := by decide +kernel
theorem dX6_readNumber_123 : decode cX6_readNumber 123 = .ok (.ineg, 1) := by decide +kernel
theorem dX6_readNumber_124 : decode cX6_readNumber 124 = .ok (.goto 7, 3) := by decide +kernel
theorem dX6_readNumber_127 : decode cX6_readNumber 127 = .ok (.aload_n 0, 1) := by decide +kernel
theorem dX6_readNumber_128 : decode cX6_readNumber 128 = .ok (.getfield 187, 3) := by decide +kernel
theorem dX6_readNumber_131 : decode cX6_readNumber 131 = .ok (.putfield 187, 3) := by decide +kernel
theorem dX6_readNumber_134 : decode cX6_readNumber 134 = .ok (.aload_n 0, 1) := by decide +kernel
theorem dX6_readNumber_135 : decode cX6_readNumber 135 = .ok (.getfield 187, 3) := by decide +kernel
theorem dX6_readNumber_138 : decode cX6_readNumber 138 = .ok (.iload_n 2, 1) := by decide +kernel
theorem dX6_readNumber_139 : decode cX6_readNumber 139 = .ok (.iload_n 3, 1) := by decide +kernel
theorem dX6_readNumber_140 : decode cX6_readNumber 140 = .ok (.invokestatic 40, 3) := by decide +kernel
theorem dX6_readNumber_143 : decode cX6_readNumber 143 = .ok (.ifCond .ne 11, 3) := by decide +kernel
theorem dX6_readNumber_146 : decode cX6_readNumber 146 = .ok (.aload_n 0, 1) := by decide +kernel
theorem dX6_readNumber_147 : decode cX6_readNumber 147 = .ok (.iload 6, 2) := by decide +kernel
theorem dX6_readNumber_149 : decode cX6_readNumber 149 = .ok (.putfield 178, 3) := by decide +kernel
theorem dX6_readNumber_152 : decode cX6_readNumber 152 = .ok (.iconst 0, 1) := by decide +kernel
theorem dX6_readNumber_153 : decode cX6_readNumber 153 = .ok (.ireturn, 1) := by decide +kernel
theorem dX6_readNumber_154 : decode cX6_readNumber 154 = .ok (.aload_n 0, 1) := by decide +kernel
theorem dX6_readNumber_155 : decode cX6_readNumber 155 = .ok (.iload 4, 2) := by decide +kernel
theorem dX6_readNumber_157 : decode cX6_readNumber 157 = .ok (.invokevirtual 184, 3) := by decide +kernel
theorem dX6_readNumber_160 : decode cX6_readNumber 160 = .ok (.ireturn, 1) := by decide +kernel
set_option maxRecDepth 20000 in
theorem ggX6_readBlock_X6_takes : GoodIn wsX6_readBlock wsX6_takes := goodIn_r _ [8, 9, 10, 11, 12, 7, 13, 14, 15, 31, 32, 33, 34, 35, 36, 37, 38, 39, 40, 41, 42, 43, 44, 45, 46, 47, 48, 49] (by decide +kernel) (by decide +kernel)
set_option maxRecDepth 20000 in
theorem gX6_readBlock_X6_takes : GoodIn wsX6_readBlock (wsV RX6 184 RX6 yX6_takes wsX6_takes) := goodIn_app (goodIn_of _ (by decide +kernel)) ggX6_readBlock_X6_takes
set_option maxRecDepth 20000 in
theorem ggX6_readBlock_X6_readNumber : GoodIn wsX6_readBlock wsX6_readNumber := goodIn_r _ [19, 9, 2, 4, 5, 6, 7, 8, 10, 11, 12, 13, 14, 15, 20, 21, 22, 31, 32, 33, 34, 35, 36, 37, 38, 39, 40, 41, 42, 43, 44, 45, 46, 47, 48, 49] (by decide +kernel) (by decide +kernel)
set_option maxRecDepth 20000 in
theorem gX6_readBlock_X6_readNumber : GoodIn wsX6_readBlock (wsV RX6 190 RX6 yX6_readNumber wsX6_readNumber) := goodIn_app (goodIn_of _ (by decide +kernel)) ggX6_readBlock_X6_readNumber
set_option maxRecDepth 20000 in
theorem ggX6_readBlock_X6_build : GoodIn wsX6_readBlock wsX6_build := goodIn_r _ [26, 1, 27, 28, 29, 7, 30, 31, 32, 33, 34, 35, 36, 37, 38, 39, 40, 41, 42, 43, 44, 45, 46, 47, 48, 49] (by decide +kernel) (by decide +kernel)
set_option maxRecDepth 20000 in
theorem gX6_readBlock_X6_build : GoodIn wsX6_readBlock (wsV RX6 118 RX6 yX6_build wsX6_build) := goodIn_app (goodIn_of _ (by decide +kernel)) ggX6_readBlock_X6_build
theorem dX6_readBlock_0 : decode cX6_readBlock 0 = .ok (.aload_n 0, 1) := by decide +kernel
theorem dX6_readBlock_1 : decode cX6_readBlock 1 = .ok (.getfield 7, 3) := by decide +kernel
theorem dX6_readBlock_4 : decode cX6_readBlock 4 = .ok (.iconst 2, 1) := by decide +kernel
theorem dX6_readBlock_5 : decode cX6_readBlock 5 = .ok (.iaload, 1) := by decide +kernel
theorem dX6_readBlock_6 : decode cX6_readBlock 6 = .ok (.bipush 16, 2) := by decide +kernel
theorem dX6_readBlock_8 : decode cX6_readBlock 8 = .ok (.if_icmp .eq 26, 3) := by decide +kernel
theorem dX6_readBlock_11 : decode cX6_readBlock 11 = .ok (.aload_n 0, 1) := by decide +kernel
theorem dX6_readBlock_12 : decode cX6_readBlock 12 = .ok (.bipush 98, 2) := by decide +kernel
theorem dX6_readBlock_14 : decode cX6_readBlock 14 = .ok (.invokevirtual 184, 3) := by decide +kernel
theorem dX6_readBlock_17 : decode cX6_readBlock 17 = .ok (.ifCond .eq 17, 3) := by decide +kernel
theorem dX6_readBlock_20 : decode cX6_readBlock 20 = .ok (.aload_n 0, 1) := by decide +kernel
theorem dX6_readBlock_21 : decode cX6_readBlock 21 = .ok (.iconst 3, 1) := by decide +kernel
theorem dX6_readBlock_22 : decode cX6_readBlock 22 = .ok (.iconst 0, 1) := by decide +kernel
theorem dX6_readBlock_23 : decode cX6_readBlock 23 = .ok (.sipush 400, 3) := by decide +kernel
theorem dX6_readBlock_26 : decode cX6_readBlock 26 = .ok (.bipush 44, 2) := by decide +kernel
theorem dX6_readBlock_28 : decode cX6_readBlock 28 = .ok (.invokevirtual 190, 3) := by decide +kernel
theorem dX6_readBlock_31 : decode cX6_readBlock 31 = .ok (.ifCond .ne 5, 3) := by decide +kernel
theorem dX6_readBlock_34 : decode cX6_readBlock 34 = .ok (.iconst 0, 1) := by decide +kernel
theorem dX6_readBlock_35 : decode cX6_readBlock 35 = .ok (.ireturn, 1) := by decide +kernel
theorem dX6_readBlock_36 : decode cX6_readBlock 36 = .ok (.aload_n 0, 1) := by decide +kernel
theorem dX6_readBlock_37 : decode cX6_readBlock 37 = .ok (.getfield 187, 3) := by decide +kernel
theorem dX6_readBlock_40 : decode cX6_readBlock 40 = .ok (.istore_n 1, 1) := by decide +kernel
theorem dX6_readBlock_41 : decode cX6_readBlock 41 = .ok (.aload_n 0, 1) := by decide +kernel
theorem dX6_readBlock_42 : decode cX6_readBlock 42 = .ok (.iconst 3, 1) := by decide +kernel
theorem dX6_readBlock_43 : decode cX6_readBlock 43 = .ok (.iconst 1, 1) := by decide +kernel
theorem dX6_readBlock_44 : decode cX6_readBlock 44 = .ok (.bipush 100, 2) := by decide +kernel
theorem dX6_readBlock_46 : decode cX6_readBlock 46 = .ok (.bipush 44, 2) := by decide +kernel
theorem dX6_readBlock_48 : decode cX6_readBlock 48 = .ok (.invokevirtual 190, 3) := by decide +kernel
theorem dX6_readBlock_51 : decode cX6_readBlock 51 = .ok (.ifCond .ne 5, 3) := by decide +kernel
theorem dX6_readBlock_54 : decode cX6_readBlock 54 = .ok (.iconst 0, 1) := by decide +kernel
theorem dX6_readBlock_55 : decode cX6_readBlock 55 = .ok (.ireturn, 1) := by decide +kernel
theorem dX6_readBlock_56 : decode cX6_readBlock 56 = .ok (.aload_n 0, 1) := by decide +kernel
theorem dX6_readBlock_57 : decode cX6_readBlock 57 = .ok (.getfield 187, 3) := by decide +kernel
theorem dX6_readBlock_60 : decode cX6_readBlock 60 = .ok (.istore_n 2, 1) := by decide +kernel
theorem dX6_readBlock_61 : decode cX6_readBlock 61 = .ok (.aload_n 0, 1) := by decide +kernel
theorem dX6_readBlock_62 : decode cX6_readBlock 62 = .ok (.iconst 2, 1) := by decide +kernel
theorem dX6_readBlock_63 : decode cX6_readBlock 63 = .ok (.bipush (-50), 2) := by decide +kernel
theorem dX6_readBlock_65 : decode cX6_readBlock 65 = .ok (.bipush 50, 2) := by decide +kernel
theorem dX6_readBlock_67 : decode cX6_readBlock 67 = .ok (.bipush 44, 2) := by decide +kernel
theorem dX6_readBlock_69 : decode cX6_readBlock 69 = .ok (.invokevirtual 190, 3) := by decide +kernel
theorem dX6_readBlock_72 : decode cX6_readBlock 72 = .ok (.ifCond .ne 5, 3) := by decide +kernel
theorem dX6_readBlock_75 : decode cX6_readBlock 75 = .ok (.iconst 0, 1) := by decide +kernel
theorem dX6_readBlock_76 : decode cX6_readBlock 76 = .ok (.ireturn, 1) := by decide +kernel
theorem dX6_readBlock_77 : decode cX6_readBlock 77 = .ok (.aload_n 0, 1) := by decide +kernel
theorem dX6_readBlock_78 : decode cX6_readBlock 78 = .ok (.getfield 187, 3) := by decide +kernel
theorem dX6_readBlock_81 : decode cX6_readBlock 81 = .ok (.istore_n 3, 1) := by decide +kernel
theorem dX6_readBlock_82 : decode cX6_readBlock 82 = .ok (.aload_n 0, 1) := by decide +kernel
theorem dX6_readBlock_83 : decode cX6_readBlock 83 = .ok (.iconst 5, 1) := by decide +kernel
theorem dX6_readBlock_84 : decode cX6_readBlock 84 = .ok (.iconst 1, 1) := by decide +kernel
theorem dX6_readBlock_85 : decode cX6_readBlock 85 = .ok (.ldc 106, 2) := by decide +kernel
theorem dX6_readBlock_87 : decode cX6_readBlock 87 = .ok (.bipush 59, 2) := by decide +kernel
theorem dX6_readBlock_89 : decode cX6_readBlock 89 = .ok (.invokevirtual 190, 3) := by decide +kernel
theorem dX6_readBlock_92 : decode cX6_readBlock 92 = .ok (.ifCond .ne 5, 3) := by decide +kernel
theorem dX6_readBlock_95 : decode cX6_readBlock 95 = .ok (.iconst 0, 1) := by decide +kernel
theorem dX6_readBlock_96 : decode cX6_readBlock 96 = .ok (.ireturn, 1) := by decide +kernel
theorem dX6_readBlock_97 : decode cX6_readBlock 97 = .ok (.aload_n 0, 1) := by decide +kernel
theorem dX6_readBlock_98 : decode cX6_readBlock 98 = .ok (.iload_n 1, 1) := by decide +kernel
theorem dX6_readBlock_99 : decode cX6_readBlock 99 = .ok (.iload_n 2, 1) := by decide +kernel
theorem dX6_readBlock_100 : decode cX6_readBlock 100 = .ok (.iload_n 3, 1) := by decide +kernel
theorem dX6_readBlock_101 : decode cX6_readBlock 101 = .ok (.aload_n 0, 1) := by decide +kernel
theorem dX6_readBlock_102 : decode cX6_readBlock 102 = .ok (.getfield 187, 3) := by decide +kernel
theorem dX6_readBlock_105 : decode cX6_readBlock 105 = .ok (.invokevirtual 118, 3) := by decide +kernel
theorem dX6_readBlock_108 : decode cX6_readBlock 108 = .ok (.iconst 1, 1) := by decide +kernel
theorem dX6_readBlock_109 : decode cX6_readBlock 109 = .ok (.ireturn, 1) := by decide +kernel
set_option maxRecDepth 20000 in
theorem ggX6_readShip_X6_takes : GoodIn wsX6_readShip wsX6_takes := goodIn_r _ [8, 9, 10, 11, 12, 7, 13, 14, 15, 23, 24, 25, 26, 27, 28, 29, 30, 31, 32, 33, 34, 35, 36, 37, 38, 39, 40, 41] (by decide +kernel) (by decide +kernel)
set_option maxRecDepth 20000 in
theorem gX6_readShip_X6_takes : GoodIn wsX6_readShip (wsV RX6 184 RX6 yX6_takes wsX6_takes) := goodIn_app (goodIn_of _ (by decide +kernel)) ggX6_readShip_X6_takes
set_option maxRecDepth 20000 in
theorem ggX6_readShip_X6_readNumber : GoodIn wsX6_readShip wsX6_readNumber := goodIn_r _ [19, 9, 2, 4, 5, 6, 7, 8, 10, 11, 12, 13, 14, 15, 20, 21, 22, 23, 24, 25, 26, 27, 28, 29, 30, 31, 32, 33, 34, 35, 36, 37, 38, 39, 40, 41] (by decide +kernel) (by decide +kernel)
set_option maxRecDepth 20000 in
theorem gX6_readShip_X6_readNumber : GoodIn wsX6_readShip (wsV RX6 190 RX6 yX6_readNumber wsX6_readNumber) := goodIn_app (goodIn_of _ (by decide +kernel)) ggX6_readShip_X6_readNumber
theorem dX6_readShip_0 : decode cX6_readShip 0 = .ok (.aload_n 0, 1) := by decide +kernel
theorem dX6_readShip_1 : decode cX6_readShip 1 = .ok (.bipush 115, 2) := by decide +kernel
theorem dX6_readShip_3 : decode cX6_readShip 3 = .ok (.invokevirtual 184, 3) := by decide +kernel
theorem dX6_readShip_6 : decode cX6_readShip 6 = .ok (.ifCond .eq 17, 3) := by decide +kernel
theorem dX6_readShip_9 : decode cX6_readShip 9 = .ok (.aload_n 0, 1) := by decide +kernel
theorem dX6_readShip_10 : decode cX6_readShip 10 = .ok (.bipush 6, 2) := by decide +kernel
theorem dX6_readShip_12 : decode cX6_readShip 12 = .ok (.iconst 1, 1) := by decide +kernel
theorem dX6_readShip_13 : decode cX6_readShip 13 = .ok (.ldc 129, 2) := by decide +kernel
theorem dX6_readShip_15 : decode cX6_readShip 15 = .ok (.bipush 44, 2) := by decide +kernel
theorem dX6_readShip_17 : decode cX6_readShip 17 = .ok (.invokevirtual 190, 3) := by decide +kernel
theorem dX6_readShip_20 : decode cX6_readShip 20 = .ok (.ifCond .ne 5, 3) := by decide +kernel
theorem dX6_readShip_23 : decode cX6_readShip 23 = .ok (.iconst 0, 1) := by decide +kernel
theorem dX6_readShip_24 : decode cX6_readShip 24 = .ok (.ireturn, 1) := by decide +kernel
theorem dX6_readShip_25 : decode cX6_readShip 25 = .ok (.aload_n 0, 1) := by decide +kernel
theorem dX6_readShip_26 : decode cX6_readShip 26 = .ok (.getfield 187, 3) := by decide +kernel
theorem dX6_readShip_29 : decode cX6_readShip 29 = .ok (.istore_n 1, 1) := by decide +kernel
theorem dX6_readShip_30 : decode cX6_readShip 30 = .ok (.aload_n 0, 1) := by decide +kernel
theorem dX6_readShip_31 : decode cX6_readShip 31 = .ok (.iconst 3, 1) := by decide +kernel
theorem dX6_readShip_32 : decode cX6_readShip 32 = .ok (.iconst 0, 1) := by decide +kernel
theorem dX6_readShip_33 : decode cX6_readShip 33 = .ok (.sipush 400, 3) := by decide +kernel
theorem dX6_readShip_36 : decode cX6_readShip 36 = .ok (.bipush 59, 2) := by decide +kernel
theorem dX6_readShip_38 : decode cX6_readShip 38 = .ok (.invokevirtual 190, 3) := by decide +kernel
theorem dX6_readShip_41 : decode cX6_readShip 41 = .ok (.ifCond .ne 5, 3) := by decide +kernel
theorem dX6_readShip_44 : decode cX6_readShip 44 = .ok (.iconst 0, 1) := by decide +kernel
theorem dX6_readShip_45 : decode cX6_readShip 45 = .ok (.ireturn, 1) := by decide +kernel
theorem dX6_readShip_46 : decode cX6_readShip 46 = .ok (.aload_n 0, 1) := by decide +kernel
theorem dX6_readShip_47 : decode cX6_readShip 47 = .ok (.getfield 7, 3) := by decide +kernel
theorem dX6_readShip_50 : decode cX6_readShip 50 = .ok (.iconst 0, 1) := by decide +kernel
theorem dX6_readShip_51 : decode cX6_readShip 51 = .ok (.iload_n 1, 1) := by decide +kernel
theorem dX6_readShip_52 : decode cX6_readShip 52 = .ok (.iastore, 1) := by decide +kernel
theorem dX6_readShip_53 : decode cX6_readShip 53 = .ok (.aload_n 0, 1) := by decide +kernel
theorem dX6_readShip_54 : decode cX6_readShip 54 = .ok (.getfield 7, 3) := by decide +kernel
theorem dX6_readShip_57 : decode cX6_readShip 57 = .ok (.iconst 1, 1) := by decide +kernel
theorem dX6_readShip_58 : decode cX6_readShip 58 = .ok (.aload_n 0, 1) := by decide +kernel
theorem dX6_readShip_59 : decode cX6_readShip 59 = .ok (.getfield 187, 3) := by decide +kernel
theorem dX6_readShip_62 : decode cX6_readShip 62 = .ok (.iastore, 1) := by decide +kernel
theorem dX6_readShip_63 : decode cX6_readShip 63 = .ok (.iconst 1, 1) := by decide +kernel
theorem dX6_readShip_64 : decode cX6_readShip 64 = .ok (.ireturn, 1) := by decide +kernel
set_option maxRecDepth 20000 in
theorem ggX6_readAll_X6_here : GoodIn wsX6_readAll wsX6_here := goodIn_r _ [8, 1, 3, 9, 40, 41, 42, 43, 44, 45, 46, 47, 48, 49, 50, 51, 52, 53, 54, 55, 56, 57, 58] (by decide +kernel) (by decide +kernel)
set_option maxRecDepth 20000 in
theorem gX6_readAll_X6_here : GoodIn wsX6_readAll (wsV RX6 181 RX6 yX6_here wsX6_here) := goodIn_app (goodIn_of _ (by decide +kernel)) ggX6_readAll_X6_here
set_option maxRecDepth 20000 in
theorem ggX6_readAll_X6_readShip : GoodIn wsX6_readAll wsX6_readShip := goodIn_r _ [13, 14, 15, 2, 16, 17, 18, 7, 19, 1, 4, 5, 6, 8, 3, 9, 20, 21, 22, 23, 24, 25, 26, 40, 41, 42, 43, 44, 45, 46, 47, 48, 49, 50, 51, 52, 53, 54, 55, 56, 57, 58] (by decide +kernel) (by decide +kernel)
set_option maxRecDepth 20000 in
theorem gX6_readAll_X6_readShip : GoodIn wsX6_readAll (wsV RX6 193 RX6 yX6_readShip wsX6_readShip) := goodIn_app (goodIn_of _ (by decide +kernel)) ggX6_readAll_X6_readShip
set_option maxRecDepth 20000 in
theorem ggX6_readAll_X6_readBlock : GoodIn wsX6_readAll wsX6_readBlock := goodIn_r _ [30, 2, 15, 31, 16, 17, 18, 7, 19, 1, 4, 5, 6, 8, 3, 9, 20, 21, 22, 23, 24, 25, 26, 32, 33, 34, 35, 36, 37, 38, 39, 40, 41, 42, 43, 44, 45, 46, 47, 48, 49, 50, 51, 52, 53, 54, 55, 56, 57, 58] (by decide +kernel) (by decide +kernel)
set_option maxRecDepth 20000 in
theorem gX6_readAll_X6_readBlock : GoodIn wsX6_readAll (wsV RX6 196 RX6 yX6_readBlock wsX6_readBlock) := goodIn_app (goodIn_of _ (by decide +kernel)) ggX6_readAll_X6_readBlock
theorem dX6_readAll_0 : decode cX6_readAll 0 = .ok (.aload_n 0, 1) := by decide +kernel
theorem dX6_readAll_1 : decode cX6_readAll 1 = .ok (.iconst 0, 1) := by decide +kernel
theorem dX6_readAll_2 : decode cX6_readAll 2 = .ok (.putfield 178, 3) := by decide +kernel
theorem dX6_readAll_5 : decode cX6_readAll 5 = .ok (.aload_n 0, 1) := by decide +kernel
theorem dX6_readAll_6 : decode cX6_readAll 6 = .ok (.getfield 7, 3) := by decide +kernel
theorem dX6_readAll_9 : decode cX6_readAll 9 = .ok (.iconst 2, 1) := by decide +kernel
theorem dX6_readAll_10 : decode cX6_readAll 10 = .ok (.iconst 0, 1) := by decide +kernel
theorem dX6_readAll_11 : decode cX6_readAll 11 = .ok (.iastore, 1) := by decide +kernel
theorem dX6_readAll_12 : decode cX6_readAll 12 = .ok (.iconst 1, 1) := by decide +kernel
theorem dX6_readAll_13 : decode cX6_readAll 13 = .ok (.istore_n 1, 1) := by decide +kernel
theorem dX6_readAll_14 : decode cX6_readAll 14 = .ok (.iload_n 1, 1) := by decide +kernel
theorem dX6_readAll_15 : decode cX6_readAll 15 = .ok (.ifCond .eq 38, 3) := by decide +kernel
theorem dX6_readAll_18 : decode cX6_readAll 18 = .ok (.aload_n 0, 1) := by decide +kernel
theorem dX6_readAll_19 : decode cX6_readAll 19 = .ok (.getfield 178, 3) := by decide +kernel
theorem dX6_readAll_22 : decode cX6_readAll 22 = .ok (.aload_n 0, 1) := by decide +kernel
theorem dX6_readAll_23 : decode cX6_readAll 23 = .ok (.getfield 175, 3) := by decide +kernel
theorem dX6_readAll_26 : decode cX6_readAll 26 = .ok (.if_icmp .ge 27, 3) := by decide +kernel
theorem dX6_readAll_29 : decode cX6_readAll 29 = .ok (.aload_n 0, 1) := by decide +kernel
theorem dX6_readAll_30 : decode cX6_readAll 30 = .ok (.invokevirtual 181, 3) := by decide +kernel
theorem dX6_readAll_33 : decode cX6_readAll 33 = .ok (.bipush 115, 2) := by decide +kernel
theorem dX6_readAll_35 : decode cX6_readAll 35 = .ok (.if_icmp .ne 10, 3) := by decide +kernel
theorem dX6_readAll_38 : decode cX6_readAll 38 = .ok (.aload_n 0, 1) := by decide +kernel
theorem dX6_readAll_39 : decode cX6_readAll 39 = .ok (.invokevirtual 193, 3) := by decide +kernel
theorem dX6_readAll_42 : decode cX6_readAll 42 = .ok (.goto 7, 3) := by decide +kernel
theorem dX6_readAll_45 : decode cX6_readAll 45 = .ok (.aload_n 0, 1) := by decide +kernel
theorem dX6_readAll_46 : decode cX6_readAll 46 = .ok (.invokevirtual 196, 3) := by decide +kernel
theorem dX6_readAll_49 : decode cX6_readAll 49 = .ok (.istore_n 1, 1) := by decide +kernel
theorem dX6_readAll_50 : decode cX6_readAll 50 = .ok (.goto (-36), 3) := by decide +kernel
theorem dX6_readAll_53 : decode cX6_readAll 53 = .ok (.iload_n 1, 1) := by decide +kernel
theorem dX6_readAll_54 : decode cX6_readAll 54 = .ok (.ireturn, 1) := by decide +kernel
set_option maxRecDepth 20000 in
theorem ggX6_parse_X6_bring : GoodIn wsX6_parse wsX6_bring := goodIn_r _ [8] (by decide +kernel) (by decide +kernel)
set_option maxRecDepth 20000 in
theorem gX6_parse_X6_bring : GoodIn wsX6_parse (va_wsS RX6 36 yX6_bring wsX6_bring) := goodIn_app (goodIn_of _ (by decide +kernel)) ggX6_parse_X6_bring
set_option maxRecDepth 20000 in
theorem ggX6_parse_X6_readAll : GoodIn wsX6_parse wsX6_readAll := goodIn_r _ [12, 4, 2, 13, 14, 15, 16, 7, 17, 18, 19, 20, 21, 22, 23, 24, 25, 26, 27, 28, 29, 30, 31, 32, 33, 34, 35, 36, 37, 38, 39, 40, 41, 42, 43, 44, 45, 46, 47, 48, 55, 56, 57, 58, 59, 60, 61, 62, 63, 64, 65, 66, 67, 68, 69, 70, 71, 72, 73] (by decide +kernel) (by decide +kernel)
set_option maxRecDepth 20000 in
theorem gX6_parse_X6_readAll : GoodIn wsX6_parse (wsV RX6 199 RX6 yX6_readAll wsX6_readAll) := goodIn_app (goodIn_of _ (by decide +kernel)) ggX6_parse_X6_readAll
set_option maxRecDepth 20000 in
theorem ggX6_parse_X6_keep : GoodIn wsX6_parse wsX6_keep := goodIn_r _ [52, 53, 54, 2, 5, 6, 7, 8, 55, 56, 57, 58, 59, 60, 61, 62, 63, 64, 65, 66, 67, 68, 69, 70, 71, 72, 73] (by decide +kernel) (by decide +kernel)
set_option maxRecDepth 20000 in
theorem gX6_parse_X6_keep : GoodIn wsX6_parse (wsV RX6 115 RX6 yX6_keep wsX6_keep) := goodIn_app (goodIn_of _ (by decide +kernel)) ggX6_parse_X6_keep
theorem dX6_parse_0 : decode cX6_parse 0 = .ok (.aload_n 0, 1) := by decide +kernel
theorem dX6_parse_1 : decode cX6_parse 1 = .ok (.iconst 0, 1) := by decide +kernel
theorem dX6_parse_2 : decode cX6_parse 2 = .ok (.putfield 29, 3) := by decide +kernel
theorem dX6_parse_5 : decode cX6_parse 5 = .ok (.aload_n 0, 1) := by decide +kernel
theorem dX6_parse_6 : decode cX6_parse 6 = .ok (.getfield 7, 3) := by decide +kernel
theorem dX6_parse_9 : decode cX6_parse 9 = .ok (.iconst 0, 1) := by decide +kernel
theorem dX6_parse_10 : decode cX6_parse 10 = .ok (.aload_n 0, 1) := by decide +kernel
theorem dX6_parse_11 : decode cX6_parse 11 = .ok (.getfield 13, 3) := by decide +kernel
theorem dX6_parse_14 : decode cX6_parse 14 = .ok (.iconst 0, 1) := by decide +kernel
theorem dX6_parse_15 : decode cX6_parse 15 = .ok (.invokestatic 36, 3) := by decide +kernel
theorem dX6_parse_18 : decode cX6_parse 18 = .ok (.aload_n 0, 1) := by decide +kernel
theorem dX6_parse_19 : decode cX6_parse 19 = .ok (.invokevirtual 199, 3) := by decide +kernel
theorem dX6_parse_22 : decode cX6_parse 22 = .ok (.istore_n 1, 1) := by decide +kernel
theorem dX6_parse_23 : decode cX6_parse 23 = .ok (.aload_n 0, 1) := by decide +kernel
theorem dX6_parse_24 : decode cX6_parse 24 = .ok (.getfield 13, 3) := by decide +kernel
theorem dX6_parse_27 : decode cX6_parse 27 = .ok (.iconst 0, 1) := by decide +kernel
theorem dX6_parse_28 : decode cX6_parse 28 = .ok (.aload_n 0, 1) := by decide +kernel
theorem dX6_parse_29 : decode cX6_parse 29 = .ok (.getfield 7, 3) := by decide +kernel
theorem dX6_parse_32 : decode cX6_parse 32 = .ok (.iconst 0, 1) := by decide +kernel
theorem dX6_parse_33 : decode cX6_parse 33 = .ok (.invokestatic 36, 3) := by decide +kernel
theorem dX6_parse_36 : decode cX6_parse 36 = .ok (.iload_n 1, 1) := by decide +kernel
theorem dX6_parse_37 : decode cX6_parse 37 = .ok (.ifCond .ne 11, 3) := by decide +kernel
theorem dX6_parse_40 : decode cX6_parse 40 = .ok (.bipush (-10), 2) := by decide +kernel
theorem dX6_parse_42 : decode cX6_parse 42 = .ok (.aload_n 0, 1) := by decide +kernel
theorem dX6_parse_43 : decode cX6_parse 43 = .ok (.getfield 178, 3) := by decide +kernel
theorem dX6_parse_46 : decode cX6_parse 46 = .ok (.isub, 1) := by decide +kernel
theorem dX6_parse_47 : decode cX6_parse 47 = .ok (.ireturn, 1) := by decide +kernel
theorem dX6_parse_48 : decode cX6_parse 48 = .ok (.aload_n 0, 1) := by decide +kernel
theorem dX6_parse_49 : decode cX6_parse 49 = .ok (.invokevirtual 115, 3) := by decide +kernel
theorem dX6_parse_52 : decode cX6_parse 52 = .ok (.aload_n 0, 1) := by decide +kernel
theorem dX6_parse_53 : decode cX6_parse 53 = .ok (.invokevirtual 199, 3) := by decide +kernel
theorem dX6_parse_56 : decode cX6_parse 56 = .ok (.istore_n 1, 1) := by decide +kernel
theorem dX6_parse_57 : decode cX6_parse 57 = .ok (.aload_n 0, 1) := by decide +kernel
theorem dX6_parse_58 : decode cX6_parse 58 = .ok (.getfield 7, 3) := by decide +kernel
theorem dX6_parse_61 : decode cX6_parse 61 = .ok (.iconst 2, 1) := by decide +kernel
theorem dX6_parse_62 : decode cX6_parse 62 = .ok (.iaload, 1) := by decide +kernel
theorem dX6_parse_63 : decode cX6_parse 63 = .ok (.ireturn, 1) := by decide +kernel
set_option maxRecDepth 20000 in
theorem ggX6_undo_X6_bring : GoodIn wsX6_undo wsX6_bring := goodIn_r _ [8] (by decide +kernel) (by decide +kernel)
set_option maxRecDepth 20000 in
theorem gX6_undo_X6_bring : GoodIn wsX6_undo (va_wsS RX6 36 yX6_bring wsX6_bring) := goodIn_app (goodIn_of _ (by decide +kernel)) ggX6_undo_X6_bring
theorem dX6_undo_0 : decode cX6_undo 0 = .ok (.aload_n 0, 1) := by decide +kernel
theorem dX6_undo_1 : decode cX6_undo 1 = .ok (.aload_n 0, 1) := by decide +kernel
theorem dX6_undo_2 : decode cX6_undo 2 = .ok (.getfield 33, 3) := by decide +kernel
theorem dX6_undo_5 : decode cX6_undo 5 = .ok (.ifCond .ne 7, 3) := by decide +kernel
theorem dX6_undo_8 : decode cX6_undo 8 = .ok (.iconst 1, 1) := by decide +kernel
theorem dX6_undo_9 : decode cX6_undo 9 = .ok (.goto 4, 3) := by decide +kernel
theorem dX6_undo_12 : decode cX6_undo 12 = .ok (.iconst 0, 1) := by decide +kernel
theorem dX6_undo_13 : decode cX6_undo 13 = .ok (.putfield 29, 3) := by decide +kernel
theorem dX6_undo_16 : decode cX6_undo 16 = .ok (.aload_n 0, 1) := by decide +kernel
theorem dX6_undo_17 : decode cX6_undo 17 = .ok (.getfield 29, 3) := by decide +kernel
theorem dX6_undo_20 : decode cX6_undo 20 = .ok (.ifCond .eq 5, 3) := by decide +kernel
theorem dX6_undo_23 : decode cX6_undo 23 = .ok (.iconst 0, 1) := by decide +kernel
theorem dX6_undo_24 : decode cX6_undo 24 = .ok (.ireturn, 1) := by decide +kernel
theorem dX6_undo_25 : decode cX6_undo 25 = .ok (.aload_n 0, 1) := by decide +kernel
theorem dX6_undo_26 : decode cX6_undo 26 = .ok (.dup, 1) := by decide +kernel
theorem dX6_undo_27 : decode cX6_undo 27 = .ok (.getfield 33, 3) := by decide +kernel
theorem dX6_undo_30 : decode cX6_undo 30 = .ok (.iconst 1, 1) := by decide +kernel
theorem dX6_undo_31 : decode cX6_undo 31 = .ok (.isub, 1) := by decide +kernel
theorem dX6_undo_32 : decode cX6_undo 32 = .ok (.putfield 33, 3) := by decide +kernel
theorem dX6_undo_35 : decode cX6_undo 35 = .ok (.aload_n 0, 1) := by decide +kernel
theorem dX6_undo_36 : decode cX6_undo 36 = .ok (.getfield 16, 3) := by decide +kernel
theorem dX6_undo_39 : decode cX6_undo 39 = .ok (.bipush 99, 2) := by decide +kernel
theorem dX6_undo_41 : decode cX6_undo 41 = .ok (.aload_n 0, 1) := by decide +kernel
theorem dX6_undo_42 : decode cX6_undo 42 = .ok (.getfield 33, 3) := by decide +kernel
theorem dX6_undo_45 : decode cX6_undo 45 = .ok (.imul, 1) := by decide +kernel
theorem dX6_undo_46 : decode cX6_undo 46 = .ok (.aload_n 0, 1) := by decide +kernel
theorem dX6_undo_47 : decode cX6_undo 47 = .ok (.getfield 7, 3) := by decide +kernel
theorem dX6_undo_50 : decode cX6_undo 50 = .ok (.iconst 0, 1) := by decide +kernel
theorem dX6_undo_51 : decode cX6_undo 51 = .ok (.invokestatic 36, 3) := by decide +kernel
theorem dX6_undo_54 : decode cX6_undo 54 = .ok (.aload_n 0, 1) := by decide +kernel
theorem dX6_undo_55 : decode cX6_undo 55 = .ok (.getfield 33, 3) := by decide +kernel
theorem dX6_undo_58 : decode cX6_undo 58 = .ok (.ireturn, 1) := by decide +kernel
theorem dX6_mix_0 : decode cX6_mix 0 = .ok (.aload_n 0, 1) := by decide +kernel
theorem dX6_mix_1 : decode cX6_mix 1 = .ok (.ldc2_w 202, 3) := by decide +kernel
theorem dX6_mix_4 : decode cX6_mix 4 = .ok (.aload_n 0, 1) := by decide +kernel
theorem dX6_mix_5 : decode cX6_mix 5 = .ok (.getfield 204, 3) := by decide +kernel
theorem dX6_mix_8 : decode cX6_mix 8 = .ok (.lmul, 1) := by decide +kernel
theorem dX6_mix_9 : decode cX6_mix 9 = .ok (.lload_n 1, 1) := by decide +kernel
theorem dX6_mix_10 : decode cX6_mix 10 = .ok (.ladd, 1) := by decide +kernel
theorem dX6_mix_11 : decode cX6_mix 11 = .ok (.putfield 204, 3) := by decide +kernel
theorem dX6_mix_14 : decode cX6_mix 14 = .ok (.return_, 1) := by decide +kernel
set_option maxRecDepth 20000 in
theorem ggX6_digest_X6_settle : GoodIn wsX6_digest wsX6_settle := goodIn_r _ [11, 12, 13, 14, 15, 16, 17, 18, 10, 19, 5, 20, 21, 22, 23, 24, 25, 26, 27, 28, 29, 30, 31, 32, 33, 34, 35, 36, 37, 38, 39, 40, 41, 42, 43, 44, 45, 46, 47, 88, 89, 90, 91, 92, 93, 94, 95, 96, 97, 98, 99, 100, 101, 102, 103, 104, 105, 106] (by decide +kernel) (by decide +kernel)
set_option maxRecDepth 20000 in
theorem gX6_digest_X6_settle : GoodIn wsX6_digest (wsV RX6 133 RX6 yX6_settle wsX6_settle) := goodIn_app (goodIn_of _ (by decide +kernel)) ggX6_digest_X6_settle
set_option maxRecDepth 20000 in
theorem ggX6_digest_X6_mix : GoodIn wsX6_digest wsX6_mix := goodIn_r _ [51, 52, 3, 88, 89, 90, 91, 92, 93, 94, 95, 96, 97, 98, 99, 100, 101, 102, 103, 104, 105, 106] (by decide +kernel) (by decide +kernel)
set_option maxRecDepth 20000 in
theorem gX6_digest_X6_mix : GoodIn wsX6_digest (wsV RX6 209 RX6 yX6_mix wsX6_mix) := goodIn_app (goodIn_of _ (by decide +kernel)) ggX6_digest_X6_mix
set_option maxRecDepth 20000 in
theorem ggX6_digest_X6_valueOf : GoodIn wsX6_digest wsX6_valueOf := goodIn_r _ [56, 14, 12, 13, 5, 16, 17, 18, 10, 19, 20, 21, 22, 23, 57, 58, 59, 60, 61, 62, 63, 64, 65, 66, 67, 15, 68, 69, 70, 71, 72, 73, 74, 75, 88, 89, 90, 91, 92, 93, 94, 95, 96, 97, 98, 99, 100, 101, 102, 103, 104, 105, 106] (by decide +kernel) (by decide +kernel)
set_option maxRecDepth 20000 in
theorem gX6_digest_X6_valueOf : GoodIn wsX6_digest (wsV RX6 166 RX6 yX6_valueOf wsX6_valueOf) := goodIn_app (goodIn_of _ (by decide +kernel)) ggX6_digest_X6_valueOf
set_option maxRecDepth 20000 in
theorem ggX6_digest_X6_balanceOf : GoodIn wsX6_digest wsX6_balanceOf := goodIn_r _ [79, 14, 29, 30, 28, 88, 89, 90, 91, 92, 93, 94, 95, 96, 97, 98, 99, 100, 101, 102, 103, 104, 105, 106] (by decide +kernel) (by decide +kernel)
set_option maxRecDepth 20000 in
theorem gX6_digest_X6_balanceOf : GoodIn wsX6_digest (wsV RX6 169 RX6 yX6_balanceOf wsX6_balanceOf) := goodIn_app (goodIn_of _ (by decide +kernel)) ggX6_digest_X6_balanceOf
set_option maxRecDepth 20000 in
theorem ggX6_digest_X6_blockOf : GoodIn wsX6_digest wsX6_blockOf := goodIn_r _ [83, 15, 84, 85, 86, 10, 87, 14, 12, 31, 32, 33, 64, 65, 66, 67, 20, 21, 22, 23, 5, 88, 89, 90, 91, 92, 93, 94, 95, 96, 97, 98, 99, 100, 101, 102, 103, 104, 105, 106] (by decide +kernel) (by decide +kernel)
set_option maxRecDepth 20000 in
theorem gX6_digest_X6_blockOf : GoodIn wsX6_digest (wsV RX6 163 RX6 yX6_blockOf wsX6_blockOf) := goodIn_app (goodIn_of _ (by decide +kernel)) ggX6_digest_X6_blockOf
theorem dX6_digest_0 : decode cX6_digest 0 = .ok (.aload_n 0, 1) := by decide +kernel
theorem dX6_digest_1 : decode cX6_digest 1 = .ok (.iconst 0, 1) := by decide +kernel
theorem dX6_digest_2 : decode cX6_digest 2 = .ok (.putfield 29, 3) := by decide +kernel
theorem dX6_digest_5 : decode cX6_digest 5 = .ok (.aload_n 0, 1) := by decide +kernel
theorem dX6_digest_6 : decode cX6_digest 6 = .ok (.invokevirtual 133, 3) := by decide +kernel
theorem dX6_digest_9 : decode cX6_digest 9 = .ok (.aload_n 0, 1) := by decide +kernel
theorem dX6_digest_10 : decode cX6_digest 10 = .ok (.ldc2_w 207, 3) := by decide +kernel
theorem dX6_digest_13 : decode cX6_digest 13 = .ok (.putfield 204, 3) := by decide +kernel
theorem dX6_digest_16 : decode cX6_digest 16 = .ok (.aload_n 0, 1) := by decide +kernel
theorem dX6_digest_17 : decode cX6_digest 17 = .ok (.aload_n 0, 1) := by decide +kernel
theorem dX6_digest_18 : decode cX6_digest 18 = .ok (.getfield 175, 3) := by decide +kernel
theorem dX6_digest_21 : decode cX6_digest 21 = .ok (.i2l, 1) := by decide +kernel
theorem dX6_digest_22 : decode cX6_digest 22 = .ok (.invokevirtual 209, 3) := by decide +kernel
theorem dX6_digest_25 : decode cX6_digest 25 = .ok (.iconst 0, 1) := by decide +kernel
theorem dX6_digest_26 : decode cX6_digest 26 = .ok (.istore_n 1, 1) := by decide +kernel
theorem dX6_digest_27 : decode cX6_digest 27 = .ok (.iload_n 1, 1) := by decide +kernel
theorem dX6_digest_28 : decode cX6_digest 28 = .ok (.bipush 10, 2) := by decide +kernel
theorem dX6_digest_30 : decode cX6_digest 30 = .ok (.if_icmp .ge 19, 3) := by decide +kernel
theorem dX6_digest_33 : decode cX6_digest 33 = .ok (.aload_n 0, 1) := by decide +kernel
theorem dX6_digest_34 : decode cX6_digest 34 = .ok (.aload_n 0, 1) := by decide +kernel
theorem dX6_digest_35 : decode cX6_digest 35 = .ok (.iload_n 1, 1) := by decide +kernel
theorem dX6_digest_36 : decode cX6_digest 36 = .ok (.invokevirtual 166, 3) := by decide +kernel
theorem dX6_digest_39 : decode cX6_digest 39 = .ok (.i2l, 1) := by decide +kernel
theorem dX6_digest_40 : decode cX6_digest 40 = .ok (.invokevirtual 209, 3) := by decide +kernel
theorem dX6_digest_43 : decode cX6_digest 43 = .ok (.iinc 1 1, 3) := by decide +kernel
theorem dX6_digest_46 : decode cX6_digest 46 = .ok (.goto (-19), 3) := by decide +kernel
theorem dX6_digest_49 : decode cX6_digest 49 = .ok (.iconst 0, 1) := by decide +kernel
theorem dX6_digest_50 : decode cX6_digest 50 = .ok (.istore_n 1, 1) := by decide +kernel
theorem dX6_digest_51 : decode cX6_digest 51 = .ok (.iload_n 1, 1) := by decide +kernel
theorem dX6_digest_52 : decode cX6_digest 52 = .ok (.iconst 3, 1) := by decide +kernel
theorem dX6_digest_53 : decode cX6_digest 53 = .ok (.if_icmp .ge 18, 3) := by decide +kernel
theorem dX6_digest_56 : decode cX6_digest 56 = .ok (.aload_n 0, 1) := by decide +kernel
theorem dX6_digest_57 : decode cX6_digest 57 = .ok (.aload_n 0, 1) := by decide +kernel
theorem dX6_digest_58 : decode cX6_digest 58 = .ok (.iload_n 1, 1) := by decide +kernel
theorem dX6_digest_59 : decode cX6_digest 59 = .ok (.invokevirtual 169, 3) := by decide +kernel
theorem dX6_digest_62 : decode cX6_digest 62 = .ok (.invokevirtual 209, 3) := by decide +kernel
theorem dX6_digest_65 : decode cX6_digest 65 = .ok (.iinc 1 1, 3) := by decide +kernel
theorem dX6_digest_68 : decode cX6_digest 68 = .ok (.goto (-17), 3) := by decide +kernel
theorem dX6_digest_71 : decode cX6_digest 71 = .ok (.iconst 0, 1) := by decide +kernel
theorem dX6_digest_72 : decode cX6_digest 72 = .ok (.istore_n 1, 1) := by decide +kernel
theorem dX6_digest_73 : decode cX6_digest 73 = .ok (.iload_n 1, 1) := by decide +kernel
theorem dX6_digest_74 : decode cX6_digest 74 = .ok (.bipush 9, 2) := by decide +kernel
theorem dX6_digest_76 : decode cX6_digest 76 = .ok (.aload_n 0, 1) := by decide +kernel
theorem dX6_digest_77 : decode cX6_digest 77 = .ok (.getfield 7, 3) := by decide +kernel
theorem dX6_digest_80 : decode cX6_digest 80 = .ok (.iconst 2, 1) := by decide +kernel
theorem dX6_digest_81 : decode cX6_digest 81 = .ok (.iaload, 1) := by decide +kernel
theorem dX6_digest_82 : decode cX6_digest 82 = .ok (.imul, 1) := by decide +kernel
theorem dX6_digest_83 : decode cX6_digest 83 = .ok (.if_icmp .ge 26, 3) := by decide +kernel
theorem dX6_digest_86 : decode cX6_digest 86 = .ok (.aload_n 0, 1) := by decide +kernel
theorem dX6_digest_87 : decode cX6_digest 87 = .ok (.aload_n 0, 1) := by decide +kernel
theorem dX6_digest_88 : decode cX6_digest 88 = .ok (.iload_n 1, 1) := by decide +kernel
theorem dX6_digest_89 : decode cX6_digest 89 = .ok (.bipush 9, 2) := by decide +kernel
theorem dX6_digest_91 : decode cX6_digest 91 = .ok (.idiv, 1) := by decide +kernel
theorem dX6_digest_92 : decode cX6_digest 92 = .ok (.iload_n 1, 1) := by decide +kernel
theorem dX6_digest_93 : decode cX6_digest 93 = .ok (.bipush 9, 2) := by decide +kernel
theorem dX6_digest_95 : decode cX6_digest 95 = .ok (.irem, 1) := by decide +kernel
theorem dX6_digest_96 : decode cX6_digest 96 = .ok (.invokevirtual 163, 3) := by decide +kernel
theorem dX6_digest_99 : decode cX6_digest 99 = .ok (.i2l, 1) := by decide +kernel
theorem dX6_digest_100 : decode cX6_digest 100 = .ok (.invokevirtual 209, 3) := by decide +kernel
theorem dX6_digest_103 : decode cX6_digest 103 = .ok (.iinc 1 1, 3) := by decide +kernel
theorem dX6_digest_106 : decode cX6_digest 106 = .ok (.goto (-33), 3) := by decide +kernel
theorem dX6_digest_109 : decode cX6_digest 109 = .ok (.aload_n 0, 1) := by decide +kernel
theorem dX6_digest_110 : decode cX6_digest 110 = .ok (.aload_n 0, 1) := by decide +kernel
theorem dX6_digest_111 : decode cX6_digest 111 = .ok (.getfield 33, 3) := by decide +kernel
theorem dX6_digest_114 : decode cX6_digest 114 = .ok (.i2l, 1) := by decide +kernel
theorem dX6_digest_115 : decode cX6_digest 115 = .ok (.invokevirtual 209, 3) := by decide +kernel
theorem dX6_digest_118 : decode cX6_digest 118 = .ok (.aload_n 0, 1) := by decide +kernel
theorem dX6_digest_119 : decode cX6_digest 119 = .ok (.getfield 204, 3) := by decide +kernel
theorem dX6_digest_122 : decode cX6_digest 122 = .ok (.lreturn, 1) := by decide +kernel
theorem dJ6_bitCount_0f7a4_0 : decode cJ6_bitCount_0f7a4 0 = .ok (.iload_n 0, 1) := by decide +kernel
theorem dJ6_bitCount_0f7a4_1 : decode cJ6_bitCount_0f7a4 1 = .ok (.iload_n 0, 1) := by decide +kernel
theorem dJ6_bitCount_0f7a4_2 : decode cJ6_bitCount_0f7a4 2 = .ok (.iconst 1, 1) := by decide +kernel
theorem dJ6_bitCount_0f7a4_3 : decode cJ6_bitCount_0f7a4 3 = .ok (.iushr, 1) := by decide +kernel
theorem dJ6_bitCount_0f7a4_4 : decode cJ6_bitCount_0f7a4 4 = .ok (.ldc_w 265, 3) := by decide +kernel
theorem dJ6_bitCount_0f7a4_7 : decode cJ6_bitCount_0f7a4 7 = .ok (.iand, 1) := by decide +kernel
theorem dJ6_bitCount_0f7a4_8 : decode cJ6_bitCount_0f7a4 8 = .ok (.isub, 1) := by decide +kernel
theorem dJ6_bitCount_0f7a4_9 : decode cJ6_bitCount_0f7a4 9 = .ok (.istore_n 0, 1) := by decide +kernel
theorem dJ6_bitCount_0f7a4_10 : decode cJ6_bitCount_0f7a4 10 = .ok (.iload_n 0, 1) := by decide +kernel
theorem dJ6_bitCount_0f7a4_11 : decode cJ6_bitCount_0f7a4 11 = .ok (.ldc_w 266, 3) := by decide +kernel
theorem dJ6_bitCount_0f7a4_14 : decode cJ6_bitCount_0f7a4 14 = .ok (.iand, 1) := by decide +kernel
theorem dJ6_bitCount_0f7a4_15 : decode cJ6_bitCount_0f7a4 15 = .ok (.iload_n 0, 1) := by decide +kernel
theorem dJ6_bitCount_0f7a4_16 : decode cJ6_bitCount_0f7a4 16 = .ok (.iconst 2, 1) := by decide +kernel
theorem dJ6_bitCount_0f7a4_17 : decode cJ6_bitCount_0f7a4 17 = .ok (.iushr, 1) := by decide +kernel
theorem dJ6_bitCount_0f7a4_18 : decode cJ6_bitCount_0f7a4 18 = .ok (.ldc_w 266, 3) := by decide +kernel
theorem dJ6_bitCount_0f7a4_21 : decode cJ6_bitCount_0f7a4 21 = .ok (.iand, 1) := by decide +kernel
theorem dJ6_bitCount_0f7a4_22 : decode cJ6_bitCount_0f7a4 22 = .ok (.iadd, 1) := by decide +kernel
theorem dJ6_bitCount_0f7a4_23 : decode cJ6_bitCount_0f7a4 23 = .ok (.istore_n 0, 1) := by decide +kernel
theorem dJ6_bitCount_0f7a4_24 : decode cJ6_bitCount_0f7a4 24 = .ok (.iload_n 0, 1) := by decide +kernel
theorem dJ6_bitCount_0f7a4_25 : decode cJ6_bitCount_0f7a4 25 = .ok (.iload_n 0, 1) := by decide +kernel
theorem dJ6_bitCount_0f7a4_26 : decode cJ6_bitCount_0f7a4 26 = .ok (.iconst 4, 1) := by decide +kernel
theorem dJ6_bitCount_0f7a4_27 : decode cJ6_bitCount_0f7a4 27 = .ok (.iushr, 1) := by decide +kernel
theorem dJ6_bitCount_0f7a4_28 : decode cJ6_bitCount_0f7a4 28 = .ok (.iadd, 1) := by decide +kernel
theorem dJ6_bitCount_0f7a4_29 : decode cJ6_bitCount_0f7a4 29 = .ok (.ldc_w 267, 3) := by decide +kernel
theorem dJ6_bitCount_0f7a4_32 : decode cJ6_bitCount_0f7a4 32 = .ok (.iand, 1) := by decide +kernel
theorem dJ6_bitCount_0f7a4_33 : decode cJ6_bitCount_0f7a4 33 = .ok (.istore_n 0, 1) := by decide +kernel
theorem dJ6_bitCount_0f7a4_34 : decode cJ6_bitCount_0f7a4 34 = .ok (.iload_n 0, 1) := by decide +kernel
theorem dJ6_bitCount_0f7a4_35 : decode cJ6_bitCount_0f7a4 35 = .ok (.iload_n 0, 1) := by decide +kernel
theorem dJ6_bitCount_0f7a4_36 : decode cJ6_bitCount_0f7a4 36 = .ok (.bipush 8, 2) := by decide +kernel
theorem dJ6_bitCount_0f7a4_38 : decode cJ6_bitCount_0f7a4 38 = .ok (.iushr, 1) := by decide +kernel
theorem dJ6_bitCount_0f7a4_39 : decode cJ6_bitCount_0f7a4 39 = .ok (.iadd, 1) := by decide +kernel
theorem dJ6_bitCount_0f7a4_40 : decode cJ6_bitCount_0f7a4 40 = .ok (.istore_n 0, 1) := by decide +kernel
theorem dJ6_bitCount_0f7a4_41 : decode cJ6_bitCount_0f7a4 41 = .ok (.iload_n 0, 1) := by decide +kernel
theorem dJ6_bitCount_0f7a4_42 : decode cJ6_bitCount_0f7a4 42 = .ok (.iload_n 0, 1) := by decide +kernel
theorem dJ6_bitCount_0f7a4_43 : decode cJ6_bitCount_0f7a4 43 = .ok (.bipush 16, 2) := by decide +kernel
theorem dJ6_bitCount_0f7a4_45 : decode cJ6_bitCount_0f7a4 45 = .ok (.iushr, 1) := by decide +kernel
theorem dJ6_bitCount_0f7a4_46 : decode cJ6_bitCount_0f7a4 46 = .ok (.iadd, 1) := by decide +kernel
theorem dJ6_bitCount_0f7a4_47 : decode cJ6_bitCount_0f7a4 47 = .ok (.istore_n 0, 1) := by decide +kernel
theorem dJ6_bitCount_0f7a4_48 : decode cJ6_bitCount_0f7a4 48 = .ok (.iload_n 0, 1) := by decide +kernel
theorem dJ6_bitCount_0f7a4_49 : decode cJ6_bitCount_0f7a4 49 = .ok (.bipush 63, 2) := by decide +kernel
theorem dJ6_bitCount_0f7a4_51 : decode cJ6_bitCount_0f7a4 51 = .ok (.iand, 1) := by decide +kernel
theorem dJ6_bitCount_0f7a4_52 : decode cJ6_bitCount_0f7a4 52 = .ok (.ireturn, 1) := by decide +kernel
theorem dJ9_floorMod_7cf53_0 : decode cJ9_floorMod_7cf53 0 = .ok (.iload_n 0, 1) := by decide +kernel
theorem dJ9_floorMod_7cf53_1 : decode cJ9_floorMod_7cf53 1 = .ok (.iload_n 1, 1) := by decide +kernel
theorem dJ9_floorMod_7cf53_2 : decode cJ9_floorMod_7cf53 2 = .ok (.irem, 1) := by decide +kernel
theorem dJ9_floorMod_7cf53_3 : decode cJ9_floorMod_7cf53 3 = .ok (.istore_n 2, 1) := by decide +kernel
theorem dJ9_floorMod_7cf53_4 : decode cJ9_floorMod_7cf53 4 = .ok (.iload_n 0, 1) := by decide +kernel
theorem dJ9_floorMod_7cf53_5 : decode cJ9_floorMod_7cf53 5 = .ok (.iload_n 1, 1) := by decide +kernel
theorem dJ9_floorMod_7cf53_6 : decode cJ9_floorMod_7cf53 6 = .ok (.ixor, 1) := by decide +kernel
theorem dJ9_floorMod_7cf53_7 : decode cJ9_floorMod_7cf53 7 = .ok (.ifCond .ge 11, 3) := by decide +kernel
theorem dJ9_floorMod_7cf53_10 : decode cJ9_floorMod_7cf53 10 = .ok (.iload_n 2, 1) := by decide +kernel
theorem dJ9_floorMod_7cf53_11 : decode cJ9_floorMod_7cf53 11 = .ok (.ifCond .eq 7, 3) := by decide +kernel
theorem dJ9_floorMod_7cf53_14 : decode cJ9_floorMod_7cf53 14 = .ok (.iload_n 2, 1) := by decide +kernel
theorem dJ9_floorMod_7cf53_15 : decode cJ9_floorMod_7cf53 15 = .ok (.iload_n 1, 1) := by decide +kernel
theorem dJ9_floorMod_7cf53_16 : decode cJ9_floorMod_7cf53 16 = .ok (.iadd, 1) := by decide +kernel
theorem dJ9_floorMod_7cf53_17 : decode cJ9_floorMod_7cf53 17 = .ok (.ireturn, 1) := by decide +kernel
theorem dJ9_floorMod_7cf53_18 : decode cJ9_floorMod_7cf53 18 = .ok (.iload_n 2, 1) := by decide +kernel
theorem dJ9_floorMod_7cf53_19 : decode cJ9_floorMod_7cf53 19 = .ok (.ireturn, 1) := by decide +kernel
theorem dJ9_max_7cf53_0 : decode cJ9_max_7cf53 0 = .ok (.iload_n 0, 1) := by decide +kernel
theorem dJ9_max_7cf53_1 : decode cJ9_max_7cf53 1 = .ok (.iload_n 1, 1) := by decide +kernel
theorem dJ9_max_7cf53_2 : decode cJ9_max_7cf53 2 = .ok (.if_icmp .lt 7, 3) := by decide +kernel
theorem dJ9_max_7cf53_5 : decode cJ9_max_7cf53 5 = .ok (.iload_n 0, 1) := by decide +kernel
theorem dJ9_max_7cf53_6 : decode cJ9_max_7cf53 6 = .ok (.goto 4, 3) := by decide +kernel
theorem dJ9_max_7cf53_9 : decode cJ9_max_7cf53 9 = .ok (.iload_n 1, 1) := by decide +kernel
theorem dJ9_max_7cf53_10 : decode cJ9_max_7cf53 10 = .ok (.ireturn, 1) := by decide +kernel
theorem dJ9_min_7cf53_0 : decode cJ9_min_7cf53 0 = .ok (.iload_n 0, 1) := by decide +kernel
theorem dJ9_min_7cf53_1 : decode cJ9_min_7cf53 1 = .ok (.iload_n 1, 1) := by decide +kernel
theorem dJ9_min_7cf53_2 : decode cJ9_min_7cf53 2 = .ok (.if_icmp .gt 7, 3) := by decide +kernel
theorem dJ9_min_7cf53_5 : decode cJ9_min_7cf53 5 = .ok (.iload_n 0, 1) := by decide +kernel
theorem dJ9_min_7cf53_6 : decode cJ9_min_7cf53 6 = .ok (.goto 4, 3) := by decide +kernel
theorem dJ9_min_7cf53_9 : decode cJ9_min_7cf53 9 = .ok (.iload_n 1, 1) := by decide +kernel
theorem dJ9_min_7cf53_10 : decode cJ9_min_7cf53 10 = .ok (.ireturn, 1) := by decide +kernel
set_option maxRecDepth 20000 in
theorem ggL_addBlock_X5_addBlock : GoodIn wsL_addBlock wsX5_addBlock := goodIn_ca (goodIn_ca (goodIn_r _ [7, 8, 9, 10, 11, 12, 13, 14, 15, 6, 16, 17, 18, 19, 20, 21, 22, 23, 24, 25, 26, 27, 28, 29, 30, 31, 32, 33, 34, 35, 36, 37, 38, 39, 40, 41, 42, 43, 44, 45, 46, 47, 48, 49, 50, 51, 52, 53, 54, 55, 56, 57, 58, 59, 60, 61, 62, 63, 64, 65, 66, 67, 68, 69, 70, 71, 72, 73, 74, 75, 76, 77, 78, 79, 80, 81, 82, 83, 84, 85, 86, 87, 88, 89, 90, 91, 92, 93, 94, 95, 96, 97, 98, 99, 100, 101, 102, 103, 104, 105, 106, 107, 108, 109, 110, 111, 112, 113, 114, 115, 116, 117, 118, 119, 120, 121, 122, 123, 124, 125, 126, 127, 128, 129, 130, 131, 132, 133, 134, 135, 136, 137, 138, 139, 140, 141, 142, 143, 144, 145, 146, 147, 148, 149, 150, 151, 152] (by decide +kernel) (by decide +kernel)) (goodIn_sub (fun _ h => List.mem_cons_of_mem _ (List.mem_append_left _ (List.mem_append_right _ h))) (by decide +kernel))) (goodIn_sub (fun _ h => List.mem_cons_of_mem _ (List.mem_append_right _ h)) (by decide +kernel))
set_option maxRecDepth 20000 in
theorem gL_addBlock_X5_addBlock : GoodIn wsL_addBlock (wsV RL 7 RX5 yX5_addBlock wsX5_addBlock) := goodIn_app (goodIn_of _ (by decide +kernel)) ggL_addBlock_X5_addBlock
theorem dL_addBlock_0 : decode cL_addBlock 0 = .ok (.aload 5, 2) := by decide +kernel
theorem dL_addBlock_2 : decode cL_addBlock 2 = .ok (.iconst 0, 1) := by decide +kernel
theorem dL_addBlock_3 : decode cL_addBlock 3 = .ok (.aload_n 0, 1) := by decide +kernel
theorem dL_addBlock_4 : decode cL_addBlock 4 = .ok (.iload_n 1, 1) := by decide +kernel
theorem dL_addBlock_5 : decode cL_addBlock 5 = .ok (.iload_n 2, 1) := by decide +kernel
theorem dL_addBlock_6 : decode cL_addBlock 6 = .ok (.iload_n 3, 1) := by decide +kernel
theorem dL_addBlock_7 : decode cL_addBlock 7 = .ok (.iload 4, 2) := by decide +kernel
theorem dL_addBlock_9 : decode cL_addBlock 9 = .ok (.invokevirtual 7, 3) := by decide +kernel
theorem dL_addBlock_12 : decode cL_addBlock 12 = .ok (.i2l, 1) := by decide +kernel
theorem dL_addBlock_13 : decode cL_addBlock 13 = .ok (.lastore, 1) := by decide +kernel
theorem dL_addBlock_14 : decode cL_addBlock 14 = .ok (.goto 11, 3) := by decide +kernel
theorem dL_addBlock_17 : decode cL_addBlock 17 = .ok (.astore 6, 2) := by decide +kernel
theorem dL_addBlock_19 : decode cL_addBlock 19 = .ok (.iconst 1, 1) := by decide +kernel
theorem dL_addBlock_20 : decode cL_addBlock 20 = .ok (.ireturn, 1) := by decide +kernel
theorem dL_addBlock_21 : decode cL_addBlock 21 = .ok (.astore 6, 2) := by decide +kernel
theorem dL_addBlock_23 : decode cL_addBlock 23 = .ok (.iconst 2, 1) := by decide +kernel
theorem dL_addBlock_24 : decode cL_addBlock 24 = .ok (.ireturn, 1) := by decide +kernel
theorem dL_addBlock_25 : decode cL_addBlock 25 = .ok (.iconst 0, 1) := by decide +kernel
theorem dL_addBlock_26 : decode cL_addBlock 26 = .ok (.ireturn, 1) := by decide +kernel
set_option maxRecDepth 20000 in
theorem ggL_setCap_X5_setCap : GoodIn wsL_setCap wsX5_setCap := goodIn_ca (goodIn_ca (goodIn_r _ [7, 8, 9, 10, 11, 12, 13, 14, 15, 16, 17, 18, 19, 20, 21, 22, 6, 23, 24, 25, 26, 27, 28, 29, 30, 31, 32, 33, 34, 35, 36, 37, 38, 39, 40, 41, 42, 43, 44, 45, 46, 47, 48, 49, 50, 51, 52, 53, 54, 55, 56, 57, 58, 59, 60, 61, 62, 63, 64, 65, 66, 67, 68, 69, 70, 71, 72, 73, 74, 75, 76, 77, 78, 79, 80, 81, 82, 83, 84, 85, 86, 87, 88, 89, 90, 91, 92, 93, 94, 95, 96, 97, 98, 99, 100, 101, 102, 103, 104, 105, 106, 107, 108, 109, 110, 111, 112, 113, 114, 115, 116, 117, 118, 119, 120, 121, 122, 123, 124, 125, 126, 127, 128, 129, 130, 131, 132, 133, 134, 135, 136, 137, 138, 139, 140, 141, 142, 143, 144, 145, 146, 147, 148, 149, 150, 151, 152] (by decide +kernel) (by decide +kernel)) (goodIn_sub (fun _ h => List.mem_cons_of_mem _ (List.mem_append_left _ (List.mem_append_right _ h))) (by decide +kernel))) (goodIn_sub (fun _ h => List.mem_cons_of_mem _ (List.mem_append_right _ h)) (by decide +kernel))
set_option maxRecDepth 20000 in
theorem gL_setCap_X5_setCap : GoodIn wsL_setCap (wsV RL 17 RX5 yX5_setCap wsX5_setCap) := goodIn_app (goodIn_of _ (by decide +kernel)) ggL_setCap_X5_setCap
theorem dL_setCap_0 : decode cL_setCap 0 = .ok (.aload_n 3, 1) := by decide +kernel
theorem dL_setCap_1 : decode cL_setCap 1 = .ok (.iconst 0, 1) := by decide +kernel
theorem dL_setCap_2 : decode cL_setCap 2 = .ok (.aload_n 0, 1) := by decide +kernel
theorem dL_setCap_3 : decode cL_setCap 3 = .ok (.iload_n 1, 1) := by decide +kernel
theorem dL_setCap_4 : decode cL_setCap 4 = .ok (.iload_n 2, 1) := by decide +kernel
theorem dL_setCap_5 : decode cL_setCap 5 = .ok (.invokevirtual 17, 3) := by decide +kernel
theorem dL_setCap_8 : decode cL_setCap 8 = .ok (.i2l, 1) := by decide +kernel
theorem dL_setCap_9 : decode cL_setCap 9 = .ok (.lastore, 1) := by decide +kernel
theorem dL_setCap_10 : decode cL_setCap 10 = .ok (.goto 11, 3) := by decide +kernel
theorem dL_setCap_13 : decode cL_setCap 13 = .ok (.astore 4, 2) := by decide +kernel
theorem dL_setCap_15 : decode cL_setCap 15 = .ok (.iconst 1, 1) := by decide +kernel
theorem dL_setCap_16 : decode cL_setCap 16 = .ok (.ireturn, 1) := by decide +kernel
theorem dL_setCap_17 : decode cL_setCap 17 = .ok (.astore 4, 2) := by decide +kernel
theorem dL_setCap_19 : decode cL_setCap 19 = .ok (.iconst 2, 1) := by decide +kernel
theorem dL_setCap_20 : decode cL_setCap 20 = .ok (.ireturn, 1) := by decide +kernel
theorem dL_setCap_21 : decode cL_setCap 21 = .ok (.iconst 0, 1) := by decide +kernel
theorem dL_setCap_22 : decode cL_setCap 22 = .ok (.ireturn, 1) := by decide +kernel
set_option maxRecDepth 20000 in
theorem ggL_setLimit_X5_setLimit : GoodIn wsL_setLimit wsX5_setLimit := goodIn_ca (goodIn_ca (goodIn_r _ [7, 8, 9, 10, 11, 12, 13, 14, 15, 16, 17, 18, 19, 20, 21, 22, 23, 6, 24, 25, 26, 27, 28, 29, 30, 31, 32, 33, 34, 35, 36, 37, 38, 39, 40, 41, 42, 43, 44, 45, 46, 47, 48, 49, 50, 51, 52, 53, 54, 55, 56, 57, 58, 59, 60, 61, 62, 63, 64, 65, 66, 67, 68, 69, 70, 71, 72, 73, 74, 75, 76, 77, 78, 79, 80, 81, 82, 83, 84, 85, 86, 87, 88, 89, 90, 91, 92, 93, 94, 95, 96, 97, 98, 99, 100, 101, 102, 103, 104, 105, 106, 107, 108, 109, 110, 111, 112, 113, 114, 115, 116, 117, 118, 119, 120, 121, 122, 123, 124, 125, 126, 127, 128, 129, 130, 131, 132, 133, 134, 135, 136, 137, 138, 139, 140, 141, 142, 143, 144, 145, 146, 147, 148, 149, 150, 151, 152, 153] (by decide +kernel) (by decide +kernel)) (goodIn_sub (fun _ h => List.mem_cons_of_mem _ (List.mem_append_left _ (List.mem_append_right _ h))) (by decide +kernel))) (goodIn_sub (fun _ h => List.mem_cons_of_mem _ (List.mem_append_right _ h)) (by decide +kernel))
set_option maxRecDepth 20000 in
theorem gL_setLimit_X5_setLimit : GoodIn wsL_setLimit (wsV RL 23 RX5 yX5_setLimit wsX5_setLimit) := goodIn_app (goodIn_of _ (by decide +kernel)) ggL_setLimit_X5_setLimit
theorem dL_setLimit_0 : decode cL_setLimit 0 = .ok (.aload_n 3, 1) := by decide +kernel
theorem dL_setLimit_1 : decode cL_setLimit 1 = .ok (.iconst 0, 1) := by decide +kernel
theorem dL_setLimit_2 : decode cL_setLimit 2 = .ok (.aload_n 0, 1) := by decide +kernel
theorem dL_setLimit_3 : decode cL_setLimit 3 = .ok (.iload_n 1, 1) := by decide +kernel
theorem dL_setLimit_4 : decode cL_setLimit 4 = .ok (.iload_n 2, 1) := by decide +kernel
theorem dL_setLimit_5 : decode cL_setLimit 5 = .ok (.invokevirtual 23, 3) := by decide +kernel
theorem dL_setLimit_8 : decode cL_setLimit 8 = .ok (.i2l, 1) := by decide +kernel
theorem dL_setLimit_9 : decode cL_setLimit 9 = .ok (.lastore, 1) := by decide +kernel
theorem dL_setLimit_10 : decode cL_setLimit 10 = .ok (.goto 11, 3) := by decide +kernel
theorem dL_setLimit_13 : decode cL_setLimit 13 = .ok (.astore 4, 2) := by decide +kernel
theorem dL_setLimit_15 : decode cL_setLimit 15 = .ok (.iconst 1, 1) := by decide +kernel
theorem dL_setLimit_16 : decode cL_setLimit 16 = .ok (.ireturn, 1) := by decide +kernel
theorem dL_setLimit_17 : decode cL_setLimit 17 = .ok (.astore 4, 2) := by decide +kernel
theorem dL_setLimit_19 : decode cL_setLimit 19 = .ok (.iconst 2, 1) := by decide +kernel
theorem dL_setLimit_20 : decode cL_setLimit 20 = .ok (.ireturn, 1) := by decide +kernel
theorem dL_setLimit_21 : decode cL_setLimit 21 = .ok (.iconst 0, 1) := by decide +kernel
theorem dL_setLimit_22 : decode cL_setLimit 22 = .ok (.ireturn, 1) := by decide +kernel
set_option maxRecDepth 20000 in
theorem ggL_setShip_X5_setShip : GoodIn wsL_setShip wsX5_setShip := goodIn_ca (goodIn_r _ [6, 7, 8, 9, 10, 11, 12, 13, 14, 15, 5, 16, 17, 18, 19, 20, 21, 22, 23, 24, 25, 26, 27, 28, 29, 30, 31, 32, 33, 34, 35, 36, 37, 38, 39, 40, 41, 42, 43, 44, 45, 46, 47, 48, 49, 50, 51, 52, 53, 54, 55, 56, 57, 58, 59, 60, 61, 62, 63, 64, 65, 66, 67, 68, 69, 70, 71, 72, 73, 74, 75, 76, 77, 78, 79, 80, 81, 82, 83, 84, 85, 86, 87, 88, 89, 90, 91, 92, 93, 94, 95, 96, 97, 98, 99, 100, 101, 102, 103, 104, 105, 106, 107, 108, 109, 110, 111, 112, 113, 114, 115, 116, 117, 118, 119, 120, 121, 122, 123, 124, 125, 126, 127, 128, 129, 130, 131, 132, 133, 134, 135, 136, 137, 138, 139, 140, 141, 142, 143, 144, 145, 146, 147] (by decide +kernel) (by decide +kernel)) (goodIn_sub (fun _ h => List.mem_cons_of_mem _ (List.mem_append_right _ h)) (by decide +kernel))
set_option maxRecDepth 20000 in
theorem gL_setShip_X5_setShip : GoodIn wsL_setShip (wsV RL 26 RX5 yX5_setShip wsX5_setShip) := goodIn_app (goodIn_of _ (by decide +kernel)) ggL_setShip_X5_setShip
