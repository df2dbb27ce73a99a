theorem dX4_findDepth_2 : decode cX4_findDepth 2 = .ok (.iconst 0, 1) := by decide +kernel
theorem dX4_findDepth_3 : decode cX4_findDepth 3 = .ok (.invokevirtual 22, 3) := by decide +kernel
theorem dX4_findDepth_6 : decode cX4_findDepth 6 = .ok (.aload_n 0, 1) := by decide +kernel
theorem dX4_findDepth_7 : decode cX4_findDepth 7 = .ok (.aload_n 1, 1) := by decide +kernel
theorem dX4_findDepth_8 : decode cX4_findDepth 8 = .ok (.invokevirtual 34, 3) := by decide +kernel
theorem dX4_findDepth_11 : decode cX4_findDepth 11 = .ok (.invokevirtual 40, 3) := by decide +kernel
theorem dX4_findDepth_14 : decode cX4_findDepth 14 = .ok (.ireturn, 1) := by decide +kernel
set_option maxRecDepth 20000 in
theorem ggX4_findMusts_X3_openLocks : GoodIn wsX4_findMusts wsX3_openLocks := goodIn_r _ [6, 7, 8, 9, 71, 72, 73, 74, 75, 76, 77, 78, 79, 80, 81, 82, 83, 84, 85, 86, 87, 88, 89, 90, 91, 92] (by decide +kernel) (by decide +kernel)
set_option maxRecDepth 20000 in
theorem gX4_findMusts_X3_openLocks : GoodIn wsX4_findMusts (wsV RX4 34 RX3 yX3_openLocks wsX3_openLocks) := goodIn_app (goodIn_of _ (by decide +kernel)) ggX4_findMusts_X3_openLocks
set_option maxRecDepth 20000 in
theorem ggX4_findMusts_X4_explore : GoodIn wsX4_findMusts wsX4_explore := goodIn_r _ [14, 15, 16, 17, 18, 19, 20, 13, 21, 22, 23, 24, 25, 26, 2, 3, 4, 5, 6, 7, 8, 9, 27, 28, 29, 30, 31, 32, 33, 34, 35, 36, 37, 38, 39, 40, 41, 42, 43, 44, 45, 46, 47, 48, 49, 50, 51, 52, 53, 54, 55, 56, 57, 58, 59, 60, 61, 62, 63, 64, 65, 66, 67, 68, 69, 70, 93, 94, 95, 71, 72, 73, 74, 75, 76, 77, 78, 79, 80, 81, 82, 83, 84, 85, 86, 87, 88, 89, 90, 91, 92, 96, 97, 98, 99, 100] (by decide +kernel) (by decide +kernel)
set_option maxRecDepth 20000 in
theorem gX4_findMusts_X4_explore : GoodIn wsX4_findMusts (wsV RX4 22 RX4 yX4_explore wsX4_explore) := goodIn_app (goodIn_of _ (by decide +kernel)) ggX4_findMusts_X4_explore
set_option maxRecDepth 20000 in
theorem ggX4_findMusts_X4_yetBehind : GoodIn wsX4_findMusts wsX4_yetBehind := goodIn_r _ [70, 16, 93, 94, 95] (by decide +kernel) (by decide +kernel)
set_option maxRecDepth 20000 in
theorem gX4_findMusts_X4_yetBehind : GoodIn wsX4_findMusts (wsV RX4 40 RX4 yX4_yetBehind wsX4_yetBehind) := goodIn_app (goodIn_of _ (by decide +kernel)) ggX4_findMusts_X4_yetBehind
theorem dX4_findMusts_0 : decode cX4_findMusts 0 = .ok (.aload_n 1, 1) := by decide +kernel
theorem dX4_findMusts_1 : decode cX4_findMusts 1 = .ok (.invokevirtual 34, 3) := by decide +kernel
theorem dX4_findMusts_4 : decode cX4_findMusts 4 = .ok (.istore_n 2, 1) := by decide +kernel
theorem dX4_findMusts_5 : decode cX4_findMusts 5 = .ok (.aload_n 0, 1) := by decide +kernel
theorem dX4_findMusts_6 : decode cX4_findMusts 6 = .ok (.aload_n 1, 1) := by decide +kernel
theorem dX4_findMusts_7 : decode cX4_findMusts 7 = .ok (.iconst 0, 1) := by decide +kernel
theorem dX4_findMusts_8 : decode cX4_findMusts 8 = .ok (.invokevirtual 22, 3) := by decide +kernel
theorem dX4_findMusts_11 : decode cX4_findMusts 11 = .ok (.aload_n 0, 1) := by decide +kernel
theorem dX4_findMusts_12 : decode cX4_findMusts 12 = .ok (.iload_n 2, 1) := by decide +kernel
theorem dX4_findMusts_13 : decode cX4_findMusts 13 = .ok (.invokevirtual 40, 3) := by decide +kernel
theorem dX4_findMusts_16 : decode cX4_findMusts 16 = .ok (.iconst (-1), 1) := by decide +kernel
theorem dX4_findMusts_17 : decode cX4_findMusts 17 = .ok (.if_icmp .ne 5, 3) := by decide +kernel
theorem dX4_findMusts_22 : decode cX4_findMusts 22 = .ok (.iconst 0, 1) := by decide +kernel
theorem dX4_findMusts_23 : decode cX4_findMusts 23 = .ok (.istore_n 3, 1) := by decide +kernel
theorem dX4_findMusts_24 : decode cX4_findMusts 24 = .ok (.iconst 0, 1) := by decide +kernel
theorem dX4_findMusts_25 : decode cX4_findMusts 25 = .ok (.istore 4, 2) := by decide +kernel
theorem dX4_findMusts_27 : decode cX4_findMusts 27 = .ok (.iload 4, 2) := by decide +kernel
theorem dX4_findMusts_29 : decode cX4_findMusts 29 = .ok (.aload_n 1, 1) := by decide +kernel
theorem dX4_findMusts_30 : decode cX4_findMusts 30 = .ok (.getfield 44, 3) := by decide +kernel
theorem dX4_findMusts_33 : decode cX4_findMusts 33 = .ok (.if_icmp .ge 34, 3) := by decide +kernel
theorem dX4_findMusts_36 : decode cX4_findMusts 36 = .ok (.aload_n 0, 1) := by decide +kernel
theorem dX4_findMusts_37 : decode cX4_findMusts 37 = .ok (.aload_n 1, 1) := by decide +kernel
theorem dX4_findMusts_38 : decode cX4_findMusts 38 = .ok (.iconst 1, 1) := by decide +kernel
theorem dX4_findMusts_39 : decode cX4_findMusts 39 = .ok (.iload 4, 2) := by decide +kernel
theorem dX4_findMusts_41 : decode cX4_findMusts 41 = .ok (.ishl, 1) := by decide +kernel
theorem dX4_findMusts_42 : decode cX4_findMusts 42 = .ok (.invokevirtual 22, 3) := by decide +kernel
theorem dX4_findMusts_45 : decode cX4_findMusts 45 = .ok (.aload_n 0, 1) := by decide +kernel
theorem dX4_findMusts_46 : decode cX4_findMusts 46 = .ok (.iload_n 2, 1) := by decide +kernel
theorem dX4_findMusts_47 : decode cX4_findMusts 47 = .ok (.invokevirtual 40, 3) := by decide +kernel
theorem dX4_findMusts_50 : decode cX4_findMusts 50 = .ok (.iconst (-1), 1) := by decide +kernel
theorem dX4_findMusts_51 : decode cX4_findMusts 51 = .ok (.if_icmp .ne 10, 3) := by decide +kernel
theorem dX4_findMusts_61 : decode cX4_findMusts 61 = .ok (.iinc 4 1, 3) := by decide +kernel
theorem dX4_findMusts_64 : decode cX4_findMusts 64 = .ok (.goto (-37), 3) := by decide +kernel
theorem dX4_findMusts_67 : decode cX4_findMusts 67 = .ok (.iload_n 3, 1) := by decide +kernel
theorem dX4_findMusts_68 : decode cX4_findMusts 68 = .ok (.ireturn, 1) := by decide +kernel
set_option maxRecDepth 20000 in
theorem ggX4_findBestReady_X4_explore : GoodIn wsX4_findBestReady wsX4_explore := goodIn_r _ [6, 7, 8, 9, 10, 11, 12, 5, 13, 1, 14, 15, 16, 17, 18, 19, 20, 21, 22, 23, 24, 25, 26, 27, 28, 29, 30, 31, 32, 33, 34, 35, 36, 37, 38, 39, 40, 41, 42, 43, 44, 45, 46, 47, 48, 49, 50, 51, 52, 53, 54, 55, 56, 57, 58, 59, 60, 61, 62, 63, 64, 65, 66, 67, 68, 69, 87, 88, 89, 75, 76, 77, 78, 79, 80, 81, 82, 83, 84, 85, 86, 90, 91, 92, 93, 94, 95, 96, 97, 98, 99, 100, 101, 102, 103, 104] (by decide +kernel) (by decide +kernel)
set_option maxRecDepth 20000 in
theorem gX4_findBestReady_X4_explore : GoodIn wsX4_findBestReady (wsV RX4 22 RX4 yX4_explore wsX4_explore) := goodIn_app (goodIn_of _ (by decide +kernel)) ggX4_findBestReady_X4_explore
set_option maxRecDepth 20000 in
theorem ggX4_findBestReady_X3_openLocks : GoodIn wsX4_findBestReady wsX3_openLocks := goodIn_r _ [22, 23, 24, 25, 75, 76, 77, 78, 79, 80, 81, 82, 83, 84, 85, 86, 90, 91, 92, 93, 94, 95, 96, 97, 98, 99] (by decide +kernel) (by decide +kernel)
set_option maxRecDepth 20000 in
theorem gX4_findBestReady_X3_openLocks : GoodIn wsX4_findBestReady (wsV RX4 34 RX3 yX3_openLocks wsX3_openLocks) := goodIn_app (goodIn_of _ (by decide +kernel)) ggX4_findBestReady_X3_openLocks
set_option maxRecDepth 20000 in
theorem ggX4_findBestReady_X3_readyLocks : GoodIn wsX4_findBestReady wsX3_readyLocks := goodIn_r _ [73, 23, 24, 39, 40, 41, 21, 42, 36, 37, 43, 74, 55, 56, 57, 58, 59, 60, 61, 75, 76, 77, 78, 79, 80, 81, 82, 83, 84, 85, 86, 100, 101, 102, 103, 104, 90, 91, 92, 93, 94, 95, 96, 97, 98, 99] (by decide +kernel) (by decide +kernel)
set_option maxRecDepth 20000 in
theorem gX4_findBestReady_X3_readyLocks : GoodIn wsX4_findBestReady (wsV RX4 48 RX3 yX3_readyLocks wsX3_readyLocks) := goodIn_app (goodIn_of _ (by decide +kernel)) ggX4_findBestReady_X3_readyLocks
set_option maxRecDepth 20000 in
theorem ggX4_findBestReady_X6_isIn : GoodIn wsX4_findBestReady wsX6_isIn := goodIn_r _ [53] (by decide +kernel) (by decide +kernel)
set_option maxRecDepth 20000 in
theorem gX4_findBestReady_X6_isIn_n54 : GoodIn wsX4_findBestReady (wsX6_isIn) := ggX4_findBestReady_X6_isIn
set_option maxRecDepth 20000 in
theorem ggX4_findBestReady_X4_yetBehind : GoodIn wsX4_findBestReady wsX4_yetBehind := goodIn_r _ [69, 8, 87, 88, 89] (by decide +kernel) (by decide +kernel)
set_option maxRecDepth 20000 in
theorem gX4_findBestReady_X4_yetBehind : GoodIn wsX4_findBestReady (wsV RX4 40 RX4 yX4_yetBehind wsX4_yetBehind) := goodIn_app (goodIn_of _ (by decide +kernel)) ggX4_findBestReady_X4_yetBehind
theorem dX4_findBestReady_0 : decode cX4_findBestReady 0 = .ok (.aload_n 0, 1) := by decide +kernel
theorem dX4_findBestReady_1 : decode cX4_findBestReady 1 = .ok (.aload_n 1, 1) := by decide +kernel
theorem dX4_findBestReady_2 : decode cX4_findBestReady 2 = .ok (.iconst 0, 1) := by decide +kernel
theorem dX4_findBestReady_3 : decode cX4_findBestReady 3 = .ok (.invokevirtual 22, 3) := by decide +kernel
theorem dX4_findBestReady_6 : decode cX4_findBestReady 6 = .ok (.aload_n 1, 1) := by decide +kernel
theorem dX4_findBestReady_7 : decode cX4_findBestReady 7 = .ok (.invokevirtual 34, 3) := by decide +kernel
theorem dX4_findBestReady_10 : decode cX4_findBestReady 10 = .ok (.istore_n 2, 1) := by decide +kernel
theorem dX4_findBestReady_11 : decode cX4_findBestReady 11 = .ok (.aload_n 1, 1) := by decide +kernel
theorem dX4_findBestReady_12 : decode cX4_findBestReady 12 = .ok (.invokevirtual 48, 3) := by decide +kernel
theorem dX4_findBestReady_15 : decode cX4_findBestReady 15 = .ok (.istore_n 3, 1) := by decide +kernel
theorem dX4_findBestReady_16 : decode cX4_findBestReady 16 = .ok (.iconst (-1), 1) := by decide +kernel
theorem dX4_findBestReady_17 : decode cX4_findBestReady 17 = .ok (.istore 4, 2) := by decide +kernel
theorem dX4_findBestReady_19 : decode cX4_findBestReady 19 = .ok (.iconst (-1), 1) := by decide +kernel
theorem dX4_findBestReady_20 : decode cX4_findBestReady 20 = .ok (.istore 5, 2) := by decide +kernel
theorem dX4_findBestReady_22 : decode cX4_findBestReady 22 = .ok (.iconst 0, 1) := by decide +kernel
theorem dX4_findBestReady_23 : decode cX4_findBestReady 23 = .ok (.istore 6, 2) := by decide +kernel
theorem dX4_findBestReady_25 : decode cX4_findBestReady 25 = .ok (.iload 6, 2) := by decide +kernel
theorem dX4_findBestReady_27 : decode cX4_findBestReady 27 = .ok (.aload_n 1, 1) := by decide +kernel
theorem dX4_findBestReady_28 : decode cX4_findBestReady 28 = .ok (.getfield 51, 3) := by decide +kernel
theorem dX4_findBestReady_31 : decode cX4_findBestReady 31 = .ok (.if_icmp .ge 61, 3) := by decide +kernel
theorem dX4_findBestReady_34 : decode cX4_findBestReady 34 = .ok (.iload_n 3, 1) := by decide +kernel
theorem dX4_findBestReady_35 : decode cX4_findBestReady 35 = .ok (.iload 6, 2) := by decide +kernel
theorem dX4_findBestReady_37 : decode cX4_findBestReady 37 = .ok (.invokestatic 54, 3) := by decide +kernel
theorem dX4_findBestReady_40 : decode cX4_findBestReady 40 = .ok (.ifCond .eq 16, 3) := by decide +kernel
theorem dX4_findBestReady_43 : decode cX4_findBestReady 43 = .ok (.aload_n 0, 1) := by decide +kernel
theorem dX4_findBestReady_44 : decode cX4_findBestReady 44 = .ok (.iload_n 2, 1) := by decide +kernel
theorem dX4_findBestReady_45 : decode cX4_findBestReady 45 = .ok (.iconst 1, 1) := by decide +kernel
theorem dX4_findBestReady_46 : decode cX4_findBestReady 46 = .ok (.iload 6, 2) := by decide +kernel
theorem dX4_findBestReady_48 : decode cX4_findBestReady 48 = .ok (.ishl, 1) := by decide +kernel
theorem dX4_findBestReady_49 : decode cX4_findBestReady 49 = .ok (.ior, 1) := by decide +kernel
theorem dX4_findBestReady_50 : decode cX4_findBestReady 50 = .ok (.invokevirtual 40, 3) := by decide +kernel
theorem dX4_findBestReady_53 : decode cX4_findBestReady 53 = .ok (.goto 4, 3) := by decide +kernel
theorem dX4_findBestReady_57 : decode cX4_findBestReady 57 = .ok (.istore 7, 2) := by decide +kernel
theorem dX4_findBestReady_59 : decode cX4_findBestReady 59 = .ok (.iload 7, 2) := by decide +kernel
theorem dX4_findBestReady_61 : decode cX4_findBestReady 61 = .ok (.iconst (-1), 1) := by decide +kernel
theorem dX4_findBestReady_62 : decode cX4_findBestReady 62 = .ok (.if_icmp .eq 24, 3) := by decide +kernel
theorem dX4_findBestReady_65 : decode cX4_findBestReady 65 = .ok (.iload 4, 2) := by decide +kernel
theorem dX4_findBestReady_67 : decode cX4_findBestReady 67 = .ok (.iconst (-1), 1) := by decide +kernel
theorem dX4_findBestReady_68 : decode cX4_findBestReady 68 = .ok (.if_icmp .eq 10, 3) := by decide +kernel
theorem dX4_findBestReady_71 : decode cX4_findBestReady 71 = .ok (.iload 7, 2) := by decide +kernel
theorem dX4_findBestReady_73 : decode cX4_findBestReady 73 = .ok (.iload 5, 2) := by decide +kernel
theorem dX4_findBestReady_75 : decode cX4_findBestReady 75 = .ok (.if_icmp .ge 11, 3) := by decide +kernel
theorem dX4_findBestReady_78 : decode cX4_findBestReady 78 = .ok (.iload 6, 2) := by decide +kernel
theorem dX4_findBestReady_80 : decode cX4_findBestReady 80 = .ok (.istore 4, 2) := by decide +kernel
theorem dX4_findBestReady_82 : decode cX4_findBestReady 82 = .ok (.iload 7, 2) := by decide +kernel
theorem dX4_findBestReady_84 : decode cX4_findBestReady 84 = .ok (.istore 5, 2) := by decide +kernel
theorem dX4_findBestReady_86 : decode cX4_findBestReady 86 = .ok (.iinc 6 1, 3) := by decide +kernel
theorem dX4_findBestReady_89 : decode cX4_findBestReady 89 = .ok (.goto (-64), 3) := by decide +kernel
theorem dX4_findBestReady_92 : decode cX4_findBestReady 92 = .ok (.iload 4, 2) := by decide +kernel
theorem dX4_findBestReady_94 : decode cX4_findBestReady 94 = .ok (.ireturn, 1) := by decide +kernel
theorem dX4_endOfStands_0 : decode cX4_endOfStands 0 = .ok (.iconst 1, 1) := by decide +kernel
theorem dX4_endOfStands_1 : decode cX4_endOfStands 1 = .ok (.aload_n 1, 1) := by decide +kernel
theorem dX4_endOfStands_2 : decode cX4_endOfStands 2 = .ok (.getfield 51, 3) := by decide +kernel
theorem dX4_endOfStands_5 : decode cX4_endOfStands 5 = .ok (.ishl, 1) := by decide +kernel
theorem dX4_endOfStands_6 : decode cX4_endOfStands 6 = .ok (.sipush 1024, 3) := by decide +kernel
theorem dX4_endOfStands_9 : decode cX4_endOfStands 9 = .ok (.invokestatic 58, 3) := by decide +kernel
theorem dX4_endOfStands_12 : decode cX4_endOfStands 12 = .ok (.ireturn, 1) := by decide +kernel
theorem dX4_yetBehind_0 : decode cX4_yetBehind 0 = .ok (.iload_n 1, 1) := by decide +kernel
theorem dX4_yetBehind_1 : decode cX4_yetBehind 1 = .ok (.ifCond .lt 19, 3) := by decide +kernel
theorem dX4_yetBehind_4 : decode cX4_yetBehind 4 = .ok (.iload_n 1, 1) := by decide +kernel
theorem dX4_yetBehind_5 : decode cX4_yetBehind 5 = .ok (.sipush 1024, 3) := by decide +kernel
theorem dX4_yetBehind_8 : decode cX4_yetBehind 8 = .ok (.if_icmp .ge 12, 3) := by decide +kernel
theorem dX4_yetBehind_11 : decode cX4_yetBehind 11 = .ok (.aload_n 0, 1) := by decide +kernel
theorem dX4_yetBehind_12 : decode cX4_yetBehind 12 = .ok (.getfield 19, 3) := by decide +kernel
theorem dX4_yetBehind_15 : decode cX4_yetBehind 15 = .ok (.iload_n 1, 1) := by decide +kernel
theorem dX4_yetBehind_16 : decode cX4_yetBehind 16 = .ok (.iaload, 1) := by decide +kernel
theorem dX4_yetBehind_17 : decode cX4_yetBehind 17 = .ok (.goto 4, 3) := by decide +kernel
theorem dX4_yetBehind_21 : decode cX4_yetBehind 21 = .ok (.ireturn, 1) := by decide +kernel
set_option maxRecDepth 20000 in
theorem ggX4_explore_X4_endOfStands : GoodIn wsX4_explore wsX4_endOfStands := goodIn_r _ [8, 9, 10, 11, 12, 13, 69, 70, 71, 72, 73, 74, 75, 76, 77, 78, 79, 80] (by decide +kernel) (by decide +kernel)
set_option maxRecDepth 20000 in
theorem gX4_explore_X4_endOfStands : GoodIn wsX4_explore (wsV RX4 26 RX4 yX4_endOfStands wsX4_endOfStands) := goodIn_app (goodIn_of _ (by decide +kernel)) ggX4_explore_X4_endOfStands
set_option maxRecDepth 20000 in
theorem ggX4_explore_X3_openLocks : GoodIn wsX4_explore wsX3_openLocks := goodIn_r _ [18, 19, 20, 21, 69, 70, 71, 72, 73, 74, 75, 76, 77, 78, 79, 80, 81, 82, 83, 84, 85, 86, 87, 88, 89, 90] (by decide +kernel) (by decide +kernel)
set_option maxRecDepth 20000 in
theorem gX4_explore_X3_openLocks : GoodIn wsX4_explore (wsV RX4 34 RX3 yX3_openLocks wsX3_openLocks) := goodIn_app (goodIn_of _ (by decide +kernel)) ggX4_explore_X3_openLocks
set_option maxRecDepth 20000 in
theorem ggX4_explore_X4_goOn : GoodIn wsX4_explore wsX4_goOn := goodIn_r _ [25, 9, 26, 1, 27, 28, 29, 30, 17, 31, 32, 33, 19, 20, 21, 34, 35, 36, 37, 38, 39, 40, 41, 42, 43, 44, 45, 46, 47, 48, 49, 50, 51, 52, 53, 54, 55, 56, 57, 69, 70, 71, 72, 73, 74, 75, 76, 77, 78, 79, 80, 66, 67, 68, 81, 82, 83, 84, 85, 86, 87, 88, 89, 90, 91, 92, 93, 94, 95] (by decide +kernel) (by decide +kernel)
set_option maxRecDepth 20000 in
theorem gX4_explore_X4_goOn : GoodIn wsX4_explore (wsV RX4 64 RX4 yX4_goOn wsX4_goOn) := goodIn_app (goodIn_of _ (by decide +kernel)) ggX4_explore_X4_goOn
set_option maxRecDepth 20000 in
theorem ggX4_explore_X6_isIn : GoodIn wsX4_explore wsX6_isIn := goodIn_r _ [49] (by decide +kernel) (by decide +kernel)
set_option maxRecDepth 20000 in
theorem gX4_explore_X6_isIn_n54 : GoodIn wsX4_explore (wsX6_isIn) := ggX4_explore_X6_isIn
set_option maxRecDepth 20000 in
theorem ggX4_explore_X4_leastYet : GoodIn wsX4_explore wsX4_leastYet := goodIn_r _ [61, 9, 27, 47, 48, 49, 62, 63, 64, 7, 65, 2, 69, 70, 71, 72, 73, 74, 75, 76, 77, 78, 79, 80, 66, 67, 68] (by decide +kernel) (by decide +kernel)
set_option maxRecDepth 20000 in
theorem gX4_explore_X4_leastYet : GoodIn wsX4_explore (wsV RX4 71 RX4 yX4_leastYet wsX4_leastYet) := goodIn_app (goodIn_of _ (by decide +kernel)) ggX4_explore_X4_leastYet
theorem dX4_explore_0 : decode cX4_explore 0 = .ok (.aload_n 0, 1) := by decide +kernel
theorem dX4_explore_1 : decode cX4_explore 1 = .ok (.aload_n 1, 1) := by decide +kernel
theorem dX4_explore_2 : decode cX4_explore 2 = .ok (.invokevirtual 26, 3) := by decide +kernel
theorem dX4_explore_5 : decode cX4_explore 5 = .ok (.istore_n 3, 1) := by decide +kernel
theorem dX4_explore_6 : decode cX4_explore 6 = .ok (.aload_n 1, 1) := by decide +kernel
theorem dX4_explore_7 : decode cX4_explore 7 = .ok (.invokevirtual 34, 3) := by decide +kernel
theorem dX4_explore_10 : decode cX4_explore 10 = .ok (.istore 4, 2) := by decide +kernel
theorem dX4_explore_12 : decode cX4_explore 12 = .ok (.iconst 0, 1) := by decide +kernel
theorem dX4_explore_13 : decode cX4_explore 13 = .ok (.istore 5, 2) := by decide +kernel
theorem dX4_explore_15 : decode cX4_explore 15 = .ok (.iload 5, 2) := by decide +kernel
theorem dX4_explore_17 : decode cX4_explore 17 = .ok (.iload_n 3, 1) := by decide +kernel
theorem dX4_explore_18 : decode cX4_explore 18 = .ok (.if_icmp .ge 36, 3) := by decide +kernel
theorem dX4_explore_21 : decode cX4_explore 21 = .ok (.aload_n 0, 1) := by decide +kernel
theorem dX4_explore_22 : decode cX4_explore 22 = .ok (.getfield 9, 3) := by decide +kernel
theorem dX4_explore_25 : decode cX4_explore 25 = .ok (.iload 5, 2) := by decide +kernel
theorem dX4_explore_27 : decode cX4_explore 27 = .ok (.iload 5, 2) := by decide +kernel
theorem dX4_explore_29 : decode cX4_explore 29 = .ok (.iload 4, 2) := by decide +kernel
theorem dX4_explore_31 : decode cX4_explore 31 = .ok (.if_icmp .ne 7, 3) := by decide +kernel
theorem dX4_explore_34 : decode cX4_explore 34 = .ok (.iconst 1, 1) := by decide +kernel
theorem dX4_explore_35 : decode cX4_explore 35 = .ok (.goto 4, 3) := by decide +kernel
theorem dX4_explore_38 : decode cX4_explore 38 = .ok (.iconst 0, 1) := by decide +kernel
theorem dX4_explore_39 : decode cX4_explore 39 = .ok (.bastore, 1) := by decide +kernel
theorem dX4_explore_40 : decode cX4_explore 40 = .ok (.aload_n 0, 1) := by decide +kernel
theorem dX4_explore_41 : decode cX4_explore 41 = .ok (.getfield 19, 3) := by decide +kernel
theorem dX4_explore_44 : decode cX4_explore 44 = .ok (.iload 5, 2) := by decide +kernel
theorem dX4_explore_46 : decode cX4_explore 46 = .ok (.iconst (-1), 1) := by decide +kernel
theorem dX4_explore_47 : decode cX4_explore 47 = .ok (.iastore, 1) := by decide +kernel
theorem dX4_explore_48 : decode cX4_explore 48 = .ok (.iinc 5 1, 3) := by decide +kernel
theorem dX4_explore_51 : decode cX4_explore 51 = .ok (.goto (-36), 3) := by decide +kernel
theorem dX4_explore_54 : decode cX4_explore 54 = .ok (.iconst 0, 1) := by decide +kernel
theorem dX4_explore_55 : decode cX4_explore 55 = .ok (.istore 5, 2) := by decide +kernel
theorem dX4_explore_57 : decode cX4_explore 57 = .ok (.iload 5, 2) := by decide +kernel
theorem dX4_explore_59 : decode cX4_explore 59 = .ok (.iload_n 3, 1) := by decide +kernel
theorem dX4_explore_60 : decode cX4_explore 60 = .ok (.if_icmp .ge 27, 3) := by decide +kernel
theorem dX4_explore_63 : decode cX4_explore 63 = .ok (.aload_n 0, 1) := by decide +kernel
theorem dX4_explore_64 : decode cX4_explore 64 = .ok (.getfield 9, 3) := by decide +kernel
theorem dX4_explore_67 : decode cX4_explore 67 = .ok (.iload 5, 2) := by decide +kernel
theorem dX4_explore_69 : decode cX4_explore 69 = .ok (.baload, 1) := by decide +kernel
theorem dX4_explore_70 : decode cX4_explore 70 = .ok (.ifCond .eq 11, 3) := by decide +kernel
theorem dX4_explore_73 : decode cX4_explore 73 = .ok (.aload_n 0, 1) := by decide +kernel
theorem dX4_explore_74 : decode cX4_explore 74 = .ok (.aload_n 1, 1) := by decide +kernel
theorem dX4_explore_75 : decode cX4_explore 75 = .ok (.iload 5, 2) := by decide +kernel
theorem dX4_explore_77 : decode cX4_explore 77 = .ok (.iload_n 2, 1) := by decide +kernel
theorem dX4_explore_78 : decode cX4_explore 78 = .ok (.invokevirtual 64, 3) := by decide +kernel
theorem dX4_explore_81 : decode cX4_explore 81 = .ok (.iinc 5 1, 3) := by decide +kernel
theorem dX4_explore_84 : decode cX4_explore 84 = .ok (.goto (-27), 3) := by decide +kernel
theorem dX4_explore_87 : decode cX4_explore 87 = .ok (.iload_n 3, 1) := by decide +kernel
theorem dX4_explore_88 : decode cX4_explore 88 = .ok (.iconst 1, 1) := by decide +kernel
theorem dX4_explore_89 : decode cX4_explore 89 = .ok (.isub, 1) := by decide +kernel
theorem dX4_explore_90 : decode cX4_explore 90 = .ok (.istore 5, 2) := by decide +kernel
theorem dX4_explore_92 : decode cX4_explore 92 = .ok (.iload 5, 2) := by decide +kernel
theorem dX4_explore_94 : decode cX4_explore 94 = .ok (.ifCond .lt 49, 3) := by decide +kernel
theorem dX4_explore_97 : decode cX4_explore 97 = .ok (.aload_n 0, 1) := by decide +kernel
theorem dX4_explore_98 : decode cX4_explore 98 = .ok (.getfield 9, 3) := by decide +kernel
theorem dX4_explore_101 : decode cX4_explore 101 = .ok (.iload 5, 2) := by decide +kernel
theorem dX4_explore_103 : decode cX4_explore 103 = .ok (.baload, 1) := by decide +kernel
theorem dX4_explore_104 : decode cX4_explore 104 = .ok (.ifCond .eq 33, 3) := by decide +kernel
theorem dX4_explore_107 : decode cX4_explore 107 = .ok (.aload_n 0, 1) := by decide +kernel
theorem dX4_explore_108 : decode cX4_explore 108 = .ok (.getfield 19, 3) := by decide +kernel
theorem dX4_explore_111 : decode cX4_explore 111 = .ok (.iload 5, 2) := by decide +kernel
theorem dX4_explore_113 : decode cX4_explore 113 = .ok (.iload 5, 2) := by decide +kernel
theorem dX4_explore_115 : decode cX4_explore 115 = .ok (.aload_n 1, 1) := by decide +kernel
theorem dX4_explore_116 : decode cX4_explore 116 = .ok (.getfield 68, 3) := by decide +kernel
theorem dX4_explore_119 : decode cX4_explore 119 = .ok (.invokestatic 54, 3) := by decide +kernel
theorem dX4_explore_122 : decode cX4_explore 122 = .ok (.ifCond .eq 7, 3) := by decide +kernel
theorem dX4_explore_125 : decode cX4_explore 125 = .ok (.iconst 0, 1) := by decide +kernel
theorem dX4_explore_126 : decode cX4_explore 126 = .ok (.goto 10, 3) := by decide +kernel
theorem dX4_explore_129 : decode cX4_explore 129 = .ok (.aload_n 0, 1) := by decide +kernel
theorem dX4_explore_130 : decode cX4_explore 130 = .ok (.aload_n 1, 1) := by decide +kernel
theorem dX4_explore_131 : decode cX4_explore 131 = .ok (.iload 5, 2) := by decide +kernel
theorem dX4_explore_133 : decode cX4_explore 133 = .ok (.invokevirtual 71, 3) := by decide +kernel
theorem dX4_explore_136 : decode cX4_explore 136 = .ok (.iastore, 1) := by decide +kernel
theorem dX4_explore_137 : decode cX4_explore 137 = .ok (.iinc 5 (-1), 3) := by decide +kernel
theorem dX4_explore_140 : decode cX4_explore 140 = .ok (.goto (-48), 3) := by decide +kernel
theorem dX4_explore_143 : decode cX4_explore 143 = .ok (.return_, 1) := by decide +kernel
set_option maxRecDepth 20000 in
theorem ggX4_goOn_X3_thingsAtHand : GoodIn wsX4_goOn wsX3_thingsAtHand := goodIn_r _ [9, 10, 11, 12, 13, 14, 15, 16, 17, 18, 8, 19, 20, 21, 22, 23, 24, 25, 26, 27, 28, 29, 30, 39, 40, 41, 42, 43, 44, 45, 46, 47, 48, 49, 50, 54, 55, 56, 57, 58, 59, 60, 61, 62, 63, 64, 65, 66, 67, 68] (by decide +kernel) (by decide +kernel)
set_option maxRecDepth 20000 in
theorem gX4_goOn_X3_thingsAtHand : GoodIn wsX4_goOn (wsV RX4 75 RX3 yX3_thingsAtHand wsX3_thingsAtHand) := goodIn_app (goodIn_of _ (by decide +kernel)) ggX4_goOn_X3_thingsAtHand
set_option maxRecDepth 20000 in
theorem ggX4_goOn_X1_isReady : GoodIn wsX4_goOn wsX1_isReady := goodIn_r _ [35, 36, 37, 38, 54, 55, 56, 57, 58, 59, 60, 61, 62, 63] (by decide +kernel) (by decide +kernel)
set_option maxRecDepth 20000 in
theorem gX4_goOn_X1_isReady : GoodIn wsX4_goOn (wsV RX4 82 RX1 yX1_isReady wsX1_isReady) := goodIn_app (goodIn_of _ (by decide +kernel)) ggX4_goOn_X1_isReady
theorem dX4_goOn_0 : decode cX4_goOn 0 = .ok (.aload_n 1, 1) := by decide +kernel
theorem dX4_goOn_1 : decode cX4_goOn 1 = .ok (.iload_n 2, 1) := by decide +kernel
theorem dX4_goOn_2 : decode cX4_goOn 2 = .ok (.invokevirtual 75, 3) := by decide +kernel
theorem dX4_goOn_5 : decode cX4_goOn 5 = .ok (.iload_n 3, 1) := by decide +kernel
theorem dX4_goOn_6 : decode cX4_goOn 6 = .ok (.iconst (-1), 1) := by decide +kernel
theorem dX4_goOn_7 : decode cX4_goOn 7 = .ok (.ixor, 1) := by decide +kernel
theorem dX4_goOn_8 : decode cX4_goOn 8 = .ok (.iand, 1) := by decide +kernel
theorem dX4_goOn_9 : decode cX4_goOn 9 = .ok (.istore 4, 2) := by decide +kernel
theorem dX4_goOn_11 : decode cX4_goOn 11 = .ok (.iconst 0, 1) := by decide +kernel
theorem dX4_goOn_12 : decode cX4_goOn 12 = .ok (.istore 5, 2) := by decide +kernel
theorem dX4_goOn_14 : decode cX4_goOn 14 = .ok (.iconst 0, 1) := by decide +kernel
theorem dX4_goOn_15 : decode cX4_goOn 15 = .ok (.istore 6, 2) := by decide +kernel
theorem dX4_goOn_17 : decode cX4_goOn 17 = .ok (.iload 6, 2) := by decide +kernel
theorem dX4_goOn_19 : decode cX4_goOn 19 = .ok (.aload_n 1, 1) := by decide +kernel
theorem dX4_goOn_20 : decode cX4_goOn 20 = .ok (.getfield 51, 3) := by decide +kernel
theorem dX4_goOn_23 : decode cX4_goOn 23 = .ok (.if_icmp .ge 63, 3) := by decide +kernel
theorem dX4_goOn_26 : decode cX4_goOn 26 = .ok (.iload_n 2, 1) := by decide +kernel
theorem dX4_goOn_27 : decode cX4_goOn 27 = .ok (.iconst 1, 1) := by decide +kernel
theorem dX4_goOn_28 : decode cX4_goOn 28 = .ok (.iload 6, 2) := by decide +kernel
theorem dX4_goOn_30 : decode cX4_goOn 30 = .ok (.ishl, 1) := by decide +kernel
theorem dX4_goOn_31 : decode cX4_goOn 31 = .ok (.ior, 1) := by decide +kernel
theorem dX4_goOn_32 : decode cX4_goOn 32 = .ok (.istore 7, 2) := by decide +kernel
theorem dX4_goOn_34 : decode cX4_goOn 34 = .ok (.iload 7, 2) := by decide +kernel
theorem dX4_goOn_36 : decode cX4_goOn 36 = .ok (.iload_n 2, 1) := by decide +kernel
theorem dX4_goOn_37 : decode cX4_goOn 37 = .ok (.if_icmp .eq 43, 3) := by decide +kernel
theorem dX4_goOn_40 : decode cX4_goOn 40 = .ok (.iload 7, 2) := by decide +kernel
theorem dX4_goOn_42 : decode cX4_goOn 42 = .ok (.sipush 1024, 3) := by decide +kernel
theorem dX4_goOn_45 : decode cX4_goOn 45 = .ok (.if_icmp .ge 35, 3) := by decide +kernel
theorem dX4_goOn_48 : decode cX4_goOn 48 = .ok (.aload_n 1, 1) := by decide +kernel
theorem dX4_goOn_49 : decode cX4_goOn 49 = .ok (.getfield 78, 3) := by decide +kernel
theorem dX4_goOn_52 : decode cX4_goOn 52 = .ok (.iload 6, 2) := by decide +kernel
theorem dX4_goOn_54 : decode cX4_goOn 54 = .ok (.aaload, 1) := by decide +kernel
theorem dX4_goOn_55 : decode cX4_goOn 55 = .ok (.iload 4, 2) := by decide +kernel
theorem dX4_goOn_57 : decode cX4_goOn 57 = .ok (.invokevirtual 82, 3) := by decide +kernel
theorem dX4_goOn_60 : decode cX4_goOn 60 = .ok (.ifCond .eq 20, 3) := by decide +kernel
theorem dX4_goOn_63 : decode cX4_goOn 63 = .ok (.aload_n 0, 1) := by decide +kernel
theorem dX4_goOn_64 : decode cX4_goOn 64 = .ok (.getfield 9, 3) := by decide +kernel
theorem dX4_goOn_67 : decode cX4_goOn 67 = .ok (.iload 7, 2) := by decide +kernel
theorem dX4_goOn_69 : decode cX4_goOn 69 = .ok (.iconst 1, 1) := by decide +kernel
theorem dX4_goOn_70 : decode cX4_goOn 70 = .ok (.bastore, 1) := by decide +kernel
theorem dX4_goOn_71 : decode cX4_goOn 71 = .ok (.iload 5, 2) := by decide +kernel
theorem dX4_goOn_73 : decode cX4_goOn 73 = .ok (.iconst 1, 1) := by decide +kernel
theorem dX4_goOn_74 : decode cX4_goOn 74 = .ok (.iload 6, 2) := by decide +kernel
theorem dX4_goOn_76 : decode cX4_goOn 76 = .ok (.ishl, 1) := by decide +kernel
theorem dX4_goOn_77 : decode cX4_goOn 77 = .ok (.ior, 1) := by decide +kernel
theorem dX4_goOn_78 : decode cX4_goOn 78 = .ok (.istore 5, 2) := by decide +kernel
theorem dX4_goOn_80 : decode cX4_goOn 80 = .ok (.iinc 6 1, 3) := by decide +kernel
theorem dX4_goOn_83 : decode cX4_goOn 83 = .ok (.goto (-66), 3) := by decide +kernel
theorem dX4_goOn_86 : decode cX4_goOn 86 = .ok (.aload_n 0, 1) := by decide +kernel
theorem dX4_goOn_87 : decode cX4_goOn 87 = .ok (.getfield 15, 3) := by decide +kernel
theorem dX4_goOn_90 : decode cX4_goOn 90 = .ok (.iload_n 2, 1) := by decide +kernel
theorem dX4_goOn_91 : decode cX4_goOn 91 = .ok (.iload 5, 2) := by decide +kernel
theorem dX4_goOn_93 : decode cX4_goOn 93 = .ok (.iastore, 1) := by decide +kernel
theorem dX4_goOn_94 : decode cX4_goOn 94 = .ok (.return_, 1) := by decide +kernel
set_option maxRecDepth 20000 in
theorem ggX4_leastYet_X6_isIn : GoodIn wsX4_leastYet wsX6_isIn := goodIn_r _ [5] (by decide +kernel) (by decide +kernel)
set_option maxRecDepth 20000 in
theorem gX4_leastYet_X6_isIn_n54 : GoodIn wsX4_leastYet (wsX6_isIn) := ggX4_leastYet_X6_isIn
set_option maxRecDepth 20000 in
theorem ggX4_leastYet_X4_yetBehind : GoodIn wsX4_leastYet wsX4_yetBehind := goodIn_r _ [10, 11, 24, 25, 26] (by decide +kernel) (by decide +kernel)
set_option maxRecDepth 20000 in
theorem gX4_leastYet_X4_yetBehind : GoodIn wsX4_leastYet (wsV RX4 40 RX4 yX4_yetBehind wsX4_yetBehind) := goodIn_app (goodIn_of _ (by decide +kernel)) ggX4_leastYet_X4_yetBehind
theorem dX4_leastYet_0 : decode cX4_leastYet 0 = .ok (.iconst (-1), 1) := by decide +kernel
theorem dX4_leastYet_1 : decode cX4_leastYet 1 = .ok (.istore_n 3, 1) := by decide +kernel
theorem dX4_leastYet_2 : decode cX4_leastYet 2 = .ok (.iconst 0, 1) := by decide +kernel
theorem dX4_leastYet_3 : decode cX4_leastYet 3 = .ok (.istore 4, 2) := by decide +kernel
theorem dX4_leastYet_5 : decode cX4_leastYet 5 = .ok (.iload 4, 2) := by decide +kernel
theorem dX4_leastYet_7 : decode cX4_leastYet 7 = .ok (.aload_n 1, 1) := by decide +kernel
theorem dX4_leastYet_8 : decode cX4_leastYet 8 = .ok (.getfield 51, 3) := by decide +kernel
theorem dX4_leastYet_11 : decode cX4_leastYet 11 = .ok (.if_icmp .ge 63, 3) := by decide +kernel
theorem dX4_leastYet_14 : decode cX4_leastYet 14 = .ok (.aload_n 0, 1) := by decide +kernel
theorem dX4_leastYet_15 : decode cX4_leastYet 15 = .ok (.getfield 15, 3) := by decide +kernel
theorem dX4_leastYet_18 : decode cX4_leastYet 18 = .ok (.iload_n 2, 1) := by decide +kernel
theorem dX4_leastYet_19 : decode cX4_leastYet 19 = .ok (.iaload, 1) := by decide +kernel
theorem dX4_leastYet_20 : decode cX4_leastYet 20 = .ok (.iload 4, 2) := by decide +kernel
theorem dX4_leastYet_22 : decode cX4_leastYet 22 = .ok (.invokestatic 54, 3) := by decide +kernel
theorem dX4_leastYet_25 : decode cX4_leastYet 25 = .ok (.ifCond .eq 16, 3) := by decide +kernel
theorem dX4_leastYet_28 : decode cX4_leastYet 28 = .ok (.aload_n 0, 1) := by decide +kernel
theorem dX4_leastYet_29 : decode cX4_leastYet 29 = .ok (.iload_n 2, 1) := by decide +kernel
theorem dX4_leastYet_30 : decode cX4_leastYet 30 = .ok (.iconst 1, 1) := by decide +kernel
theorem dX4_leastYet_31 : decode cX4_leastYet 31 = .ok (.iload 4, 2) := by decide +kernel
theorem dX4_leastYet_33 : decode cX4_leastYet 33 = .ok (.ishl, 1) := by decide +kernel
theorem dX4_leastYet_34 : decode cX4_leastYet 34 = .ok (.ior, 1) := by decide +kernel
theorem dX4_leastYet_35 : decode cX4_leastYet 35 = .ok (.invokevirtual 40, 3) := by decide +kernel
theorem dX4_leastYet_38 : decode cX4_leastYet 38 = .ok (.goto 4, 3) := by decide +kernel
theorem dX4_leastYet_41 : decode cX4_leastYet 41 = .ok (.iconst (-1), 1) := by decide +kernel
theorem dX4_leastYet_42 : decode cX4_leastYet 42 = .ok (.istore 5, 2) := by decide +kernel
theorem dX4_leastYet_44 : decode cX4_leastYet 44 = .ok (.iload 5, 2) := by decide +kernel
theorem dX4_leastYet_46 : decode cX4_leastYet 46 = .ok (.iconst (-1), 1) := by decide +kernel
theorem dX4_leastYet_47 : decode cX4_leastYet 47 = .ok (.if_icmp .eq 21, 3) := by decide +kernel
theorem dX4_leastYet_50 : decode cX4_leastYet 50 = .ok (.iload_n 3, 1) := by decide +kernel
theorem dX4_leastYet_51 : decode cX4_leastYet 51 = .ok (.iconst (-1), 1) := by decide +kernel
theorem dX4_leastYet_52 : decode cX4_leastYet 52 = .ok (.if_icmp .eq 11, 3) := by decide +kernel
theorem dX4_leastYet_55 : decode cX4_leastYet 55 = .ok (.iload 5, 2) := by decide +kernel
theorem dX4_leastYet_57 : decode cX4_leastYet 57 = .ok (.iconst 1, 1) := by decide +kernel
theorem dX4_leastYet_58 : decode cX4_leastYet 58 = .ok (.iadd, 1) := by decide +kernel
theorem dX4_leastYet_59 : decode cX4_leastYet 59 = .ok (.iload_n 3, 1) := by decide +kernel
theorem dX4_leastYet_60 : decode cX4_leastYet 60 = .ok (.if_icmp .ge 8, 3) := by decide +kernel
theorem dX4_leastYet_63 : decode cX4_leastYet 63 = .ok (.iload 5, 2) := by decide +kernel
theorem dX4_leastYet_65 : decode cX4_leastYet 65 = .ok (.iconst 1, 1) := by decide +kernel
theorem dX4_leastYet_66 : decode cX4_leastYet 66 = .ok (.iadd, 1) := by decide +kernel
theorem dX4_leastYet_67 : decode cX4_leastYet 67 = .ok (.istore_n 3, 1) := by decide +kernel
theorem dX4_leastYet_68 : decode cX4_leastYet 68 = .ok (.iinc 4 1, 3) := by decide +kernel
theorem dX4_leastYet_71 : decode cX4_leastYet 71 = .ok (.goto (-66), 3) := by decide +kernel
theorem dX4_leastYet_74 : decode cX4_leastYet 74 = .ok (.iload_n 3, 1) := by decide +kernel
theorem dX4_leastYet_75 : decode cX4_leastYet 75 = .ok (.ireturn, 1) := by decide +kernel
theorem dX5_init_0 : decode cX5_init 0 = .ok (.aload_n 0, 1) := by decide +kernel
theorem dX5_init_1 : decode cX5_init 1 = .ok (.invokespecial 3, 3) := by decide +kernel
theorem dX5_init_4 : decode cX5_init 4 = .ok (.return_, 1) := by decide +kernel
theorem dX5_canBeReached_0 : decode cX5_canBeReached 0 = .ok (.aload_n 0, 1) := by decide +kernel
theorem dX5_canBeReached_1 : decode cX5_canBeReached 1 = .ok (.getfield 21, 3) := by decide +kernel
theorem dX5_canBeReached_4 : decode cX5_canBeReached 4 = .ok (.ifCond .ne 27, 3) := by decide +kernel
theorem dX5_canBeReached_7 : decode cX5_canBeReached 7 = .ok (.aload_n 0, 1) := by decide +kernel
theorem dX5_canBeReached_8 : decode cX5_canBeReached 8 = .ok (.getfield 9, 3) := by decide +kernel
theorem dX5_canBeReached_11 : decode cX5_canBeReached 11 = .ok (.iconst (-1), 1) := by decide +kernel
theorem dX5_canBeReached_12 : decode cX5_canBeReached 12 = .ok (.if_icmp .eq 15, 3) := by decide +kernel
theorem dX5_canBeReached_27 : decode cX5_canBeReached 27 = .ok (.iconst 1, 1) := by decide +kernel
theorem dX5_canBeReached_28 : decode cX5_canBeReached 28 = .ok (.goto 4, 3) := by decide +kernel
theorem dX5_canBeReached_32 : decode cX5_canBeReached 32 = .ok (.ireturn, 1) := by decide +kernel
set_option maxRecDepth 20000 in
theorem ggX6_init_X3_init : GoodIn wsX6_init wsX3_init := goodIn_r _ [15, 16, 2, 3, 17, 18, 19, 20, 21, 22, 23, 24, 25, 26, 27, 28, 29, 30, 31, 32, 33, 34, 35, 36, 37, 38, 39, 40, 41, 42, 43, 44, 45, 46, 47, 56, 57, 58, 59, 60, 61, 62, 63, 64, 65, 66, 67, 74, 75, 76, 77, 78, 79, 80, 81, 82, 83, 84, 85, 86, 87, 88, 89, 90, 91, 92, 93, 94, 95, 96, 97, 98, 99] (by decide +kernel) (by decide +kernel)
set_option maxRecDepth 20000 in
theorem gX6_init_X3_init : GoodIn wsX6_init (wsX3_init) := ggX6_init_X3_init
set_option maxRecDepth 20000 in
theorem ggX6_init_X4_init : GoodIn wsX6_init wsX4_init := goodIn_r _ [49, 50, 2, 3, 51, 52, 53, 54, 55, 71, 72, 73] (by decide +kernel) (by decide +kernel)
set_option maxRecDepth 20000 in
theorem gX6_init_X4_init_n21 : GoodIn wsX6_init (wsX4_init) := ggX6_init_X4_init
theorem dX6_init_0 : decode cX6_init 0 = .ok (.aload_n 0, 1) := by decide +kernel
theorem dX6_init_1 : decode cX6_init 1 = .ok (.invokespecial 3, 3) := by decide +kernel
theorem dX6_init_4 : decode cX6_init 4 = .ok (.aload_n 0, 1) := by decide +kernel
theorem dX6_init_5 : decode cX6_init 5 = .ok (.new 9, 3) := by decide +kernel
theorem dX6_init_8 : decode cX6_init 8 = .ok (.dup, 1) := by decide +kernel
theorem dX6_init_9 : decode cX6_init 9 = .ok (.invokespecial 11, 3) := by decide +kernel
theorem dX6_init_12 : decode cX6_init 12 = .ok (.putfield 12, 3) := by decide +kernel
theorem dX6_init_15 : decode cX6_init 15 = .ok (.aload_n 0, 1) := by decide +kernel
theorem dX6_init_16 : decode cX6_init 16 = .ok (.new 9, 3) := by decide +kernel
theorem dX6_init_19 : decode cX6_init 19 = .ok (.dup, 1) := by decide +kernel
theorem dX6_init_20 : decode cX6_init 20 = .ok (.invokespecial 11, 3) := by decide +kernel
theorem dX6_init_23 : decode cX6_init 23 = .ok (.putfield 16, 3) := by decide +kernel
theorem dX6_init_26 : decode cX6_init 26 = .ok (.aload_n 0, 1) := by decide +kernel
theorem dX6_init_27 : decode cX6_init 27 = .ok (.new 19, 3) := by decide +kernel
theorem dX6_init_30 : decode cX6_init 30 = .ok (.dup, 1) := by decide +kernel
theorem dX6_init_31 : decode cX6_init 31 = .ok (.invokespecial 21, 3) := by decide +kernel
theorem dX6_init_34 : decode cX6_init 34 = .ok (.putfield 22, 3) := by decide +kernel
theorem dX6_init_37 : decode cX6_init 37 = .ok (.return_, 1) := by decide +kernel
set_option maxRecDepth 20000 in
theorem ggX6_lock_X6_isWithin : GoodIn wsX6_lock wsX6_isWithin := goodIn_r _ [12] (by decide +kernel) (by decide +kernel)
set_option maxRecDepth 20000 in
theorem gX6_lock_X6_isWithin : GoodIn wsX6_lock (va_wsS RX6 26 yX6_isWithin wsX6_isWithin) := goodIn_app (goodIn_of _ (by decide +kernel)) ggX6_lock_X6_isWithin
set_option maxRecDepth 20000 in
theorem ggX6_lock_X3_addLock : GoodIn wsX6_lock wsX3_addLock := goodIn_r _ [17, 18, 19, 20, 21, 22, 23, 24, 28, 29, 30, 31, 32, 33, 34, 35, 36, 37, 38, 39, 47, 48, 49, 50, 51, 52, 53, 54, 55, 56] (by decide +kernel) (by decide +kernel)
set_option maxRecDepth 20000 in
theorem gX6_lock_X3_addLock : GoodIn wsX6_lock (wsV RX6 56 RX3 yX3_addLock wsX3_addLock) := goodIn_app (goodIn_of _ (by decide +kernel)) ggX6_lock_X3_addLock
theorem dX6_lock_0 : decode cX6_lock 0 = .ok (.iload_n 1, 1) := by decide +kernel
theorem dX6_lock_1 : decode cX6_lock 1 = .ok (.ifCond .lt 28, 3) := by decide +kernel
theorem dX6_lock_4 : decode cX6_lock 4 = .ok (.iload_n 1, 1) := by decide +kernel
theorem dX6_lock_5 : decode cX6_lock 5 = .ok (.sipush 4095, 3) := by decide +kernel
theorem dX6_lock_8 : decode cX6_lock 8 = .ok (.if_icmp .gt 21, 3) := by decide +kernel
theorem dX6_lock_11 : decode cX6_lock 11 = .ok (.iload_n 2, 1) := by decide +kernel
theorem dX6_lock_12 : decode cX6_lock 12 = .ok (.iload_n 1, 1) := by decide +kernel
theorem dX6_lock_13 : decode cX6_lock 13 = .ok (.iconst (-1), 1) := by decide +kernel
theorem dX6_lock_14 : decode cX6_lock 14 = .ok (.ixor, 1) := by decide +kernel
theorem dX6_lock_15 : decode cX6_lock 15 = .ok (.iand, 1) := by decide +kernel
theorem dX6_lock_16 : decode cX6_lock 16 = .ok (.ifCond .ne 13, 3) := by decide +kernel
theorem dX6_lock_19 : decode cX6_lock 19 = .ok (.iload_n 3, 1) := by decide +kernel
theorem dX6_lock_20 : decode cX6_lock 20 = .ok (.iconst 1, 1) := by decide +kernel
theorem dX6_lock_21 : decode cX6_lock 21 = .ok (.bipush 60, 2) := by decide +kernel
theorem dX6_lock_23 : decode cX6_lock 23 = .ok (.invokestatic 26, 3) := by decide +kernel
theorem dX6_lock_26 : decode cX6_lock 26 = .ok (.ifCond .ne 13, 3) := by decide +kernel
theorem dX6_lock_39 : decode cX6_lock 39 = .ok (.aload_n 0, 1) := by decide +kernel
theorem dX6_lock_40 : decode cX6_lock 40 = .ok (.getfield 12, 3) := by decide +kernel
theorem dX6_lock_43 : decode cX6_lock 43 = .ok (.getfield 37, 3) := by decide +kernel
theorem dX6_lock_46 : decode cX6_lock 46 = .ok (.bipush 10, 2) := by decide +kernel
theorem dX6_lock_48 : decode cX6_lock 48 = .ok (.if_icmp .ge 16, 3) := by decide +kernel
theorem dX6_lock_51 : decode cX6_lock 51 = .ok (.aload_n 0, 1) := by decide +kernel
theorem dX6_lock_52 : decode cX6_lock 52 = .ok (.getfield 12, 3) := by decide +kernel
theorem dX6_lock_55 : decode cX6_lock 55 = .ok (.getfield 41, 3) := by decide +kernel
theorem dX6_lock_58 : decode cX6_lock 58 = .ok (.getfield 45, 3) := by decide +kernel
theorem dX6_lock_61 : decode cX6_lock 61 = .ok (.ifCond .eq 13, 3) := by decide +kernel
theorem dX6_lock_74 : decode cX6_lock 74 = .ok (.aload_n 0, 1) := by decide +kernel
theorem dX6_lock_75 : decode cX6_lock 75 = .ok (.getfield 12, 3) := by decide +kernel
theorem dX6_lock_78 : decode cX6_lock 78 = .ok (.iload_n 1, 1) := by decide +kernel
theorem dX6_lock_79 : decode cX6_lock 79 = .ok (.iload_n 2, 1) := by decide +kernel
theorem dX6_lock_80 : decode cX6_lock 80 = .ok (.iload_n 3, 1) := by decide +kernel
theorem dX6_lock_81 : decode cX6_lock 81 = .ok (.iload 4, 2) := by decide +kernel
theorem dX6_lock_83 : decode cX6_lock 83 = .ok (.iload 5, 2) := by decide +kernel
theorem dX6_lock_85 : decode cX6_lock 85 = .ok (.invokevirtual 56, 3) := by decide +kernel
theorem dX6_lock_88 : decode cX6_lock 88 = .ok (.ireturn, 1) := by decide +kernel
set_option maxRecDepth 20000 in
theorem ggX6_thing_X6_isWithin : GoodIn wsX6_thing wsX6_isWithin := goodIn_r _ [20] (by decide +kernel) (by decide +kernel)
set_option maxRecDepth 20000 in
theorem gX6_thing_X6_isWithin : GoodIn wsX6_thing (va_wsS RX6 26 yX6_isWithin wsX6_isWithin) := goodIn_app (goodIn_of _ (by decide +kernel)) ggX6_thing_X6_isWithin
set_option maxRecDepth 20000 in
theorem ggX6_thing_X3_addThing : GoodIn wsX6_thing wsX3_addThing := goodIn_r _ [24, 25, 26, 27, 28, 32, 33, 34, 35, 36, 37, 38, 39, 40, 41, 42, 43, 51, 52, 53, 54, 55] (by decide +kernel) (by decide +kernel)
set_option maxRecDepth 20000 in
theorem gX6_thing_X3_addThing : GoodIn wsX6_thing (wsV RX6 76 RX3 yX3_addThing wsX3_addThing) := goodIn_app (goodIn_of _ (by decide +kernel)) ggX6_thing_X3_addThing
theorem dX6_thing_0 : decode cX6_thing 0 = .ok (.iload_n 1, 1) := by decide +kernel
theorem dX6_thing_1 : decode cX6_thing 1 = .ok (.iconst (-1), 1) := by decide +kernel
theorem dX6_thing_2 : decode cX6_thing 2 = .ok (.if_icmp .eq 24, 3) := by decide +kernel
theorem dX6_thing_26 : decode cX6_thing 26 = .ok (.iload_n 2, 1) := by decide +kernel
theorem dX6_thing_27 : decode cX6_thing 27 = .ok (.iconst 0, 1) := by decide +kernel
theorem dX6_thing_28 : decode cX6_thing 28 = .ok (.bipush 9, 2) := by decide +kernel
theorem dX6_thing_30 : decode cX6_thing 30 = .ok (.invokestatic 26, 3) := by decide +kernel
theorem dX6_thing_33 : decode cX6_thing 33 = .ok (.ifCond .ne 13, 3) := by decide +kernel
theorem dX6_thing_46 : decode cX6_thing 46 = .ok (.aload_n 0, 1) := by decide +kernel
theorem dX6_thing_47 : decode cX6_thing 47 = .ok (.getfield 12, 3) := by decide +kernel
theorem dX6_thing_50 : decode cX6_thing 50 = .ok (.getfield 71, 3) := by decide +kernel
theorem dX6_thing_53 : decode cX6_thing 53 = .ok (.bipush 12, 2) := by decide +kernel
theorem dX6_thing_55 : decode cX6_thing 55 = .ok (.if_icmp .ge 16, 3) := by decide +kernel
theorem dX6_thing_58 : decode cX6_thing 58 = .ok (.aload_n 0, 1) := by decide +kernel
theorem dX6_thing_59 : decode cX6_thing 59 = .ok (.getfield 12, 3) := by decide +kernel
theorem dX6_thing_62 : decode cX6_thing 62 = .ok (.getfield 41, 3) := by decide +kernel
theorem dX6_thing_65 : decode cX6_thing 65 = .ok (.getfield 45, 3) := by decide +kernel
theorem dX6_thing_68 : decode cX6_thing 68 = .ok (.ifCond .eq 13, 3) := by decide +kernel
theorem dX6_thing_81 : decode cX6_thing 81 = .ok (.aload_n 0, 1) := by decide +kernel
theorem dX6_thing_82 : decode cX6_thing 82 = .ok (.getfield 12, 3) := by decide +kernel
theorem dX6_thing_85 : decode cX6_thing 85 = .ok (.iload_n 1, 1) := by decide +kernel
theorem dX6_thing_86 : decode cX6_thing 86 = .ok (.iload_n 2, 1) := by decide +kernel
theorem dX6_thing_87 : decode cX6_thing 87 = .ok (.invokevirtual 76, 3) := by decide +kernel
theorem dX6_thing_90 : decode cX6_thing 90 = .ok (.ireturn, 1) := by decide +kernel
set_option maxRecDepth 20000 in
theorem ggX6_canEnd_X4_findDepth : GoodIn wsX6_canEnd wsX4_findDepth := goodIn_r _ [7, 8, 9, 10, 6, 11, 12, 13, 14, 15, 16, 17, 18, 19, 20, 21, 22, 23, 24, 25, 26, 27, 28, 29, 30, 31, 32, 33, 34, 35, 36, 37, 38, 39, 40, 41, 42, 43, 44, 45, 46, 47, 48, 49, 50, 51, 52, 53, 54, 55, 56, 57, 58, 59, 60, 61, 62, 63, 64, 65, 66, 67, 68, 69, 70, 71, 72, 73, 74, 75, 79, 80, 81, 82, 83, 84, 85, 86, 87, 88, 89, 90, 91, 92, 93, 94, 95, 96, 97, 98, 99, 100, 101, 102, 103, 104, 105, 106, 107, 108] (by decide +kernel) (by decide +kernel)
set_option maxRecDepth 20000 in
theorem gX6_canEnd_X4_findDepth : GoodIn wsX6_canEnd (wsV RX6 239 RX4 yX4_findDepth wsX4_findDepth) := goodIn_app (goodIn_of _ (by decide +kernel)) ggX6_canEnd_X4_findDepth
theorem dX6_canEnd_0 : decode cX6_canEnd 0 = .ok (.aload_n 0, 1) := by decide +kernel
theorem dX6_canEnd_1 : decode cX6_canEnd 1 = .ok (.getfield 22, 3) := by decide +kernel
theorem dX6_canEnd_4 : decode cX6_canEnd 4 = .ok (.aload_n 0, 1) := by decide +kernel
theorem dX6_canEnd_5 : decode cX6_canEnd 5 = .ok (.getfield 12, 3) := by decide +kernel
theorem dX6_canEnd_8 : decode cX6_canEnd 8 = .ok (.invokevirtual 239, 3) := by decide +kernel
theorem dX6_canEnd_11 : decode cX6_canEnd 11 = .ok (.iconst (-1), 1) := by decide +kernel
theorem dX6_canEnd_12 : decode cX6_canEnd 12 = .ok (.if_icmp .eq 7, 3) := by decide +kernel
theorem dX6_canEnd_15 : decode cX6_canEnd 15 = .ok (.iconst 1, 1) := by decide +kernel
theorem dX6_canEnd_16 : decode cX6_canEnd 16 = .ok (.goto 4, 3) := by decide +kernel
theorem dX6_canEnd_20 : decode cX6_canEnd 20 = .ok (.ireturn, 1) := by decide +kernel
set_option maxRecDepth 20000 in
theorem ggX6_stands_X4_countReached : GoodIn wsX6_stands wsX4_countReached := goodIn_r _ [7, 8, 9, 10, 11, 6, 12, 13, 14, 15, 16, 17, 18, 19, 20, 21, 22, 23, 24, 25, 26, 27, 28, 29, 30, 31, 32, 33, 34, 35, 36, 37, 38, 39, 40, 41, 42, 43, 44, 45, 46, 47, 48, 49, 50, 51, 52, 53, 54, 55, 56, 57, 58, 59, 60, 61, 62, 63, 64, 65, 66, 67, 68, 69, 70, 71, 72, 73, 74, 75, 76, 77, 81, 82, 83, 84, 85, 86, 87, 88, 89, 90, 91, 92, 93, 94, 95, 96, 97, 98, 99, 100, 101, 102, 103, 104, 105, 106, 107, 108, 109, 110] (by decide +kernel) (by decide +kernel)
set_option maxRecDepth 20000 in
theorem gX6_stands_X4_countReached : GoodIn wsX6_stands (wsV RX6 243 RX4 yX4_countReached wsX4_countReached) := goodIn_app (goodIn_of _ (by decide +kernel)) ggX6_stands_X4_countReached
theorem dX6_stands_0 : decode cX6_stands 0 = .ok (.aload_n 0, 1) := by decide +kernel
theorem dX6_stands_1 : decode cX6_stands 1 = .ok (.getfield 22, 3) := by decide +kernel
theorem dX6_stands_4 : decode cX6_stands 4 = .ok (.aload_n 0, 1) := by decide +kernel
theorem dX6_stands_5 : decode cX6_stands 5 = .ok (.getfield 12, 3) := by decide +kernel
theorem dX6_stands_8 : decode cX6_stands 8 = .ok (.invokevirtual 243, 3) := by decide +kernel
theorem dX6_stands_11 : decode cX6_stands 11 = .ok (.ireturn, 1) := by decide +kernel
set_option maxRecDepth 20000 in
theorem ggX6_deadEnds_X4_countDeadEnds : GoodIn wsX6_deadEnds wsX4_countDeadEnds := goodIn_r _ [7, 8, 9, 10, 11, 12, 6, 13, 14, 15, 16, 17, 18, 19, 20, 21, 22, 23, 24, 25, 26, 27, 28, 29, 30, 31, 32, 33, 34, 35, 36, 37, 38, 39, 40, 41, 42, 43, 44, 45, 46, 47, 48, 49, 50, 51, 52, 53, 54, 55, 56, 57, 58, 59, 60, 61, 62, 63, 64, 65, 66, 67, 68, 69, 70, 71, 72, 73, 74, 75, 76, 77, 81, 82, 83, 84, 85, 86, 87, 88, 89, 90, 91, 92, 93, 94, 95, 96, 97, 98, 99, 100, 101, 102, 103, 104, 105, 106, 107, 108, 109, 110] (by decide +kernel) (by decide +kernel)
set_option maxRecDepth 20000 in
theorem gX6_deadEnds_X4_countDeadEnds : GoodIn wsX6_deadEnds (wsV RX6 246 RX4 yX4_countDeadEnds wsX4_countDeadEnds) := goodIn_app (goodIn_of _ (by decide +kernel)) ggX6_deadEnds_X4_countDeadEnds
theorem dX6_deadEnds_0 : decode cX6_deadEnds 0 = .ok (.aload_n 0, 1) := by decide +kernel
theorem dX6_deadEnds_1 : decode cX6_deadEnds 1 = .ok (.getfield 22, 3) := by decide +kernel
theorem dX6_deadEnds_4 : decode cX6_deadEnds 4 = .ok (.aload_n 0, 1) := by decide +kernel
theorem dX6_deadEnds_5 : decode cX6_deadEnds 5 = .ok (.getfield 12, 3) := by decide +kernel
theorem dX6_deadEnds_8 : decode cX6_deadEnds 8 = .ok (.invokevirtual 246, 3) := by decide +kernel
theorem dX6_deadEnds_11 : decode cX6_deadEnds 11 = .ok (.ireturn, 1) := by decide +kernel
set_option maxRecDepth 20000 in
theorem ggX6_depth_X4_findDepth : GoodIn wsX6_depth wsX4_findDepth := goodIn_r _ [7, 8, 9, 10, 6, 11, 12, 13, 14, 15, 16, 17, 18, 19, 20, 21, 22, 23, 24, 25, 26, 27, 28, 29, 30, 31, 32, 33, 34, 35, 36, 37, 38, 39, 40, 41, 42, 43, 44, 45, 46, 47, 48, 49, 50, 51, 52, 53, 54, 55, 56, 57, 58, 59, 60, 61, 62, 63, 64, 65, 66, 67, 68, 69, 70, 71, 72, 73, 74, 75, 79, 80, 81, 82, 83, 84, 85, 86, 87, 88, 89, 90, 91, 92, 93, 94, 95, 96, 97, 98, 99, 100, 101, 102, 103, 104, 105, 106, 107, 108] (by decide +kernel) (by decide +kernel)
set_option maxRecDepth 20000 in
theorem gX6_depth_X4_findDepth : GoodIn wsX6_depth (wsV RX6 239 RX4 yX4_findDepth wsX4_findDepth) := goodIn_app (goodIn_of _ (by decide +kernel)) ggX6_depth_X4_findDepth
theorem dX6_depth_0 : decode cX6_depth 0 = .ok (.aload_n 0, 1) := by decide +kernel
theorem dX6_depth_1 : decode cX6_depth 1 = .ok (.getfield 22, 3) := by decide +kernel
theorem dX6_depth_4 : decode cX6_depth 4 = .ok (.aload_n 0, 1) := by decide +kernel
theorem dX6_depth_5 : decode cX6_depth 5 = .ok (.getfield 12, 3) := by decide +kernel
theorem dX6_depth_8 : decode cX6_depth 8 = .ok (.invokevirtual 239, 3) := by decide +kernel
theorem dX6_depth_11 : decode cX6_depth 11 = .ok (.ireturn, 1) := by decide +kernel
set_option maxRecDepth 20000 in
theorem ggX6_cannotMiss_X4_findMusts : GoodIn wsX6_cannotMiss wsX4_findMusts := goodIn_r _ [7, 8, 9, 10, 11, 12, 13, 14, 15, 16, 17, 18, 19, 6, 20, 21, 22, 23, 24, 25, 26, 27, 28, 29, 30, 31, 32, 33, 34, 35, 36, 37, 38, 39, 40, 41, 42, 43, 44, 45, 46, 47, 48, 49, 50, 51, 52, 53, 54, 55, 56, 57, 58, 59, 60, 61, 62, 63, 64, 65, 66, 67, 68, 69, 70, 71, 72, 73, 74, 75, 76, 80, 81, 82, 83, 84, 85, 86, 87, 88, 89, 90, 91, 92, 93, 94, 95, 96, 97, 98, 99, 100, 101, 102, 103, 104, 105, 106, 107, 108, 109] (by decide +kernel) (by decide +kernel)
set_option maxRecDepth 20000 in
theorem gX6_cannotMiss_X4_findMusts : GoodIn wsX6_cannotMiss (wsV RX6 249 RX4 yX4_findMusts wsX4_findMusts) := goodIn_app (goodIn_of _ (by decide +kernel)) ggX6_cannotMiss_X4_findMusts
theorem dX6_cannotMiss_0 : decode cX6_cannotMiss 0 = .ok (.aload_n 0, 1) := by decide +kernel
theorem dX6_cannotMiss_1 : decode cX6_cannotMiss 1 = .ok (.getfield 22, 3) := by decide +kernel
theorem dX6_cannotMiss_4 : decode cX6_cannotMiss 4 = .ok (.aload_n 0, 1) := by decide +kernel
theorem dX6_cannotMiss_5 : decode cX6_cannotMiss 5 = .ok (.getfield 12, 3) := by decide +kernel
theorem dX6_cannotMiss_8 : decode cX6_cannotMiss 8 = .ok (.invokevirtual 249, 3) := by decide +kernel
theorem dX6_cannotMiss_11 : decode cX6_cannotMiss 11 = .ok (.ireturn, 1) := by decide +kernel
set_option maxRecDepth 20000 in
theorem ggX6_bestHint_X4_findBestReady : GoodIn wsX6_bestHint wsX4_findBestReady := goodIn_r _ [7, 8, 9, 10, 11, 6, 12, 13, 14, 15, 16, 17, 18, 19, 20, 21, 22, 23, 24, 25, 26, 27, 28, 29, 30, 31, 32, 33, 34, 35, 36, 37, 38, 39, 40, 41, 42, 43, 44, 45, 46, 47, 48, 49, 50, 51, 52, 53, 54, 55, 56, 57, 58, 59, 60, 61, 62, 63, 64, 65, 66, 67, 68, 69, 70, 71, 72, 73, 74, 75, 76, 77, 78, 79, 80, 84, 85, 86, 87, 88, 89, 90, 91, 92, 93, 94, 95, 96, 97, 98, 99, 100, 101, 102, 103, 104, 105, 106, 107, 108, 109, 110, 111, 112, 113] (by decide +kernel) (by decide +kernel)
set_option maxRecDepth 20000 in
theorem gX6_bestHint_X4_findBestReady : GoodIn wsX6_bestHint (wsV RX6 252 RX4 yX4_findBestReady wsX4_findBestReady) := goodIn_app (goodIn_of _ (by decide +kernel)) ggX6_bestHint_X4_findBestReady
theorem dX6_bestHint_0 : decode cX6_bestHint 0 = .ok (.aload_n 0, 1) := by decide +kernel
theorem dX6_bestHint_1 : decode cX6_bestHint 1 = .ok (.getfield 22, 3) := by decide +kernel
theorem dX6_bestHint_4 : decode cX6_bestHint 4 = .ok (.aload_n 0, 1) := by decide +kernel
theorem dX6_bestHint_5 : decode cX6_bestHint 5 = .ok (.getfield 12, 3) := by decide +kernel
theorem dX6_bestHint_8 : decode cX6_bestHint 8 = .ok (.invokevirtual 252, 3) := by decide +kernel
theorem dX6_bestHint_11 : decode cX6_bestHint 11 = .ok (.ireturn, 1) := by decide +kernel
theorem dX6_endsAt_0 : decode cX6_endsAt 0 = .ok (.aload_n 0, 1) := by decide +kernel
theorem dX6_endsAt_1 : decode cX6_endsAt 1 = .ok (.getfield 12, 3) := by decide +kernel
theorem dX6_endsAt_4 : decode cX6_endsAt 4 = .ok (.getfield 41, 3) := by decide +kernel
theorem dX6_endsAt_7 : decode cX6_endsAt 7 = .ok (.getfield 45, 3) := by decide +kernel
theorem dX6_endsAt_10 : decode cX6_endsAt 10 = .ok (.ifCond .ne 5, 3) := by decide +kernel
theorem dX6_endsAt_13 : decode cX6_endsAt 13 = .ok (.iconst (-1), 1) := by decide +kernel
theorem dX6_endsAt_14 : decode cX6_endsAt 14 = .ok (.ireturn, 1) := by decide +kernel
set_option maxRecDepth 20000 in
theorem ggX6_digest_X3_tell : GoodIn wsX6_digest wsX3_tell := goodIn_r _ [7, 8, 9, 10, 11, 12, 13, 14, 15, 16, 17, 18, 19, 20, 21, 22, 23, 24, 25, 26, 27, 28, 6, 29, 30, 31, 32, 33, 34, 35, 36, 37, 38, 39, 40, 41, 42, 43, 44, 45, 46, 47, 48, 49, 319, 320, 321, 322, 323, 324, 325, 326, 327, 328, 329, 330, 331, 332, 333, 334, 335, 336, 337, 338, 339, 340, 341, 342, 343, 344, 345, 346, 347, 348, 349, 350, 351, 352] (by decide +kernel) (by decide +kernel)
set_option maxRecDepth 20000 in
theorem gX6_digest_X3_tell : GoodIn wsX6_digest (wsV RX6 229 RX3 yX3_tell wsX3_tell) := goodIn_app (goodIn_of _ (by decide +kernel)) ggX6_digest_X3_tell
set_option maxRecDepth 20000 in
theorem ggX6_digest_X6_mix : GoodIn wsX6_digest wsX6_mix := goodIn_r _ [52, 53] (by decide +kernel) (by decide +kernel)
set_option maxRecDepth 20000 in
theorem gX6_digest_X6_mix : GoodIn wsX6_digest (va_wsS RX6 261 yX6_mix wsX6_mix) := goodIn_app (goodIn_of _ (by decide +kernel)) ggX6_digest_X6_mix
set_option maxRecDepth 20000 in
theorem ggX6_digest_X6_mixLocks : GoodIn wsX6_digest wsX6_mixLocks := goodIn_r _ [57, 2, 58, 59, 60, 61, 6, 62, 30, 63, 64, 65, 66, 31, 67, 68, 69, 70, 71, 72, 73, 74, 9, 23, 24, 25, 36, 37, 38, 39, 10, 40, 41, 42, 43, 44, 45, 46, 47, 48, 49, 50, 51, 52, 53, 316, 317, 318, 319, 320, 321, 322, 323, 324, 325, 326, 327, 328, 329, 330, 338, 339, 340, 341, 342, 343, 344, 345, 346, 347, 348, 349, 350, 351, 352] (by decide +kernel) (by decide +kernel)
set_option maxRecDepth 20000 in
theorem gX6_digest_X6_mixLocks : GoodIn wsX6_digest (wsV RX6 265 RX6 yX6_mixLocks wsX6_mixLocks) := goodIn_app (goodIn_of _ (by decide +kernel)) ggX6_digest_X6_mixLocks
set_option maxRecDepth 20000 in
theorem ggX6_digest_X6_mixThings : GoodIn wsX6_digest wsX6_mixThings := goodIn_r _ [78, 2, 79, 80, 81, 82, 6, 83, 40, 84, 85, 86, 41, 87, 88, 89, 90, 10, 26, 27, 28, 29, 9, 30, 31, 91, 92, 93, 94, 95, 96, 97, 23, 24, 25, 98, 99, 100, 101, 63, 102, 103, 50, 51, 52, 53, 316, 317, 318, 319, 320, 321, 322, 323, 324, 325, 326, 327, 328, 329, 330, 348, 349, 350, 351, 352, 338, 339, 340, 341, 342, 343, 344, 345, 346, 347] (by decide +kernel) (by decide +kernel)
set_option maxRecDepth 20000 in
theorem gX6_digest_X6_mixThings : GoodIn wsX6_digest (wsV RX6 269 RX6 yX6_mixThings wsX6_mixThings) := goodIn_app (goodIn_of _ (by decide +kernel)) ggX6_digest_X6_mixThings
set_option maxRecDepth 20000 in
theorem ggX6_digest_X6_mixPlayers : GoodIn wsX6_digest wsX6_mixPlayers := goodIn_r _ [107, 2, 108, 109, 110, 111, 6, 112, 113, 114, 115, 116, 117, 118, 119, 120, 121, 11, 50, 51, 24, 52, 53, 316, 317, 318, 319, 320, 321, 322, 323, 324, 325, 326, 327, 328, 329, 330, 353, 354, 355, 356] (by decide +kernel) (by decide +kernel)
set_option maxRecDepth 20000 in
theorem gX6_digest_X6_mixPlayers : GoodIn wsX6_digest (wsV RX6 272 RX6 yX6_mixPlayers wsX6_mixPlayers) := goodIn_app (goodIn_of _ (by decide +kernel)) ggX6_digest_X6_mixPlayers
set_option maxRecDepth 20000 in
theorem ggX6_digest_X6_canEnd : GoodIn wsX6_digest wsX6_canEnd := goodIn_r _ [125, 126, 2, 127, 128, 129, 130, 131, 132, 133, 134, 135, 136, 137, 138, 139, 140, 141, 142, 143, 144, 145, 146, 147, 148, 27, 28, 6, 29, 9, 30, 31, 149, 150, 151, 152, 153, 154, 155, 156, 157, 158, 10, 40, 64, 36, 37, 38, 39, 41, 91, 92, 93, 94, 95, 96, 97, 102, 24, 103, 159, 43, 44, 45, 46, 47, 48, 49, 160, 161, 162, 163, 164, 165, 166, 167, 316, 317, 318, 357, 358, 359, 319, 320, 321, 322, 323, 324, 325, 326, 327, 328, 329, 330, 338, 339, 340, 341, 342, 343, 344, 345, 346, 347, 348, 349, 350, 351, 352] (by decide +kernel) (by decide +kernel)
set_option maxRecDepth 20000 in
theorem gX6_digest_X6_canEnd : GoodIn wsX6_digest (wsV RX6 275 RX6 yX6_canEnd wsX6_canEnd) := goodIn_app (goodIn_of _ (by decide +kernel)) ggX6_digest_X6_canEnd
set_option maxRecDepth 20000 in
theorem ggX6_digest_X6_stands : GoodIn wsX6_digest wsX6_stands := goodIn_r _ [171, 126, 2, 172, 173, 174, 130, 175, 136, 132, 133, 134, 135, 137, 138, 139, 140, 141, 142, 143, 144, 145, 146, 147, 148, 27, 28, 6, 29, 9, 30, 31, 149, 150, 151, 152, 153, 154, 155, 156, 157, 158, 10, 40, 64, 36, 37, 38, 39, 41, 91, 92, 93, 94, 95, 96, 97, 102, 24, 103, 159, 43, 44, 45, 46, 47, 48, 49, 160, 161, 162, 163, 164, 165, 166, 167, 23, 25, 316, 317, 318, 357, 358, 359, 319, 320, 321, 322, 323, 324, 325, 326, 327, 328, 329, 330, 338, 339, 340, 341, 342, 343, 344, 345, 346, 347, 348, 349, 350, 351, 352] (by decide +kernel) (by decide +kernel)
set_option maxRecDepth 20000 in
theorem gX6_digest_X6_stands : GoodIn wsX6_digest (wsV RX6 278 RX6 yX6_stands wsX6_stands) := goodIn_app (goodIn_of _ (by decide +kernel)) ggX6_digest_X6_stands
set_option maxRecDepth 20000 in
theorem ggX6_digest_X6_deadEnds : GoodIn wsX6_digest wsX6_deadEnds := goodIn_r _ [179, 126, 2, 180, 181, 182, 130, 183, 136, 137, 132, 133, 134, 135, 138, 139, 140, 141, 142, 143, 144, 145, 146, 147, 148, 27, 28, 6, 29, 9, 30, 31, 149, 150, 151, 152, 153, 154, 155, 156, 157, 158, 10, 40, 64, 36, 37, 38, 39, 41, 91, 92, 93, 94, 95, 96, 97, 102, 24, 103, 159, 43, 44, 45, 46, 47, 48, 49, 160, 161, 162, 163, 164, 165, 166, 167, 23, 25, 316, 317, 318, 357, 358, 359, 319, 320, 321, 322, 323, 324, 325, 326, 327, 328, 329, 330, 338, 339, 340, 341, 342, 343, 344, 345, 346, 347, 348, 349, 350, 351, 352] (by decide +kernel) (by decide +kernel)
set_option maxRecDepth 20000 in
theorem gX6_digest_X6_deadEnds : GoodIn wsX6_digest (wsV RX6 281 RX6 yX6_deadEnds wsX6_deadEnds) := goodIn_app (goodIn_of _ (by decide +kernel)) ggX6_digest_X6_deadEnds
set_option maxRecDepth 20000 in
theorem ggX6_digest_X6_depth : GoodIn wsX6_digest wsX6_depth := goodIn_r _ [187, 126, 2, 127, 128, 129, 130, 131, 132, 133, 134, 135, 136, 137, 138, 139, 140, 141, 142, 143, 144, 145, 146, 147, 148, 27, 28, 6, 29, 9, 30, 31, 149, 150, 151, 152, 153, 154, 155, 156, 157, 158, 10, 40, 64, 36, 37, 38, 39, 41, 91, 92, 93, 94, 95, 96, 97, 102, 24, 103, 159, 43, 44, 45, 46, 47, 48, 49, 160, 161, 162, 163, 164, 165, 166, 167, 316, 317, 318, 357, 358, 359, 319, 320, 321, 322, 323, 324, 325, 326, 327, 328, 329, 330, 338, 339, 340, 341, 342, 343, 344, 345, 346, 347, 348, 349, 350, 351, 352] (by decide +kernel) (by decide +kernel)
set_option maxRecDepth 20000 in
theorem gX6_digest_X6_depth : GoodIn wsX6_digest (wsV RX6 284 RX6 yX6_depth wsX6_depth) := goodIn_app (goodIn_of _ (by decide +kernel)) ggX6_digest_X6_depth
set_option maxRecDepth 20000 in
theorem ggX6_digest_X6_cannotMiss : GoodIn wsX6_digest wsX6_cannotMiss := goodIn_r _ [191, 126, 2, 192, 193, 194, 130, 195, 196, 148, 27, 28, 6, 29, 9, 30, 31, 132, 133, 134, 135, 136, 137, 138, 139, 140, 141, 142, 143, 144, 145, 146, 147, 149, 150, 151, 152, 153, 154, 155, 156, 157, 158, 10, 40, 64, 36, 37, 38, 39, 41, 91, 92, 93, 94, 95, 96, 97, 102, 24, 103, 159, 43, 44, 45, 46, 47, 48, 49, 160, 161, 162, 163, 164, 165, 166, 167, 316, 317, 318, 319, 320, 321, 322, 323, 324, 325, 326, 327, 328, 329, 330, 338, 339, 340, 341, 342, 343, 344, 345, 346, 347, 357, 358, 359, 348, 349, 350, 351, 352] (by decide +kernel) (by decide +kernel)
set_option maxRecDepth 20000 in
theorem gX6_digest_X6_cannotMiss : GoodIn wsX6_digest (wsV RX6 287 RX6 yX6_cannotMiss wsX6_cannotMiss) := goodIn_app (goodIn_of _ (by decide +kernel)) ggX6_digest_X6_cannotMiss
set_option maxRecDepth 20000 in
theorem ggX6_digest_X6_bestHint : GoodIn wsX6_digest wsX6_bestHint := goodIn_r _ [200, 126, 2, 201, 202, 203, 130, 204, 143, 132, 133, 134, 135, 136, 137, 138, 139, 140, 141, 142, 144, 145, 146, 147, 148, 27, 28, 6, 29, 9, 30, 31, 149, 150, 151, 152, 153, 154, 155, 156, 157, 158, 10, 40, 64, 36, 37, 38, 39, 41, 91, 92, 93, 94, 95, 96, 97, 102, 24, 103, 159, 43, 44, 45, 46, 47, 48, 49, 160, 161, 162, 163, 164, 165, 166, 167, 205, 33, 34, 35, 42, 316, 317, 318, 319, 320, 321, 322, 323, 324, 325, 326, 327, 328, 329, 330, 357, 358, 359, 338, 339, 340, 341, 342, 343, 344, 345, 346, 347, 348, 349, 350, 351, 352] (by decide +kernel) (by decide +kernel)
set_option maxRecDepth 20000 in
theorem gX6_digest_X6_bestHint : GoodIn wsX6_digest (wsV RX6 290 RX6 yX6_bestHint wsX6_bestHint) := goodIn_app (goodIn_of _ (by decide +kernel)) ggX6_digest_X6_bestHint
set_option maxRecDepth 20000 in
theorem ggX6_digest_X6_endsAt : GoodIn wsX6_digest wsX6_endsAt := goodIn_r _ [209, 2, 210, 211, 212, 213, 214, 215, 216, 217, 6, 218, 9, 30, 10, 40, 11, 113, 12, 20, 21, 8, 18, 22, 219, 220, 221, 45, 222, 49, 223, 224, 225, 47, 48, 226, 227, 228, 229, 230, 231, 232, 94, 233, 97, 234, 235, 96, 236, 237, 238, 239, 240, 241, 242, 243, 244, 245, 246, 247, 248, 249, 250, 251, 252, 253, 254, 255, 256, 257, 258, 259, 260, 261, 13, 14, 262, 263, 264, 265, 266, 267, 268, 269, 270, 271, 272, 273, 274, 275, 115, 114, 116, 117, 276, 277, 278, 279, 36, 37, 38, 39, 41, 42, 43, 44, 46, 71, 72, 73, 74, 280, 281, 282, 283, 67, 65, 64, 284, 285, 286, 287, 288, 289, 290, 291, 102, 24, 103, 292, 293, 294, 295, 296, 297, 298, 299, 300, 301, 302, 303, 26, 27, 28, 29, 31, 91, 92, 93, 95, 87, 88, 89, 90, 304, 305, 306, 307, 86, 85, 23, 25, 308, 309, 310, 311, 312, 313, 314, 315, 316, 317, 318, 319, 320, 321, 322, 323, 324, 325, 326, 327, 328, 329, 330, 331, 332, 333, 334, 335, 336, 337, 338, 339, 340, 341, 342, 343, 344, 345, 346, 347, 348, 349, 350, 351, 352, 353, 354, 355, 356] (by decide +kernel) (by decide +kernel)
set_option maxRecDepth 20000 in
theorem gX6_digest_X6_endsAt : GoodIn wsX6_digest (wsV RX6 293 RX6 yX6_endsAt wsX6_endsAt) := goodIn_app (goodIn_of _ (by decide +kernel)) ggX6_digest_X6_endsAt
theorem dX6_digest_0 : decode cX6_digest 0 = .ok (.ldc2_w 259, 3) := by decide +kernel
theorem dX6_digest_3 : decode cX6_digest 3 = .ok (.lstore_n 1, 1) := by decide +kernel
theorem dX6_digest_4 : decode cX6_digest 4 = .ok (.iconst 0, 1) := by decide +kernel
theorem dX6_digest_5 : decode cX6_digest 5 = .ok (.istore_n 3, 1) := by decide +kernel
theorem dX6_digest_6 : decode cX6_digest 6 = .ok (.iload_n 3, 1) := by decide +kernel
theorem dX6_digest_7 : decode cX6_digest 7 = .ok (.bipush 19, 2) := by decide +kernel
theorem dX6_digest_9 : decode cX6_digest 9 = .ok (.if_icmp .ge 22, 3) := by decide +kernel
theorem dX6_digest_12 : decode cX6_digest 12 = .ok (.lload_n 1, 1) := by decide +kernel
theorem dX6_digest_13 : decode cX6_digest 13 = .ok (.aload_n 0, 1) := by decide +kernel
theorem dX6_digest_14 : decode cX6_digest 14 = .ok (.getfield 12, 3) := by decide +kernel
theorem dX6_digest_17 : decode cX6_digest 17 = .ok (.iload_n 3, 1) := by decide +kernel
theorem dX6_digest_18 : decode cX6_digest 18 = .ok (.invokevirtual 229, 3) := by decide +kernel
theorem dX6_digest_21 : decode cX6_digest 21 = .ok (.invokestatic 261, 3) := by decide +kernel
theorem dX6_digest_24 : decode cX6_digest 24 = .ok (.lstore_n 1, 1) := by decide +kernel
theorem dX6_digest_25 : decode cX6_digest 25 = .ok (.iinc 3 1, 3) := by decide +kernel
theorem dX6_digest_28 : decode cX6_digest 28 = .ok (.goto (-22), 3) := by decide +kernel
theorem dX6_digest_31 : decode cX6_digest 31 = .ok (.aload_n 0, 1) := by decide +kernel
theorem dX6_digest_32 : decode cX6_digest 32 = .ok (.lload_n 1, 1) := by decide +kernel
theorem dX6_digest_33 : decode cX6_digest 33 = .ok (.invokevirtual 265, 3) := by decide +kernel
theorem dX6_digest_36 : decode cX6_digest 36 = .ok (.lstore_n 1, 1) := by decide +kernel
theorem dX6_digest_37 : decode cX6_digest 37 = .ok (.aload_n 0, 1) := by decide +kernel
theorem dX6_digest_38 : decode cX6_digest 38 = .ok (.lload_n 1, 1) := by decide +kernel
theorem dX6_digest_39 : decode cX6_digest 39 = .ok (.invokevirtual 269, 3) := by decide +kernel
theorem dX6_digest_42 : decode cX6_digest 42 = .ok (.lstore_n 1, 1) := by decide +kernel
theorem dX6_digest_43 : decode cX6_digest 43 = .ok (.aload_n 0, 1) := by decide +kernel
theorem dX6_digest_44 : decode cX6_digest 44 = .ok (.lload_n 1, 1) := by decide +kernel
theorem dX6_digest_45 : decode cX6_digest 45 = .ok (.invokevirtual 272, 3) := by decide +kernel
theorem dX6_digest_48 : decode cX6_digest 48 = .ok (.lstore_n 1, 1) := by decide +kernel
theorem dX6_digest_49 : decode cX6_digest 49 = .ok (.lload_n 1, 1) := by decide +kernel
theorem dX6_digest_50 : decode cX6_digest 50 = .ok (.aload_n 0, 1) := by decide +kernel
theorem dX6_digest_51 : decode cX6_digest 51 = .ok (.invokevirtual 275, 3) := by decide +kernel
theorem dX6_digest_54 : decode cX6_digest 54 = .ok (.ifCond .eq 7, 3) := by decide +kernel
theorem dX6_digest_57 : decode cX6_digest 57 = .ok (.iconst 1, 1) := by decide +kernel
theorem dX6_digest_58 : decode cX6_digest 58 = .ok (.goto 4, 3) := by decide +kernel
theorem dX6_digest_62 : decode cX6_digest 62 = .ok (.invokestatic 261, 3) := by decide +kernel
theorem dX6_digest_65 : decode cX6_digest 65 = .ok (.lstore_n 1, 1) := by decide +kernel
theorem dX6_digest_66 : decode cX6_digest 66 = .ok (.lload_n 1, 1) := by decide +kernel
theorem dX6_digest_67 : decode cX6_digest 67 = .ok (.aload_n 0, 1) := by decide +kernel
theorem dX6_digest_68 : decode cX6_digest 68 = .ok (.invokevirtual 278, 3) := by decide +kernel
theorem dX6_digest_71 : decode cX6_digest 71 = .ok (.invokestatic 261, 3) := by decide +kernel
theorem dX6_digest_74 : decode cX6_digest 74 = .ok (.lstore_n 1, 1) := by decide +kernel
theorem dX6_digest_75 : decode cX6_digest 75 = .ok (.lload_n 1, 1) := by decide +kernel
theorem dX6_digest_76 : decode cX6_digest 76 = .ok (.aload_n 0, 1) := by decide +kernel
theorem dX6_digest_77 : decode cX6_digest 77 = .ok (.invokevirtual 281, 3) := by decide +kernel
theorem dX6_digest_80 : decode cX6_digest 80 = .ok (.invokestatic 261, 3) := by decide +kernel
theorem dX6_digest_83 : decode cX6_digest 83 = .ok (.lstore_n 1, 1) := by decide +kernel
theorem dX6_digest_84 : decode cX6_digest 84 = .ok (.lload_n 1, 1) := by decide +kernel
theorem dX6_digest_85 : decode cX6_digest 85 = .ok (.aload_n 0, 1) := by decide +kernel
theorem dX6_digest_86 : decode cX6_digest 86 = .ok (.invokevirtual 284, 3) := by decide +kernel
theorem dX6_digest_89 : decode cX6_digest 89 = .ok (.invokestatic 261, 3) := by decide +kernel
theorem dX6_digest_92 : decode cX6_digest 92 = .ok (.lstore_n 1, 1) := by decide +kernel
theorem dX6_digest_93 : decode cX6_digest 93 = .ok (.lload_n 1, 1) := by decide +kernel
theorem dX6_digest_94 : decode cX6_digest 94 = .ok (.aload_n 0, 1) := by decide +kernel
theorem dX6_digest_95 : decode cX6_digest 95 = .ok (.invokevirtual 287, 3) := by decide +kernel
theorem dX6_digest_98 : decode cX6_digest 98 = .ok (.invokestatic 261, 3) := by decide +kernel
theorem dX6_digest_101 : decode cX6_digest 101 = .ok (.lstore_n 1, 1) := by decide +kernel
theorem dX6_digest_102 : decode cX6_digest 102 = .ok (.lload_n 1, 1) := by decide +kernel
theorem dX6_digest_103 : decode cX6_digest 103 = .ok (.aload_n 0, 1) := by decide +kernel
theorem dX6_digest_104 : decode cX6_digest 104 = .ok (.invokevirtual 290, 3) := by decide +kernel
theorem dX6_digest_107 : decode cX6_digest 107 = .ok (.invokestatic 261, 3) := by decide +kernel
theorem dX6_digest_110 : decode cX6_digest 110 = .ok (.lstore_n 1, 1) := by decide +kernel
theorem dX6_digest_111 : decode cX6_digest 111 = .ok (.lload_n 1, 1) := by decide +kernel
theorem dX6_digest_112 : decode cX6_digest 112 = .ok (.aload_n 0, 1) := by decide +kernel
theorem dX6_digest_113 : decode cX6_digest 113 = .ok (.invokevirtual 293, 3) := by decide +kernel
theorem dX6_digest_116 : decode cX6_digest 116 = .ok (.invokestatic 261, 3) := by decide +kernel
theorem dX6_digest_119 : decode cX6_digest 119 = .ok (.lreturn, 1) := by decide +kernel
set_option maxRecDepth 20000 in
theorem ggX6_mixLocks_X3_tellLock : GoodIn wsX6_mixLocks wsX3_tellLock := goodIn_r _ [7, 8, 9, 10, 11, 12, 13, 14, 15, 16, 17, 18, 19, 20, 6, 21, 22, 23, 24, 25, 26, 27, 28, 29, 30, 31, 32, 33, 34, 35, 36, 37, 38, 39, 40, 48, 49, 50, 51, 52, 53, 54, 55, 56, 57, 58, 59, 60, 61, 62, 63, 64, 65, 66, 67, 68, 69, 70, 71, 72, 73, 74] (by decide +kernel) (by decide +kernel)
set_option maxRecDepth 20000 in
theorem gX6_mixLocks_X3_tellLock : GoodIn wsX6_mixLocks (wsV RX6 209 RX3 yX3_tellLock wsX3_tellLock) := goodIn_app (goodIn_of _ (by decide +kernel)) ggX6_mixLocks_X3_tellLock
set_option maxRecDepth 20000 in
theorem ggX6_mixLocks_X6_mix : GoodIn wsX6_mixLocks wsX6_mix := goodIn_r _ [43, 44] (by decide +kernel) (by decide +kernel)
set_option maxRecDepth 20000 in
theorem gX6_mixLocks_X6_mix : GoodIn wsX6_mixLocks (va_wsS RX6 261 yX6_mix wsX6_mix) := goodIn_app (goodIn_of _ (by decide +kernel)) ggX6_mixLocks_X6_mix
theorem dX6_mixLocks_0 : decode cX6_mixLocks 0 = .ok (.lload_n 1, 1) := by decide +kernel
theorem dX6_mixLocks_1 : decode cX6_mixLocks 1 = .ok (.lstore_n 3, 1) := by decide +kernel
theorem dX6_mixLocks_2 : decode cX6_mixLocks 2 = .ok (.iconst 0, 1) := by decide +kernel
theorem dX6_mixLocks_3 : decode cX6_mixLocks 3 = .ok (.istore 5, 2) := by decide +kernel
theorem dX6_mixLocks_5 : decode cX6_mixLocks 5 = .ok (.iload 5, 2) := by decide +kernel
theorem dX6_mixLocks_7 : decode cX6_mixLocks 7 = .ok (.aload_n 0, 1) := by decide +kernel
theorem dX6_mixLocks_8 : decode cX6_mixLocks 8 = .ok (.getfield 12, 3) := by decide +kernel
theorem dX6_mixLocks_11 : decode cX6_mixLocks 11 = .ok (.getfield 37, 3) := by decide +kernel
theorem dX6_mixLocks_14 : decode cX6_mixLocks 14 = .ok (.if_icmp .ge 41, 3) := by decide +kernel
theorem dX6_mixLocks_17 : decode cX6_mixLocks 17 = .ok (.iconst 0, 1) := by decide +kernel
theorem dX6_mixLocks_18 : decode cX6_mixLocks 18 = .ok (.istore 6, 2) := by decide +kernel
theorem dX6_mixLocks_20 : decode cX6_mixLocks 20 = .ok (.iload 6, 2) := by decide +kernel
theorem dX6_mixLocks_22 : decode cX6_mixLocks 22 = .ok (.bipush 10, 2) := by decide +kernel
theorem dX6_mixLocks_24 : decode cX6_mixLocks 24 = .ok (.if_icmp .ge 25, 3) := by decide +kernel
theorem dX6_mixLocks_27 : decode cX6_mixLocks 27 = .ok (.lload_n 3, 1) := by decide +kernel
theorem dX6_mixLocks_28 : decode cX6_mixLocks 28 = .ok (.aload_n 0, 1) := by decide +kernel
theorem dX6_mixLocks_29 : decode cX6_mixLocks 29 = .ok (.getfield 12, 3) := by decide +kernel
theorem dX6_mixLocks_32 : decode cX6_mixLocks 32 = .ok (.iload 5, 2) := by decide +kernel
theorem dX6_mixLocks_34 : decode cX6_mixLocks 34 = .ok (.iload 6, 2) := by decide +kernel
theorem dX6_mixLocks_36 : decode cX6_mixLocks 36 = .ok (.invokevirtual 209, 3) := by decide +kernel
theorem dX6_mixLocks_39 : decode cX6_mixLocks 39 = .ok (.invokestatic 261, 3) := by decide +kernel
theorem dX6_mixLocks_42 : decode cX6_mixLocks 42 = .ok (.lstore_n 3, 1) := by decide +kernel
theorem dX6_mixLocks_43 : decode cX6_mixLocks 43 = .ok (.iinc 6 1, 3) := by decide +kernel
theorem dX6_mixLocks_46 : decode cX6_mixLocks 46 = .ok (.goto (-26), 3) := by decide +kernel
theorem dX6_mixLocks_49 : decode cX6_mixLocks 49 = .ok (.iinc 5 1, 3) := by decide +kernel
theorem dX6_mixLocks_52 : decode cX6_mixLocks 52 = .ok (.goto (-47), 3) := by decide +kernel
theorem dX6_mixLocks_55 : decode cX6_mixLocks 55 = .ok (.lload_n 3, 1) := by decide +kernel
theorem dX6_mixLocks_56 : decode cX6_mixLocks 56 = .ok (.lreturn, 1) := by decide +kernel
set_option maxRecDepth 20000 in
theorem ggX6_mixThings_X3_tellThing : GoodIn wsX6_mixThings wsX3_tellThing := goodIn_r _ [7, 8, 9, 10, 11, 12, 13, 14, 15, 6, 16, 17, 18, 19, 20, 21, 22, 23, 24, 25, 26, 27, 28, 29, 30, 31, 32, 33, 34, 35, 36, 37, 38, 39, 40, 41, 49, 50, 51, 52, 53, 54, 55, 56, 57, 58, 59, 60, 61, 62, 63, 64, 65, 66, 67, 68, 69, 70, 71, 72, 73, 74, 75] (by decide +kernel) (by decide +kernel)
set_option maxRecDepth 20000 in
theorem gX6_mixThings_X3_tellThing : GoodIn wsX6_mixThings (wsV RX6 214 RX3 yX3_tellThing wsX3_tellThing) := goodIn_app (goodIn_of _ (by decide +kernel)) ggX6_mixThings_X3_tellThing
set_option maxRecDepth 20000 in
theorem ggX6_mixThings_X6_mix : GoodIn wsX6_mixThings wsX6_mix := goodIn_r _ [44, 45] (by decide +kernel) (by decide +kernel)
set_option maxRecDepth 20000 in
theorem gX6_mixThings_X6_mix : GoodIn wsX6_mixThings (va_wsS RX6 261 yX6_mix wsX6_mix) := goodIn_app (goodIn_of _ (by decide +kernel)) ggX6_mixThings_X6_mix
theorem dX6_mixThings_0 : decode cX6_mixThings 0 = .ok (.lload_n 1, 1) := by decide +kernel
theorem dX6_mixThings_1 : decode cX6_mixThings 1 = .ok (.lstore_n 3, 1) := by decide +kernel
theorem dX6_mixThings_2 : decode cX6_mixThings 2 = .ok (.iconst 0, 1) := by decide +kernel
theorem dX6_mixThings_3 : decode cX6_mixThings 3 = .ok (.istore 5, 2) := by decide +kernel
theorem dX6_mixThings_5 : decode cX6_mixThings 5 = .ok (.iload 5, 2) := by decide +kernel
theorem dX6_mixThings_7 : decode cX6_mixThings 7 = .ok (.aload_n 0, 1) := by decide +kernel
theorem dX6_mixThings_8 : decode cX6_mixThings 8 = .ok (.getfield 12, 3) := by decide +kernel
