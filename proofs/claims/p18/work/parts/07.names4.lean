theorem dX7_deadEnds_35 : decode cX7_deadEnds 35 = .ok (.iconst (-1), 1) := by decide +kernel
theorem dX7_deadEnds_36 : decode cX7_deadEnds 36 = .ok (.if_icmp .ne 6, 3) := by decide +kernel
theorem dX7_deadEnds_39 : decode cX7_deadEnds 39 = .ok (.goto 83, 3) := by decide +kernel
theorem dX7_deadEnds_42 : decode cX7_deadEnds 42 = .ok (.aload_n 3, 1) := by decide +kernel
theorem dX7_deadEnds_43 : decode cX7_deadEnds 43 = .ok (.iload 5, 2) := by decide +kernel
theorem dX7_deadEnds_45 : decode cX7_deadEnds 45 = .ok (.aload_n 0, 1) := by decide +kernel
theorem dX7_deadEnds_46 : decode cX7_deadEnds 46 = .ok (.iload 5, 2) := by decide +kernel
theorem dX7_deadEnds_48 : decode cX7_deadEnds 48 = .ok (.invokevirtual 132, 3) := by decide +kernel
theorem dX7_deadEnds_51 : decode cX7_deadEnds 51 = .ok (.bastore, 1) := by decide +kernel
theorem dX7_deadEnds_52 : decode cX7_deadEnds 52 = .ok (.aload_n 0, 1) := by decide +kernel
theorem dX7_deadEnds_53 : decode cX7_deadEnds 53 = .ok (.iload 5, 2) := by decide +kernel
theorem dX7_deadEnds_55 : decode cX7_deadEnds 55 = .ok (.iload_n 1, 1) := by decide +kernel
theorem dX7_deadEnds_56 : decode cX7_deadEnds 56 = .ok (.invokevirtual 126, 3) := by decide +kernel
theorem dX7_deadEnds_59 : decode cX7_deadEnds 59 = .ok (.istore 6, 2) := by decide +kernel
theorem dX7_deadEnds_61 : decode cX7_deadEnds 61 = .ok (.iconst 0, 1) := by decide +kernel
theorem dX7_deadEnds_62 : decode cX7_deadEnds 62 = .ok (.istore 7, 2) := by decide +kernel
theorem dX7_deadEnds_64 : decode cX7_deadEnds 64 = .ok (.iload 7, 2) := by decide +kernel
theorem dX7_deadEnds_66 : decode cX7_deadEnds 66 = .ok (.bipush 10, 2) := by decide +kernel
theorem dX7_deadEnds_68 : decode cX7_deadEnds 68 = .ok (.if_icmp .ge 37, 3) := by decide +kernel
theorem dX7_deadEnds_71 : decode cX7_deadEnds 71 = .ok (.iload 6, 2) := by decide +kernel
theorem dX7_deadEnds_73 : decode cX7_deadEnds 73 = .ok (.iload 7, 2) := by decide +kernel
theorem dX7_deadEnds_75 : decode cX7_deadEnds 75 = .ok (.ishr, 1) := by decide +kernel
theorem dX7_deadEnds_76 : decode cX7_deadEnds 76 = .ok (.iconst 1, 1) := by decide +kernel
theorem dX7_deadEnds_77 : decode cX7_deadEnds 77 = .ok (.iand, 1) := by decide +kernel
theorem dX7_deadEnds_78 : decode cX7_deadEnds 78 = .ok (.iconst 1, 1) := by decide +kernel
theorem dX7_deadEnds_79 : decode cX7_deadEnds 79 = .ok (.if_icmp .ne 20, 3) := by decide +kernel
theorem dX7_deadEnds_82 : decode cX7_deadEnds 82 = .ok (.aload_n 3, 1) := by decide +kernel
theorem dX7_deadEnds_83 : decode cX7_deadEnds 83 = .ok (.iload 5, 2) := by decide +kernel
theorem dX7_deadEnds_85 : decode cX7_deadEnds 85 = .ok (.iconst 1, 1) := by decide +kernel
theorem dX7_deadEnds_86 : decode cX7_deadEnds 86 = .ok (.iload 7, 2) := by decide +kernel
theorem dX7_deadEnds_88 : decode cX7_deadEnds 88 = .ok (.ishl, 1) := by decide +kernel
theorem dX7_deadEnds_89 : decode cX7_deadEnds 89 = .ok (.ior, 1) := by decide +kernel
theorem dX7_deadEnds_90 : decode cX7_deadEnds 90 = .ok (.baload, 1) := by decide +kernel
theorem dX7_deadEnds_91 : decode cX7_deadEnds 91 = .ok (.ifCond .eq 8, 3) := by decide +kernel
theorem dX7_deadEnds_94 : decode cX7_deadEnds 94 = .ok (.aload_n 3, 1) := by decide +kernel
theorem dX7_deadEnds_95 : decode cX7_deadEnds 95 = .ok (.iload 5, 2) := by decide +kernel
theorem dX7_deadEnds_97 : decode cX7_deadEnds 97 = .ok (.iconst 1, 1) := by decide +kernel
theorem dX7_deadEnds_98 : decode cX7_deadEnds 98 = .ok (.bastore, 1) := by decide +kernel
theorem dX7_deadEnds_99 : decode cX7_deadEnds 99 = .ok (.iinc 7 1, 3) := by decide +kernel
theorem dX7_deadEnds_102 : decode cX7_deadEnds 102 = .ok (.goto (-38), 3) := by decide +kernel
theorem dX7_deadEnds_105 : decode cX7_deadEnds 105 = .ok (.iload 4, 2) := by decide +kernel
theorem dX7_deadEnds_107 : decode cX7_deadEnds 107 = .ok (.aload_n 3, 1) := by decide +kernel
theorem dX7_deadEnds_108 : decode cX7_deadEnds 108 = .ok (.iload 5, 2) := by decide +kernel
theorem dX7_deadEnds_110 : decode cX7_deadEnds 110 = .ok (.baload, 1) := by decide +kernel
theorem dX7_deadEnds_111 : decode cX7_deadEnds 111 = .ok (.ifCond .eq 7, 3) := by decide +kernel
theorem dX7_deadEnds_114 : decode cX7_deadEnds 114 = .ok (.iconst 0, 1) := by decide +kernel
theorem dX7_deadEnds_115 : decode cX7_deadEnds 115 = .ok (.goto 4, 3) := by decide +kernel
theorem dX7_deadEnds_119 : decode cX7_deadEnds 119 = .ok (.iadd, 1) := by decide +kernel
theorem dX7_deadEnds_120 : decode cX7_deadEnds 120 = .ok (.istore 4, 2) := by decide +kernel
theorem dX7_deadEnds_122 : decode cX7_deadEnds 122 = .ok (.iinc 5 (-1), 3) := by decide +kernel
theorem dX7_deadEnds_125 : decode cX7_deadEnds 125 = .ok (.goto (-99), 3) := by decide +kernel
theorem dX7_deadEnds_128 : decode cX7_deadEnds 128 = .ok (.iload 4, 2) := by decide +kernel
theorem dX7_deadEnds_130 : decode cX7_deadEnds 130 = .ok (.ireturn, 1) := by decide +kernel
set_option maxRecDepth 20000 in
theorem ggX7_bestHint_Jx4a65c_size_8abf5 : GoodIn wsX7_bestHint wsJx4a65c_size_8abf5 := goodIn_r _ [6, 7, 76, 77, 78] (by decide +kernel) (by decide +kernel)
set_option maxRecDepth 20000 in
theorem gX7_bestHint_Jx4a65c_size_8abf5 : GoodIn wsX7_bestHint (wsV RX7 62 RJx4a65c yJx4a65c_size_8abf5 wsJx4a65c_size_8abf5) := goodIn_app (goodIn_of _ (by decide +kernel)) ggX7_bestHint_Jx4a65c_size_8abf5
set_option maxRecDepth 20000 in
theorem ggX7_bestHint_X7_isReady : GoodIn wsX7_bestHint wsX7_isReady := goodIn_r _ [12, 1, 13, 14, 15, 16, 5, 17, 7, 18, 19, 20, 21, 22, 23, 24, 25, 26, 27, 28, 29, 30, 31, 32, 33, 11, 34, 35, 2, 3, 4, 6, 62, 63, 64, 65, 66, 67, 68, 69, 70, 71, 72, 73, 74, 75, 76, 77, 78] (by decide +kernel) (by decide +kernel)
set_option maxRecDepth 20000 in
theorem gX7_bestHint_X7_isReady : GoodIn wsX7_bestHint (wsV RX7 74 RX7 yX7_isReady wsX7_isReady) := goodIn_app (goodIn_of _ (by decide +kernel)) ggX7_bestHint_X7_isReady
set_option maxRecDepth 20000 in
theorem ggX7_bestHint_X7_opened : GoodIn wsX7_bestHint wsX7_opened := goodIn_r _ [39, 1, 13, 2, 3, 4, 5, 6, 7, 14, 15, 16, 17, 18, 19, 20, 21, 22, 23, 24, 25, 26, 27, 28, 29, 30, 62, 63, 64, 65, 66, 67, 68, 69, 70, 71, 72, 73, 74, 75, 76, 77, 78] (by decide +kernel) (by decide +kernel)
set_option maxRecDepth 20000 in
theorem gX7_bestHint_X7_opened : GoodIn wsX7_bestHint (wsV RX7 135 RX7 yX7_opened wsX7_opened) := goodIn_app (goodIn_of _ (by decide +kernel)) ggX7_bestHint_X7_opened
set_option maxRecDepth 20000 in
theorem ggX7_bestHint_X7_depth : GoodIn wsX7_bestHint wsX7_depth := goodIn_r _ [43, 44, 45, 46, 11, 47, 48, 49, 50, 51, 52, 1, 13, 53, 54, 55, 56, 35, 2, 3, 4, 5, 6, 7, 14, 15, 16, 17, 18, 19, 20, 21, 22, 23, 24, 25, 26, 27, 28, 29, 30, 57, 58, 59, 60, 61, 62, 63, 64, 65, 66, 67, 68, 69, 70, 71, 72, 73, 74, 75, 76, 77, 78] (by decide +kernel) (by decide +kernel)
set_option maxRecDepth 20000 in
theorem gX7_bestHint_X7_depth : GoodIn wsX7_bestHint (wsV RX7 138 RX7 yX7_depth wsX7_depth) := goodIn_app (goodIn_of _ (by decide +kernel)) ggX7_bestHint_X7_depth
theorem dX7_bestHint_0 : decode cX7_bestHint 0 = .ok (.iconst (-1), 1) := by decide +kernel
theorem dX7_bestHint_1 : decode cX7_bestHint 1 = .ok (.istore_n 1, 1) := by decide +kernel
theorem dX7_bestHint_2 : decode cX7_bestHint 2 = .ok (.iconst 0, 1) := by decide +kernel
theorem dX7_bestHint_3 : decode cX7_bestHint 3 = .ok (.istore_n 2, 1) := by decide +kernel
theorem dX7_bestHint_4 : decode cX7_bestHint 4 = .ok (.iconst 0, 1) := by decide +kernel
theorem dX7_bestHint_5 : decode cX7_bestHint 5 = .ok (.istore_n 3, 1) := by decide +kernel
theorem dX7_bestHint_6 : decode cX7_bestHint 6 = .ok (.iload_n 3, 1) := by decide +kernel
theorem dX7_bestHint_7 : decode cX7_bestHint 7 = .ok (.aload_n 0, 1) := by decide +kernel
theorem dX7_bestHint_8 : decode cX7_bestHint 8 = .ok (.getfield 12, 3) := by decide +kernel
theorem dX7_bestHint_11 : decode cX7_bestHint 11 = .ok (.invokevirtual 62, 3) := by decide +kernel
theorem dX7_bestHint_14 : decode cX7_bestHint 14 = .ok (.if_icmp .ge 64, 3) := by decide +kernel
theorem dX7_bestHint_17 : decode cX7_bestHint 17 = .ok (.aload_n 0, 1) := by decide +kernel
theorem dX7_bestHint_18 : decode cX7_bestHint 18 = .ok (.iload_n 3, 1) := by decide +kernel
theorem dX7_bestHint_19 : decode cX7_bestHint 19 = .ok (.invokevirtual 74, 3) := by decide +kernel
theorem dX7_bestHint_22 : decode cX7_bestHint 22 = .ok (.ifCond .eq 22, 3) := by decide +kernel
theorem dX7_bestHint_25 : decode cX7_bestHint 25 = .ok (.aload_n 0, 1) := by decide +kernel
theorem dX7_bestHint_26 : decode cX7_bestHint 26 = .ok (.aload_n 0, 1) := by decide +kernel
theorem dX7_bestHint_27 : decode cX7_bestHint 27 = .ok (.invokevirtual 135, 3) := by decide +kernel
theorem dX7_bestHint_30 : decode cX7_bestHint 30 = .ok (.iconst 1, 1) := by decide +kernel
theorem dX7_bestHint_31 : decode cX7_bestHint 31 = .ok (.iload_n 3, 1) := by decide +kernel
theorem dX7_bestHint_32 : decode cX7_bestHint 32 = .ok (.ishl, 1) := by decide +kernel
theorem dX7_bestHint_33 : decode cX7_bestHint 33 = .ok (.ior, 1) := by decide +kernel
theorem dX7_bestHint_34 : decode cX7_bestHint 34 = .ok (.aload_n 0, 1) := by decide +kernel
theorem dX7_bestHint_35 : decode cX7_bestHint 35 = .ok (.invokevirtual 135, 3) := by decide +kernel
theorem dX7_bestHint_38 : decode cX7_bestHint 38 = .ok (.invokevirtual 138, 3) := by decide +kernel
theorem dX7_bestHint_41 : decode cX7_bestHint 41 = .ok (.goto 4, 3) := by decide +kernel
theorem dX7_bestHint_45 : decode cX7_bestHint 45 = .ok (.istore 4, 2) := by decide +kernel
theorem dX7_bestHint_47 : decode cX7_bestHint 47 = .ok (.iload 4, 2) := by decide +kernel
theorem dX7_bestHint_49 : decode cX7_bestHint 49 = .ok (.iconst (-1), 1) := by decide +kernel
theorem dX7_bestHint_50 : decode cX7_bestHint 50 = .ok (.if_icmp .eq 22, 3) := by decide +kernel
theorem dX7_bestHint_53 : decode cX7_bestHint 53 = .ok (.iload_n 1, 1) := by decide +kernel
theorem dX7_bestHint_54 : decode cX7_bestHint 54 = .ok (.iconst (-1), 1) := by decide +kernel
theorem dX7_bestHint_55 : decode cX7_bestHint 55 = .ok (.if_icmp .eq 12, 3) := by decide +kernel
theorem dX7_bestHint_58 : decode cX7_bestHint 58 = .ok (.iload 4, 2) := by decide +kernel
theorem dX7_bestHint_60 : decode cX7_bestHint 60 = .ok (.iload_n 2, 1) := by decide +kernel
theorem dX7_bestHint_61 : decode cX7_bestHint 61 = .ok (.if_icmp .lt 6, 3) := by decide +kernel
theorem dX7_bestHint_64 : decode cX7_bestHint 64 = .ok (.goto 8, 3) := by decide +kernel
theorem dX7_bestHint_67 : decode cX7_bestHint 67 = .ok (.iload_n 3, 1) := by decide +kernel
theorem dX7_bestHint_68 : decode cX7_bestHint 68 = .ok (.istore_n 1, 1) := by decide +kernel
theorem dX7_bestHint_69 : decode cX7_bestHint 69 = .ok (.iload 4, 2) := by decide +kernel
theorem dX7_bestHint_71 : decode cX7_bestHint 71 = .ok (.istore_n 2, 1) := by decide +kernel
theorem dX7_bestHint_72 : decode cX7_bestHint 72 = .ok (.iinc 3 1, 3) := by decide +kernel
theorem dX7_bestHint_75 : decode cX7_bestHint 75 = .ok (.goto (-69), 3) := by decide +kernel
theorem dX7_bestHint_78 : decode cX7_bestHint 78 = .ok (.iload_n 1, 1) := by decide +kernel
theorem dX7_bestHint_79 : decode cX7_bestHint 79 = .ok (.ireturn, 1) := by decide +kernel
set_option maxRecDepth 20000 in
theorem ggX8_init_X7_init : GoodIn wsX8_init wsX7_init := goodIn_r _ [10, 11, 2, 3, 12, 13, 14, 15, 16, 17, 18, 19, 20, 21, 22, 23, 24, 25, 26, 27, 28, 29, 30, 31, 32, 33, 34, 53, 54, 55, 35, 36, 37, 38, 39, 40, 41, 42, 43, 44, 45, 46, 47, 48] (by decide +kernel) (by decide +kernel)
set_option maxRecDepth 20000 in
theorem gX8_init_X7_init_n9 : GoodIn wsX8_init (wsX7_init) := ggX8_init_X7_init
theorem dX8_init_0 : decode cX8_init 0 = .ok (.aload_n 0, 1) := by decide +kernel
theorem dX8_init_1 : decode cX8_init 1 = .ok (.invokespecial 1, 3) := by decide +kernel
theorem dX8_init_4 : decode cX8_init 4 = .ok (.aload_n 0, 1) := by decide +kernel
theorem dX8_init_5 : decode cX8_init 5 = .ok (.new 7, 3) := by decide +kernel
theorem dX8_init_8 : decode cX8_init 8 = .ok (.dup, 1) := by decide +kernel
theorem dX8_init_9 : decode cX8_init 9 = .ok (.invokespecial 9, 3) := by decide +kernel
theorem dX8_init_12 : decode cX8_init 12 = .ok (.putfield 10, 3) := by decide +kernel
theorem dX8_init_15 : decode cX8_init 15 = .ok (.aload_n 0, 1) := by decide +kernel
theorem dX8_init_16 : decode cX8_init 16 = .ok (.iconst 1, 1) := by decide +kernel
theorem dX8_init_17 : decode cX8_init 17 = .ok (.putfield 16, 3) := by decide +kernel
theorem dX8_init_20 : decode cX8_init 20 = .ok (.return_, 1) := by decide +kernel
theorem dX8_is_0 : decode cX8_is 0 = .ok (.iload_n 0, 1) := by decide +kernel
theorem dX8_is_1 : decode cX8_is 1 = .ok (.iload_n 1, 1) := by decide +kernel
theorem dX8_is_2 : decode cX8_is 2 = .ok (.if_icmp .lt 12, 3) := by decide +kernel
theorem dX8_is_5 : decode cX8_is 5 = .ok (.iload_n 0, 1) := by decide +kernel
theorem dX8_is_6 : decode cX8_is 6 = .ok (.iload_n 2, 1) := by decide +kernel
theorem dX8_is_7 : decode cX8_is 7 = .ok (.if_icmp .gt 7, 3) := by decide +kernel
theorem dX8_is_10 : decode cX8_is 10 = .ok (.iconst 1, 1) := by decide +kernel
theorem dX8_is_11 : decode cX8_is 11 = .ok (.goto 4, 3) := by decide +kernel
theorem dX8_is_15 : decode cX8_is 15 = .ok (.ireturn, 1) := by decide +kernel
set_option maxRecDepth 20000 in
theorem ggX8_lock_X8_is : GoodIn wsX8_lock wsX8_is := goodIn_r _ [7] (by decide +kernel) (by decide +kernel)
set_option maxRecDepth 20000 in
theorem gX8_lock_X8_is : GoodIn wsX8_lock (va_wsS RX8 34 yX8_is wsX8_is) := goodIn_app (goodIn_of _ (by decide +kernel)) ggX8_lock_X8_is
set_option maxRecDepth 20000 in
theorem ggX8_lock_Jx4a65c_size_8abf5 : GoodIn wsX8_lock wsJx4a65c_size_8abf5 := goodIn_r _ [16, 17, 90, 91, 92] (by decide +kernel) (by decide +kernel)
set_option maxRecDepth 20000 in
theorem gX8_lock_Jx4a65c_size_8abf5 : GoodIn wsX8_lock (wsV RX8 28 RJx4a65c yJx4a65c_size_8abf5 wsJx4a65c_size_8abf5) := goodIn_app (goodIn_of _ (by decide +kernel)) ggX8_lock_Jx4a65c_size_8abf5
set_option maxRecDepth 20000 in
theorem ggX8_lock_Jx4a65c_add_9ea2d : GoodIn wsX8_lock wsJx4a65c_add_9ea2d := goodIn_r _ [21, 22, 23, 24, 17, 25, 26, 27, 15, 28, 29, 30, 31, 32, 33, 34, 35, 36, 37, 38, 39, 40, 41, 42, 43, 44, 45, 46, 47, 48, 49, 50, 51, 52, 53, 54, 55, 56, 57, 58, 59, 60, 61, 62, 63, 64, 65, 66, 67, 68, 69, 70, 71, 90, 91, 92] (by decide +kernel) (by decide +kernel)
set_option maxRecDepth 20000 in
theorem gX8_lock_Jx4a65c_add_9ea2d : GoodIn wsX8_lock (wsV RX8 48 RJx4a65c yJx4a65c_add_9ea2d wsJx4a65c_add_9ea2d) := goodIn_app (goodIn_of _ (by decide +kernel)) ggX8_lock_Jx4a65c_add_9ea2d
theorem dX8_lock_0 : decode cX8_lock 0 = .ok (.aload_n 0, 1) := by decide +kernel
theorem dX8_lock_1 : decode cX8_lock 1 = .ok (.iconst 0, 1) := by decide +kernel
theorem dX8_lock_2 : decode cX8_lock 2 = .ok (.putfield 20, 3) := by decide +kernel
theorem dX8_lock_5 : decode cX8_lock 5 = .ok (.iload_n 1, 1) := by decide +kernel
theorem dX8_lock_6 : decode cX8_lock 6 = .ok (.iconst 0, 1) := by decide +kernel
theorem dX8_lock_7 : decode cX8_lock 7 = .ok (.sipush 4095, 3) := by decide +kernel
theorem dX8_lock_10 : decode cX8_lock 10 = .ok (.invokestatic 34, 3) := by decide +kernel
theorem dX8_lock_13 : decode cX8_lock 13 = .ok (.ifCond .eq 21, 3) := by decide +kernel
theorem dX8_lock_16 : decode cX8_lock 16 = .ok (.iload_n 2, 1) := by decide +kernel
theorem dX8_lock_17 : decode cX8_lock 17 = .ok (.iload_n 1, 1) := by decide +kernel
theorem dX8_lock_18 : decode cX8_lock 18 = .ok (.iconst (-1), 1) := by decide +kernel
theorem dX8_lock_19 : decode cX8_lock 19 = .ok (.ixor, 1) := by decide +kernel
theorem dX8_lock_20 : decode cX8_lock 20 = .ok (.iand, 1) := by decide +kernel
theorem dX8_lock_21 : decode cX8_lock 21 = .ok (.ifCond .ne 13, 3) := by decide +kernel
theorem dX8_lock_24 : decode cX8_lock 24 = .ok (.iload_n 3, 1) := by decide +kernel
theorem dX8_lock_25 : decode cX8_lock 25 = .ok (.iconst 1, 1) := by decide +kernel
theorem dX8_lock_26 : decode cX8_lock 26 = .ok (.bipush 60, 2) := by decide +kernel
theorem dX8_lock_28 : decode cX8_lock 28 = .ok (.invokestatic 34, 3) := by decide +kernel
theorem dX8_lock_31 : decode cX8_lock 31 = .ok (.ifCond .ne 9, 3) := by decide +kernel
theorem dX8_lock_40 : decode cX8_lock 40 = .ok (.aload_n 0, 1) := by decide +kernel
theorem dX8_lock_41 : decode cX8_lock 41 = .ok (.getfield 10, 3) := by decide +kernel
theorem dX8_lock_44 : decode cX8_lock 44 = .ok (.getfield 24, 3) := by decide +kernel
theorem dX8_lock_47 : decode cX8_lock 47 = .ok (.invokevirtual 28, 3) := by decide +kernel
theorem dX8_lock_50 : decode cX8_lock 50 = .ok (.bipush 10, 2) := by decide +kernel
theorem dX8_lock_52 : decode cX8_lock 52 = .ok (.if_icmp .eq 13, 3) := by decide +kernel
theorem dX8_lock_55 : decode cX8_lock 55 = .ok (.aload_n 0, 1) := by decide +kernel
theorem dX8_lock_56 : decode cX8_lock 56 = .ok (.getfield 10, 3) := by decide +kernel
theorem dX8_lock_59 : decode cX8_lock 59 = .ok (.getfield 45, 3) := by decide +kernel
theorem dX8_lock_62 : decode cX8_lock 62 = .ok (.ifCond .eq 9, 3) := by decide +kernel
theorem dX8_lock_71 : decode cX8_lock 71 = .ok (.bipush 10, 2) := by decide +kernel
theorem dX8_lock_73 : decode cX8_lock 73 = .ok (.newarray .int, 2) := by decide +kernel
theorem dX8_lock_75 : decode cX8_lock 75 = .ok (.astore 6, 2) := by decide +kernel
theorem dX8_lock_77 : decode cX8_lock 77 = .ok (.aload 6, 2) := by decide +kernel
theorem dX8_lock_79 : decode cX8_lock 79 = .ok (.iconst 0, 1) := by decide +kernel
theorem dX8_lock_80 : decode cX8_lock 80 = .ok (.iload_n 1, 1) := by decide +kernel
theorem dX8_lock_81 : decode cX8_lock 81 = .ok (.iastore, 1) := by decide +kernel
theorem dX8_lock_82 : decode cX8_lock 82 = .ok (.aload 6, 2) := by decide +kernel
theorem dX8_lock_84 : decode cX8_lock 84 = .ok (.iconst 1, 1) := by decide +kernel
theorem dX8_lock_85 : decode cX8_lock 85 = .ok (.iload_n 2, 1) := by decide +kernel
theorem dX8_lock_86 : decode cX8_lock 86 = .ok (.iastore, 1) := by decide +kernel
theorem dX8_lock_87 : decode cX8_lock 87 = .ok (.aload 6, 2) := by decide +kernel
theorem dX8_lock_89 : decode cX8_lock 89 = .ok (.iconst 2, 1) := by decide +kernel
theorem dX8_lock_90 : decode cX8_lock 90 = .ok (.iload_n 3, 1) := by decide +kernel
theorem dX8_lock_91 : decode cX8_lock 91 = .ok (.iastore, 1) := by decide +kernel
theorem dX8_lock_92 : decode cX8_lock 92 = .ok (.aload 6, 2) := by decide +kernel
theorem dX8_lock_94 : decode cX8_lock 94 = .ok (.iconst 3, 1) := by decide +kernel
theorem dX8_lock_95 : decode cX8_lock 95 = .ok (.iload 4, 2) := by decide +kernel
theorem dX8_lock_97 : decode cX8_lock 97 = .ok (.ifCond .eq 7, 3) := by decide +kernel
theorem dX8_lock_104 : decode cX8_lock 104 = .ok (.iconst 0, 1) := by decide +kernel
theorem dX8_lock_105 : decode cX8_lock 105 = .ok (.iastore, 1) := by decide +kernel
theorem dX8_lock_106 : decode cX8_lock 106 = .ok (.aload_n 0, 1) := by decide +kernel
theorem dX8_lock_107 : decode cX8_lock 107 = .ok (.getfield 10, 3) := by decide +kernel
theorem dX8_lock_110 : decode cX8_lock 110 = .ok (.getfield 24, 3) := by decide +kernel
theorem dX8_lock_113 : decode cX8_lock 113 = .ok (.aload 6, 2) := by decide +kernel
theorem dX8_lock_115 : decode cX8_lock 115 = .ok (.invokevirtual 48, 3) := by decide +kernel
theorem dX8_lock_118 : decode cX8_lock 118 = .ok (.pop, 1) := by decide +kernel
theorem dX8_lock_119 : decode cX8_lock 119 = .ok (.iload 5, 2) := by decide +kernel
theorem dX8_lock_121 : decode cX8_lock 121 = .ok (.ifCond .eq 22, 3) := by decide +kernel
theorem dX8_lock_124 : decode cX8_lock 124 = .ok (.aload_n 0, 1) := by decide +kernel
theorem dX8_lock_125 : decode cX8_lock 125 = .ok (.getfield 10, 3) := by decide +kernel
theorem dX8_lock_128 : decode cX8_lock 128 = .ok (.aload_n 0, 1) := by decide +kernel
theorem dX8_lock_129 : decode cX8_lock 129 = .ok (.getfield 10, 3) := by decide +kernel
theorem dX8_lock_132 : decode cX8_lock 132 = .ok (.getfield 24, 3) := by decide +kernel
theorem dX8_lock_135 : decode cX8_lock 135 = .ok (.invokevirtual 28, 3) := by decide +kernel
theorem dX8_lock_138 : decode cX8_lock 138 = .ok (.iconst 1, 1) := by decide +kernel
theorem dX8_lock_139 : decode cX8_lock 139 = .ok (.isub, 1) := by decide +kernel
theorem dX8_lock_140 : decode cX8_lock 140 = .ok (.putfield 52, 3) := by decide +kernel
theorem dX8_lock_143 : decode cX8_lock 143 = .ok (.aload_n 0, 1) := by decide +kernel
theorem dX8_lock_144 : decode cX8_lock 144 = .ok (.getfield 10, 3) := by decide +kernel
theorem dX8_lock_147 : decode cX8_lock 147 = .ok (.getfield 24, 3) := by decide +kernel
theorem dX8_lock_150 : decode cX8_lock 150 = .ok (.invokevirtual 28, 3) := by decide +kernel
theorem dX8_lock_153 : decode cX8_lock 153 = .ok (.iconst 1, 1) := by decide +kernel
theorem dX8_lock_154 : decode cX8_lock 154 = .ok (.isub, 1) := by decide +kernel
theorem dX8_lock_155 : decode cX8_lock 155 = .ok (.ireturn, 1) := by decide +kernel
set_option maxRecDepth 20000 in
theorem ggX8_thing_X8_is : GoodIn wsX8_thing wsX8_is := goodIn_r _ [17] (by decide +kernel) (by decide +kernel)
set_option maxRecDepth 20000 in
theorem gX8_thing_X8_is : GoodIn wsX8_thing (va_wsS RX8 34 yX8_is wsX8_is) := goodIn_app (goodIn_of _ (by decide +kernel)) ggX8_thing_X8_is
set_option maxRecDepth 20000 in
theorem ggX8_thing_Jx4a65c_size_8abf5 : GoodIn wsX8_thing wsJx4a65c_size_8abf5 := goodIn_r _ [13, 14, 94, 95, 96] (by decide +kernel) (by decide +kernel)
set_option maxRecDepth 20000 in
theorem gX8_thing_Jx4a65c_size_8abf5 : GoodIn wsX8_thing (wsV RX8 28 RJx4a65c yJx4a65c_size_8abf5 wsJx4a65c_size_8abf5) := goodIn_app (goodIn_of _ (by decide +kernel)) ggX8_thing_Jx4a65c_size_8abf5
set_option maxRecDepth 20000 in
theorem ggX8_thing_Jx4a65c_add_9ea2d : GoodIn wsX8_thing wsJx4a65c_add_9ea2d := goodIn_r _ [25, 26, 27, 28, 14, 29, 30, 31, 12, 32, 33, 34, 35, 36, 37, 38, 39, 40, 41, 42, 43, 44, 45, 46, 47, 48, 49, 50, 51, 52, 53, 54, 55, 56, 57, 58, 59, 60, 61, 62, 63, 64, 65, 66, 67, 68, 69, 70, 71, 72, 73, 74, 75, 94, 95, 96] (by decide +kernel) (by decide +kernel)
set_option maxRecDepth 20000 in
theorem gX8_thing_Jx4a65c_add_9ea2d : GoodIn wsX8_thing (wsV RX8 48 RJx4a65c yJx4a65c_add_9ea2d wsJx4a65c_add_9ea2d) := goodIn_app (goodIn_of _ (by decide +kernel)) ggX8_thing_Jx4a65c_add_9ea2d
theorem dX8_thing_0 : decode cX8_thing 0 = .ok (.aload_n 0, 1) := by decide +kernel
theorem dX8_thing_1 : decode cX8_thing 1 = .ok (.iconst 0, 1) := by decide +kernel
theorem dX8_thing_2 : decode cX8_thing 2 = .ok (.putfield 20, 3) := by decide +kernel
theorem dX8_thing_5 : decode cX8_thing 5 = .ok (.iload_n 1, 1) := by decide +kernel
theorem dX8_thing_6 : decode cX8_thing 6 = .ok (.iconst (-1), 1) := by decide +kernel
theorem dX8_thing_7 : decode cX8_thing 7 = .ok (.if_icmp .eq 17, 3) := by decide +kernel
theorem dX8_thing_24 : decode cX8_thing 24 = .ok (.iload_n 2, 1) := by decide +kernel
theorem dX8_thing_25 : decode cX8_thing 25 = .ok (.iconst 0, 1) := by decide +kernel
theorem dX8_thing_26 : decode cX8_thing 26 = .ok (.bipush 9, 2) := by decide +kernel
theorem dX8_thing_28 : decode cX8_thing 28 = .ok (.invokestatic 34, 3) := by decide +kernel
theorem dX8_thing_31 : decode cX8_thing 31 = .ok (.ifCond .ne 9, 3) := by decide +kernel
theorem dX8_thing_40 : decode cX8_thing 40 = .ok (.aload_n 0, 1) := by decide +kernel
theorem dX8_thing_41 : decode cX8_thing 41 = .ok (.getfield 10, 3) := by decide +kernel
theorem dX8_thing_44 : decode cX8_thing 44 = .ok (.getfield 38, 3) := by decide +kernel
theorem dX8_thing_47 : decode cX8_thing 47 = .ok (.invokevirtual 28, 3) := by decide +kernel
theorem dX8_thing_50 : decode cX8_thing 50 = .ok (.bipush 12, 2) := by decide +kernel
theorem dX8_thing_52 : decode cX8_thing 52 = .ok (.if_icmp .eq 13, 3) := by decide +kernel
theorem dX8_thing_55 : decode cX8_thing 55 = .ok (.aload_n 0, 1) := by decide +kernel
theorem dX8_thing_56 : decode cX8_thing 56 = .ok (.getfield 10, 3) := by decide +kernel
theorem dX8_thing_59 : decode cX8_thing 59 = .ok (.getfield 45, 3) := by decide +kernel
theorem dX8_thing_62 : decode cX8_thing 62 = .ok (.ifCond .eq 9, 3) := by decide +kernel
theorem dX8_thing_71 : decode cX8_thing 71 = .ok (.iconst 5, 1) := by decide +kernel
theorem dX8_thing_72 : decode cX8_thing 72 = .ok (.newarray .int, 2) := by decide +kernel
theorem dX8_thing_74 : decode cX8_thing 74 = .ok (.astore_n 3, 1) := by decide +kernel
theorem dX8_thing_75 : decode cX8_thing 75 = .ok (.aload_n 3, 1) := by decide +kernel
theorem dX8_thing_76 : decode cX8_thing 76 = .ok (.iconst 0, 1) := by decide +kernel
theorem dX8_thing_77 : decode cX8_thing 77 = .ok (.iload_n 1, 1) := by decide +kernel
theorem dX8_thing_78 : decode cX8_thing 78 = .ok (.iastore, 1) := by decide +kernel
theorem dX8_thing_79 : decode cX8_thing 79 = .ok (.aload_n 3, 1) := by decide +kernel
theorem dX8_thing_80 : decode cX8_thing 80 = .ok (.iconst 1, 1) := by decide +kernel
theorem dX8_thing_81 : decode cX8_thing 81 = .ok (.iload_n 2, 1) := by decide +kernel
theorem dX8_thing_82 : decode cX8_thing 82 = .ok (.iastore, 1) := by decide +kernel
theorem dX8_thing_83 : decode cX8_thing 83 = .ok (.aload_n 0, 1) := by decide +kernel
theorem dX8_thing_84 : decode cX8_thing 84 = .ok (.getfield 10, 3) := by decide +kernel
theorem dX8_thing_87 : decode cX8_thing 87 = .ok (.getfield 38, 3) := by decide +kernel
theorem dX8_thing_90 : decode cX8_thing 90 = .ok (.aload_n 3, 1) := by decide +kernel
theorem dX8_thing_91 : decode cX8_thing 91 = .ok (.invokevirtual 48, 3) := by decide +kernel
theorem dX8_thing_94 : decode cX8_thing 94 = .ok (.pop, 1) := by decide +kernel
theorem dX8_thing_95 : decode cX8_thing 95 = .ok (.aload_n 0, 1) := by decide +kernel
theorem dX8_thing_96 : decode cX8_thing 96 = .ok (.getfield 10, 3) := by decide +kernel
theorem dX8_thing_99 : decode cX8_thing 99 = .ok (.getfield 38, 3) := by decide +kernel
theorem dX8_thing_102 : decode cX8_thing 102 = .ok (.invokevirtual 28, 3) := by decide +kernel
theorem dX8_thing_105 : decode cX8_thing 105 = .ok (.iconst 1, 1) := by decide +kernel
theorem dX8_thing_106 : decode cX8_thing 106 = .ok (.isub, 1) := by decide +kernel
theorem dX8_thing_107 : decode cX8_thing 107 = .ok (.ireturn, 1) := by decide +kernel
set_option maxRecDepth 20000 in
theorem ggX8_ofLockNow_Jx4a65c_get_915e3 : GoodIn wsX8_ofLockNow wsJx4a65c_get_915e3 := goodIn_r _ [7, 8, 9, 10, 11, 12, 13, 14, 15, 16, 17, 18, 19, 6, 20, 21, 57, 58, 59] (by decide +kernel) (by decide +kernel)
set_option maxRecDepth 20000 in
theorem gX8_ofLockNow_Jx4a65c_get_915e3 : GoodIn wsX8_ofLockNow (wsV RX8 84 RJx4a65c yJx4a65c_get_915e3 wsJx4a65c_get_915e3) := goodIn_app (goodIn_of _ (by decide +kernel)) ggX8_ofLockNow_Jx4a65c_get_915e3
set_option maxRecDepth 20000 in
theorem ggX8_ofLockNow_X7_isReady : GoodIn wsX8_ofLockNow wsX7_isReady := goodIn_r _ [26, 27, 28, 29, 4, 5, 6, 7, 8, 9, 10, 11, 12, 13, 14, 15, 16, 17, 18, 19, 20, 21, 30, 31, 32, 25, 33, 34, 35, 36, 37, 38, 43, 44, 45, 46, 47, 48, 49, 50, 51, 52, 53, 54, 55, 56, 57, 58, 59] (by decide +kernel) (by decide +kernel)
set_option maxRecDepth 20000 in
theorem gX8_ofLockNow_X7_isReady : GoodIn wsX8_ofLockNow (wsV RX8 90 RX7 yX7_isReady wsX7_isReady) := goodIn_app (goodIn_of _ (by decide +kernel)) ggX8_ofLockNow_X7_isReady
theorem dX8_ofLockNow_0 : decode cX8_ofLockNow 0 = .ok (.iload_n 2, 1) := by decide +kernel
theorem dX8_ofLockNow_1 : decode cX8_ofLockNow 1 = .ok (.bipush 9, 2) := by decide +kernel
theorem dX8_ofLockNow_3 : decode cX8_ofLockNow 3 = .ok (.if_icmp .ge 22, 3) := by decide +kernel
theorem dX8_ofLockNow_6 : decode cX8_ofLockNow 6 = .ok (.aload_n 0, 1) := by decide +kernel
theorem dX8_ofLockNow_7 : decode cX8_ofLockNow 7 = .ok (.getfield 10, 3) := by decide +kernel
theorem dX8_ofLockNow_10 : decode cX8_ofLockNow 10 = .ok (.getfield 24, 3) := by decide +kernel
theorem dX8_ofLockNow_13 : decode cX8_ofLockNow 13 = .ok (.iload_n 1, 1) := by decide +kernel
theorem dX8_ofLockNow_14 : decode cX8_ofLockNow 14 = .ok (.invokevirtual 84, 3) := by decide +kernel
theorem dX8_ofLockNow_17 : decode cX8_ofLockNow 17 = .ok (.checkcast 88, 3) := by decide +kernel
theorem dX8_ofLockNow_20 : decode cX8_ofLockNow 20 = .ok (.iload_n 2, 1) := by decide +kernel
theorem dX8_ofLockNow_21 : decode cX8_ofLockNow 21 = .ok (.iaload, 1) := by decide +kernel
theorem dX8_ofLockNow_22 : decode cX8_ofLockNow 22 = .ok (.goto 19, 3) := by decide +kernel
theorem dX8_ofLockNow_25 : decode cX8_ofLockNow 25 = .ok (.aload_n 0, 1) := by decide +kernel
theorem dX8_ofLockNow_26 : decode cX8_ofLockNow 26 = .ok (.getfield 10, 3) := by decide +kernel
theorem dX8_ofLockNow_29 : decode cX8_ofLockNow 29 = .ok (.iload_n 1, 1) := by decide +kernel
theorem dX8_ofLockNow_30 : decode cX8_ofLockNow 30 = .ok (.invokevirtual 90, 3) := by decide +kernel
theorem dX8_ofLockNow_33 : decode cX8_ofLockNow 33 = .ok (.ifCond .eq 7, 3) := by decide +kernel
theorem dX8_ofLockNow_36 : decode cX8_ofLockNow 36 = .ok (.iconst 1, 1) := by decide +kernel
theorem dX8_ofLockNow_37 : decode cX8_ofLockNow 37 = .ok (.goto 4, 3) := by decide +kernel
theorem dX8_ofLockNow_41 : decode cX8_ofLockNow 41 = .ok (.ireturn, 1) := by decide +kernel
set_option maxRecDepth 20000 in
theorem ggX8_ofThingNow_Jx4a65c_get_915e3 : GoodIn wsX8_ofThingNow wsJx4a65c_get_915e3 := goodIn_r _ [7, 8, 9, 10, 11, 12, 13, 14, 15, 16, 17, 18, 19, 6, 20, 21, 53, 54, 55] (by decide +kernel) (by decide +kernel)
set_option maxRecDepth 20000 in
theorem gX8_ofThingNow_Jx4a65c_get_915e3 : GoodIn wsX8_ofThingNow (wsV RX8 84 RJx4a65c yJx4a65c_get_915e3 wsJx4a65c_get_915e3) := goodIn_app (goodIn_of _ (by decide +kernel)) ggX8_ofThingNow_Jx4a65c_get_915e3
set_option maxRecDepth 20000 in
theorem ggX8_ofThingNow_X7_isReached : GoodIn wsX8_ofThingNow wsX7_isReached := goodIn_r _ [26, 27, 28, 29, 30, 4, 5, 6, 7, 8, 9, 10, 11, 12, 13, 14, 15, 16, 17, 18, 19, 20, 21, 39, 40, 41, 42, 43, 44, 45, 46, 47, 48, 49, 50, 51, 52, 53, 54, 55] (by decide +kernel) (by decide +kernel)
set_option maxRecDepth 20000 in
theorem gX8_ofThingNow_X7_isReached : GoodIn wsX8_ofThingNow (wsV RX8 116 RX7 yX7_isReached wsX7_isReached) := goodIn_app (goodIn_of _ (by decide +kernel)) ggX8_ofThingNow_X7_isReached
set_option maxRecDepth 20000 in
theorem ggX8_ofThingNow_Jx4a65c_size_8abf5 : GoodIn wsX8_ofThingNow wsJx4a65c_size_8abf5 := goodIn_r _ [34, 8, 53, 54, 55] (by decide +kernel) (by decide +kernel)
set_option maxRecDepth 20000 in
theorem gX8_ofThingNow_Jx4a65c_size_8abf5 : GoodIn wsX8_ofThingNow (wsV RX8 28 RJx4a65c yJx4a65c_size_8abf5 wsJx4a65c_size_8abf5) := goodIn_app (goodIn_of _ (by decide +kernel)) ggX8_ofThingNow_Jx4a65c_size_8abf5
theorem dX8_ofThingNow_0 : decode cX8_ofThingNow 0 = .ok (.iload_n 2, 1) := by decide +kernel
theorem dX8_ofThingNow_1 : decode cX8_ofThingNow 1 = .ok (.iconst 4, 1) := by decide +kernel
theorem dX8_ofThingNow_2 : decode cX8_ofThingNow 2 = .ok (.if_icmp .ge 20, 3) := by decide +kernel
theorem dX8_ofThingNow_5 : decode cX8_ofThingNow 5 = .ok (.aload_n 0, 1) := by decide +kernel
theorem dX8_ofThingNow_6 : decode cX8_ofThingNow 6 = .ok (.getfield 10, 3) := by decide +kernel
theorem dX8_ofThingNow_9 : decode cX8_ofThingNow 9 = .ok (.getfield 38, 3) := by decide +kernel
theorem dX8_ofThingNow_12 : decode cX8_ofThingNow 12 = .ok (.iload_n 1, 1) := by decide +kernel
theorem dX8_ofThingNow_13 : decode cX8_ofThingNow 13 = .ok (.invokevirtual 84, 3) := by decide +kernel
theorem dX8_ofThingNow_16 : decode cX8_ofThingNow 16 = .ok (.checkcast 88, 3) := by decide +kernel
theorem dX8_ofThingNow_19 : decode cX8_ofThingNow 19 = .ok (.iload_n 2, 1) := by decide +kernel
theorem dX8_ofThingNow_20 : decode cX8_ofThingNow 20 = .ok (.iaload, 1) := by decide +kernel
theorem dX8_ofThingNow_21 : decode cX8_ofThingNow 21 = .ok (.ireturn, 1) := by decide +kernel
theorem dX8_ofThingNow_22 : decode cX8_ofThingNow 22 = .ok (.iload_n 2, 1) := by decide +kernel
theorem dX8_ofThingNow_23 : decode cX8_ofThingNow 23 = .ok (.iconst 4, 1) := by decide +kernel
theorem dX8_ofThingNow_24 : decode cX8_ofThingNow 24 = .ok (.if_icmp .ne 20, 3) := by decide +kernel
theorem dX8_ofThingNow_27 : decode cX8_ofThingNow 27 = .ok (.aload_n 0, 1) := by decide +kernel
theorem dX8_ofThingNow_28 : decode cX8_ofThingNow 28 = .ok (.getfield 10, 3) := by decide +kernel
theorem dX8_ofThingNow_31 : decode cX8_ofThingNow 31 = .ok (.iload_n 1, 1) := by decide +kernel
theorem dX8_ofThingNow_32 : decode cX8_ofThingNow 32 = .ok (.invokevirtual 116, 3) := by decide +kernel
theorem dX8_ofThingNow_35 : decode cX8_ofThingNow 35 = .ok (.ifCond .eq 7, 3) := by decide +kernel
theorem dX8_ofThingNow_38 : decode cX8_ofThingNow 38 = .ok (.iconst 1, 1) := by decide +kernel
theorem dX8_ofThingNow_39 : decode cX8_ofThingNow 39 = .ok (.goto 4, 3) := by decide +kernel
theorem dX8_ofThingNow_43 : decode cX8_ofThingNow 43 = .ok (.ireturn, 1) := by decide +kernel
theorem dX8_ofThingNow_44 : decode cX8_ofThingNow 44 = .ok (.iconst 0, 1) := by decide +kernel
theorem dX8_ofThingNow_45 : decode cX8_ofThingNow 45 = .ok (.istore_n 3, 1) := by decide +kernel
theorem dX8_ofThingNow_46 : decode cX8_ofThingNow 46 = .ok (.iconst 0, 1) := by decide +kernel
theorem dX8_ofThingNow_47 : decode cX8_ofThingNow 47 = .ok (.istore 4, 2) := by decide +kernel
theorem dX8_ofThingNow_49 : decode cX8_ofThingNow 49 = .ok (.iload 4, 2) := by decide +kernel
theorem dX8_ofThingNow_51 : decode cX8_ofThingNow 51 = .ok (.aload_n 0, 1) := by decide +kernel
theorem dX8_ofThingNow_52 : decode cX8_ofThingNow 52 = .ok (.getfield 10, 3) := by decide +kernel
theorem dX8_ofThingNow_55 : decode cX8_ofThingNow 55 = .ok (.getfield 24, 3) := by decide +kernel
theorem dX8_ofThingNow_58 : decode cX8_ofThingNow 58 = .ok (.invokevirtual 28, 3) := by decide +kernel
theorem dX8_ofThingNow_61 : decode cX8_ofThingNow 61 = .ok (.if_icmp .ge 36, 3) := by decide +kernel
theorem dX8_ofThingNow_64 : decode cX8_ofThingNow 64 = .ok (.iload_n 3, 1) := by decide +kernel
theorem dX8_ofThingNow_65 : decode cX8_ofThingNow 65 = .ok (.aload_n 0, 1) := by decide +kernel
theorem dX8_ofThingNow_66 : decode cX8_ofThingNow 66 = .ok (.getfield 10, 3) := by decide +kernel
theorem dX8_ofThingNow_69 : decode cX8_ofThingNow 69 = .ok (.getfield 24, 3) := by decide +kernel
theorem dX8_ofThingNow_72 : decode cX8_ofThingNow 72 = .ok (.iload 4, 2) := by decide +kernel
theorem dX8_ofThingNow_74 : decode cX8_ofThingNow 74 = .ok (.invokevirtual 84, 3) := by decide +kernel
theorem dX8_ofThingNow_77 : decode cX8_ofThingNow 77 = .ok (.checkcast 88, 3) := by decide +kernel
theorem dX8_ofThingNow_80 : decode cX8_ofThingNow 80 = .ok (.iconst 0, 1) := by decide +kernel
theorem dX8_ofThingNow_81 : decode cX8_ofThingNow 81 = .ok (.iaload, 1) := by decide +kernel
theorem dX8_ofThingNow_82 : decode cX8_ofThingNow 82 = .ok (.iload_n 1, 1) := by decide +kernel
theorem dX8_ofThingNow_83 : decode cX8_ofThingNow 83 = .ok (.ishr, 1) := by decide +kernel
theorem dX8_ofThingNow_84 : decode cX8_ofThingNow 84 = .ok (.iconst 1, 1) := by decide +kernel
theorem dX8_ofThingNow_85 : decode cX8_ofThingNow 85 = .ok (.iand, 1) := by decide +kernel
theorem dX8_ofThingNow_86 : decode cX8_ofThingNow 86 = .ok (.iload 4, 2) := by decide +kernel
theorem dX8_ofThingNow_88 : decode cX8_ofThingNow 88 = .ok (.ishl, 1) := by decide +kernel
theorem dX8_ofThingNow_89 : decode cX8_ofThingNow 89 = .ok (.ior, 1) := by decide +kernel
theorem dX8_ofThingNow_90 : decode cX8_ofThingNow 90 = .ok (.istore_n 3, 1) := by decide +kernel
theorem dX8_ofThingNow_91 : decode cX8_ofThingNow 91 = .ok (.iinc 4 1, 3) := by decide +kernel
theorem dX8_ofThingNow_94 : decode cX8_ofThingNow 94 = .ok (.goto (-45), 3) := by decide +kernel
theorem dX8_ofThingNow_97 : decode cX8_ofThingNow 97 = .ok (.iload_n 3, 1) := by decide +kernel
theorem dX8_ofThingNow_98 : decode cX8_ofThingNow 98 = .ok (.ireturn, 1) := by decide +kernel
set_option maxRecDepth 20000 in
theorem ggX8_manyNow_Jx4a65c_size_8abf5 : GoodIn wsX8_manyNow wsJx4a65c_size_8abf5 := goodIn_r _ [8, 9, 67, 68, 69] (by decide +kernel) (by decide +kernel)
set_option maxRecDepth 20000 in
theorem gX8_manyNow_Jx4a65c_size_8abf5 : GoodIn wsX8_manyNow (wsV RX8 28 RJx4a65c yJx4a65c_size_8abf5 wsJx4a65c_size_8abf5) := goodIn_app (goodIn_of _ (by decide +kernel)) ggX8_manyNow_Jx4a65c_size_8abf5
set_option maxRecDepth 20000 in
theorem ggX8_manyNow_X7_opened : GoodIn wsX8_manyNow wsX7_opened := goodIn_r _ [14, 15, 16, 17, 5, 6, 7, 8, 9, 18, 19, 20, 21, 22, 23, 24, 25, 26, 27, 28, 29, 30, 31, 32, 33, 34, 53, 54, 55, 56, 57, 58, 59, 60, 61, 62, 63, 64, 65, 66, 67, 68, 69] (by decide +kernel) (by decide +kernel)
set_option maxRecDepth 20000 in
theorem gX8_manyNow_X7_opened : GoodIn wsX8_manyNow (wsV RX8 131 RX7 yX7_opened wsX7_opened) := goodIn_app (goodIn_of _ (by decide +kernel)) ggX8_manyNow_X7_opened
set_option maxRecDepth 20000 in
theorem ggX8_manyNow_X7_ready : GoodIn wsX8_manyNow wsX7_ready := goodIn_r _ [38, 15, 17, 5, 6, 7, 8, 9, 39, 40, 41, 13, 42, 16, 18, 19, 20, 21, 22, 23, 24, 25, 26, 27, 28, 29, 30, 31, 32, 33, 34, 43, 44, 45, 46, 47, 53, 54, 55, 56, 57, 58, 59, 60, 61, 62, 63, 64, 65, 66, 67, 68, 69] (by decide +kernel) (by decide +kernel)
set_option maxRecDepth 20000 in
theorem gX8_manyNow_X7_ready : GoodIn wsX8_manyNow (wsV RX8 134 RX7 yX7_ready wsX7_ready) := goodIn_app (goodIn_of _ (by decide +kernel)) ggX8_manyNow_X7_ready
set_option maxRecDepth 20000 in
theorem ggX8_manyNow_X7_inState : GoodIn wsX8_manyNow wsX7_inState := goodIn_r _ [46, 47, 16, 17, 5, 6, 7, 8, 9, 18, 19, 20, 21, 22, 23, 24, 25, 26, 27, 28, 29, 30, 31, 32, 33, 34, 53, 54, 55, 56, 57, 58, 59, 60, 61, 62, 63, 64, 65, 66, 67, 68, 69] (by decide +kernel) (by decide +kernel)
set_option maxRecDepth 20000 in
theorem gX8_manyNow_X7_inState : GoodIn wsX8_manyNow (wsV RX8 100 RX7 yX7_inState wsX7_inState) := goodIn_app (goodIn_of _ (by decide +kernel)) ggX8_manyNow_X7_inState
theorem dX8_manyNow_0 : decode cX8_manyNow 0 = .ok (.bipush 19, 2) := by decide +kernel
theorem dX8_manyNow_2 : decode cX8_manyNow 2 = .ok (.newarray .int, 2) := by decide +kernel
theorem dX8_manyNow_4 : decode cX8_manyNow 4 = .ok (.dup, 1) := by decide +kernel
theorem dX8_manyNow_5 : decode cX8_manyNow 5 = .ok (.iconst 0, 1) := by decide +kernel
theorem dX8_manyNow_6 : decode cX8_manyNow 6 = .ok (.aload_n 0, 1) := by decide +kernel
theorem dX8_manyNow_7 : decode cX8_manyNow 7 = .ok (.getfield 10, 3) := by decide +kernel
theorem dX8_manyNow_10 : decode cX8_manyNow 10 = .ok (.getfield 78, 3) := by decide +kernel
theorem dX8_manyNow_13 : decode cX8_manyNow 13 = .ok (.iastore, 1) := by decide +kernel
theorem dX8_manyNow_14 : decode cX8_manyNow 14 = .ok (.dup, 1) := by decide +kernel
theorem dX8_manyNow_15 : decode cX8_manyNow 15 = .ok (.iconst 1, 1) := by decide +kernel
theorem dX8_manyNow_16 : decode cX8_manyNow 16 = .ok (.aload_n 0, 1) := by decide +kernel
theorem dX8_manyNow_17 : decode cX8_manyNow 17 = .ok (.getfield 10, 3) := by decide +kernel
theorem dX8_manyNow_20 : decode cX8_manyNow 20 = .ok (.getfield 24, 3) := by decide +kernel
theorem dX8_manyNow_23 : decode cX8_manyNow 23 = .ok (.invokevirtual 28, 3) := by decide +kernel
theorem dX8_manyNow_26 : decode cX8_manyNow 26 = .ok (.iastore, 1) := by decide +kernel
theorem dX8_manyNow_27 : decode cX8_manyNow 27 = .ok (.dup, 1) := by decide +kernel
theorem dX8_manyNow_28 : decode cX8_manyNow 28 = .ok (.iconst 2, 1) := by decide +kernel
theorem dX8_manyNow_29 : decode cX8_manyNow 29 = .ok (.aload_n 0, 1) := by decide +kernel
theorem dX8_manyNow_30 : decode cX8_manyNow 30 = .ok (.getfield 10, 3) := by decide +kernel
theorem dX8_manyNow_33 : decode cX8_manyNow 33 = .ok (.getfield 38, 3) := by decide +kernel
theorem dX8_manyNow_36 : decode cX8_manyNow 36 = .ok (.invokevirtual 28, 3) := by decide +kernel
theorem dX8_manyNow_39 : decode cX8_manyNow 39 = .ok (.iastore, 1) := by decide +kernel
theorem dX8_manyNow_40 : decode cX8_manyNow 40 = .ok (.dup, 1) := by decide +kernel
theorem dX8_manyNow_41 : decode cX8_manyNow 41 = .ok (.iconst 3, 1) := by decide +kernel
theorem dX8_manyNow_42 : decode cX8_manyNow 42 = .ok (.aload_n 0, 1) := by decide +kernel
theorem dX8_manyNow_43 : decode cX8_manyNow 43 = .ok (.getfield 10, 3) := by decide +kernel
theorem dX8_manyNow_46 : decode cX8_manyNow 46 = .ok (.getfield 59, 3) := by decide +kernel
theorem dX8_manyNow_49 : decode cX8_manyNow 49 = .ok (.invokevirtual 28, 3) := by decide +kernel
theorem dX8_manyNow_52 : decode cX8_manyNow 52 = .ok (.iastore, 1) := by decide +kernel
theorem dX8_manyNow_53 : decode cX8_manyNow 53 = .ok (.dup, 1) := by decide +kernel
theorem dX8_manyNow_54 : decode cX8_manyNow 54 = .ok (.iconst 4, 1) := by decide +kernel
theorem dX8_manyNow_55 : decode cX8_manyNow 55 = .ok (.aload_n 0, 1) := by decide +kernel
theorem dX8_manyNow_56 : decode cX8_manyNow 56 = .ok (.getfield 10, 3) := by decide +kernel
theorem dX8_manyNow_59 : decode cX8_manyNow 59 = .ok (.getfield 45, 3) := by decide +kernel
theorem dX8_manyNow_62 : decode cX8_manyNow 62 = .ok (.ifCond .eq 7, 3) := by decide +kernel
theorem dX8_manyNow_69 : decode cX8_manyNow 69 = .ok (.iconst 0, 1) := by decide +kernel
theorem dX8_manyNow_70 : decode cX8_manyNow 70 = .ok (.iastore, 1) := by decide +kernel
theorem dX8_manyNow_71 : decode cX8_manyNow 71 = .ok (.dup, 1) := by decide +kernel
theorem dX8_manyNow_72 : decode cX8_manyNow 72 = .ok (.iconst 5, 1) := by decide +kernel
theorem dX8_manyNow_73 : decode cX8_manyNow 73 = .ok (.aload_n 0, 1) := by decide +kernel
theorem dX8_manyNow_74 : decode cX8_manyNow 74 = .ok (.getfield 10, 3) := by decide +kernel
theorem dX8_manyNow_77 : decode cX8_manyNow 77 = .ok (.getfield 69, 3) := by decide +kernel
theorem dX8_manyNow_80 : decode cX8_manyNow 80 = .ok (.iastore, 1) := by decide +kernel
theorem dX8_manyNow_81 : decode cX8_manyNow 81 = .ok (.dup, 1) := by decide +kernel
theorem dX8_manyNow_82 : decode cX8_manyNow 82 = .ok (.bipush 6, 2) := by decide +kernel
theorem dX8_manyNow_84 : decode cX8_manyNow 84 = .ok (.aload_n 0, 1) := by decide +kernel
theorem dX8_manyNow_85 : decode cX8_manyNow 85 = .ok (.getfield 10, 3) := by decide +kernel
theorem dX8_manyNow_88 : decode cX8_manyNow 88 = .ok (.getfield 122, 3) := by decide +kernel
theorem dX8_manyNow_91 : decode cX8_manyNow 91 = .ok (.iastore, 1) := by decide +kernel
theorem dX8_manyNow_92 : decode cX8_manyNow 92 = .ok (.dup, 1) := by decide +kernel
theorem dX8_manyNow_93 : decode cX8_manyNow 93 = .ok (.bipush 7, 2) := by decide +kernel
theorem dX8_manyNow_95 : decode cX8_manyNow 95 = .ok (.aload_n 0, 1) := by decide +kernel
theorem dX8_manyNow_96 : decode cX8_manyNow 96 = .ok (.getfield 10, 3) := by decide +kernel
theorem dX8_manyNow_99 : decode cX8_manyNow 99 = .ok (.getfield 125, 3) := by decide +kernel
theorem dX8_manyNow_102 : decode cX8_manyNow 102 = .ok (.iastore, 1) := by decide +kernel
theorem dX8_manyNow_103 : decode cX8_manyNow 103 = .ok (.dup, 1) := by decide +kernel
theorem dX8_manyNow_104 : decode cX8_manyNow 104 = .ok (.bipush 8, 2) := by decide +kernel
theorem dX8_manyNow_106 : decode cX8_manyNow 106 = .ok (.aload_n 0, 1) := by decide +kernel
theorem dX8_manyNow_107 : decode cX8_manyNow 107 = .ok (.getfield 10, 3) := by decide +kernel
theorem dX8_manyNow_110 : decode cX8_manyNow 110 = .ok (.getfield 128, 3) := by decide +kernel
theorem dX8_manyNow_113 : decode cX8_manyNow 113 = .ok (.iastore, 1) := by decide +kernel
theorem dX8_manyNow_114 : decode cX8_manyNow 114 = .ok (.dup, 1) := by decide +kernel
theorem dX8_manyNow_115 : decode cX8_manyNow 115 = .ok (.bipush 9, 2) := by decide +kernel
theorem dX8_manyNow_117 : decode cX8_manyNow 117 = .ok (.aload_n 0, 1) := by decide +kernel
theorem dX8_manyNow_118 : decode cX8_manyNow 118 = .ok (.getfield 10, 3) := by decide +kernel
theorem dX8_manyNow_121 : decode cX8_manyNow 121 = .ok (.getfield 75, 3) := by decide +kernel
theorem dX8_manyNow_124 : decode cX8_manyNow 124 = .ok (.iastore, 1) := by decide +kernel
theorem dX8_manyNow_125 : decode cX8_manyNow 125 = .ok (.dup, 1) := by decide +kernel
theorem dX8_manyNow_126 : decode cX8_manyNow 126 = .ok (.bipush 10, 2) := by decide +kernel
theorem dX8_manyNow_128 : decode cX8_manyNow 128 = .ok (.aload_n 0, 1) := by decide +kernel
theorem dX8_manyNow_129 : decode cX8_manyNow 129 = .ok (.getfield 10, 3) := by decide +kernel
theorem dX8_manyNow_132 : decode cX8_manyNow 132 = .ok (.getfield 72, 3) := by decide +kernel
theorem dX8_manyNow_135 : decode cX8_manyNow 135 = .ok (.iastore, 1) := by decide +kernel
theorem dX8_manyNow_136 : decode cX8_manyNow 136 = .ok (.dup, 1) := by decide +kernel
theorem dX8_manyNow_137 : decode cX8_manyNow 137 = .ok (.bipush 11, 2) := by decide +kernel
theorem dX8_manyNow_139 : decode cX8_manyNow 139 = .ok (.aload_n 0, 1) := by decide +kernel
theorem dX8_manyNow_140 : decode cX8_manyNow 140 = .ok (.getfield 10, 3) := by decide +kernel
theorem dX8_manyNow_143 : decode cX8_manyNow 143 = .ok (.getfield 52, 3) := by decide +kernel
theorem dX8_manyNow_146 : decode cX8_manyNow 146 = .ok (.iastore, 1) := by decide +kernel
theorem dX8_manyNow_147 : decode cX8_manyNow 147 = .ok (.dup, 1) := by decide +kernel
theorem dX8_manyNow_148 : decode cX8_manyNow 148 = .ok (.bipush 12, 2) := by decide +kernel
theorem dX8_manyNow_150 : decode cX8_manyNow 150 = .ok (.aload_n 0, 1) := by decide +kernel
theorem dX8_manyNow_151 : decode cX8_manyNow 151 = .ok (.getfield 10, 3) := by decide +kernel
theorem dX8_manyNow_154 : decode cX8_manyNow 154 = .ok (.invokevirtual 131, 3) := by decide +kernel
theorem dX8_manyNow_157 : decode cX8_manyNow 157 = .ok (.iastore, 1) := by decide +kernel
theorem dX8_manyNow_158 : decode cX8_manyNow 158 = .ok (.dup, 1) := by decide +kernel
theorem dX8_manyNow_159 : decode cX8_manyNow 159 = .ok (.bipush 13, 2) := by decide +kernel
theorem dX8_manyNow_161 : decode cX8_manyNow 161 = .ok (.aload_n 0, 1) := by decide +kernel
theorem dX8_manyNow_162 : decode cX8_manyNow 162 = .ok (.getfield 10, 3) := by decide +kernel
theorem dX8_manyNow_165 : decode cX8_manyNow 165 = .ok (.invokevirtual 134, 3) := by decide +kernel
theorem dX8_manyNow_168 : decode cX8_manyNow 168 = .ok (.iastore, 1) := by decide +kernel
theorem dX8_manyNow_169 : decode cX8_manyNow 169 = .ok (.dup, 1) := by decide +kernel
theorem dX8_manyNow_170 : decode cX8_manyNow 170 = .ok (.bipush 14, 2) := by decide +kernel
theorem dX8_manyNow_172 : decode cX8_manyNow 172 = .ok (.aload_n 0, 1) := by decide +kernel
theorem dX8_manyNow_173 : decode cX8_manyNow 173 = .ok (.getfield 10, 3) := by decide +kernel
theorem dX8_manyNow_176 : decode cX8_manyNow 176 = .ok (.iconst 1, 1) := by decide +kernel
theorem dX8_manyNow_177 : decode cX8_manyNow 177 = .ok (.invokevirtual 100, 3) := by decide +kernel
theorem dX8_manyNow_180 : decode cX8_manyNow 180 = .ok (.iastore, 1) := by decide +kernel
theorem dX8_manyNow_181 : decode cX8_manyNow 181 = .ok (.dup, 1) := by decide +kernel
theorem dX8_manyNow_182 : decode cX8_manyNow 182 = .ok (.bipush 15, 2) := by decide +kernel
theorem dX8_manyNow_184 : decode cX8_manyNow 184 = .ok (.aload_n 0, 1) := by decide +kernel
theorem dX8_manyNow_185 : decode cX8_manyNow 185 = .ok (.getfield 10, 3) := by decide +kernel
theorem dX8_manyNow_188 : decode cX8_manyNow 188 = .ok (.iconst 2, 1) := by decide +kernel
theorem dX8_manyNow_189 : decode cX8_manyNow 189 = .ok (.invokevirtual 100, 3) := by decide +kernel
theorem dX8_manyNow_192 : decode cX8_manyNow 192 = .ok (.iastore, 1) := by decide +kernel
theorem dX8_manyNow_193 : decode cX8_manyNow 193 = .ok (.dup, 1) := by decide +kernel
theorem dX8_manyNow_194 : decode cX8_manyNow 194 = .ok (.bipush 16, 2) := by decide +kernel
theorem dX8_manyNow_196 : decode cX8_manyNow 196 = .ok (.aload_n 0, 1) := by decide +kernel
theorem dX8_manyNow_197 : decode cX8_manyNow 197 = .ok (.getfield 10, 3) := by decide +kernel
theorem dX8_manyNow_200 : decode cX8_manyNow 200 = .ok (.iconst 3, 1) := by decide +kernel
theorem dX8_manyNow_201 : decode cX8_manyNow 201 = .ok (.invokevirtual 100, 3) := by decide +kernel
theorem dX8_manyNow_204 : decode cX8_manyNow 204 = .ok (.iastore, 1) := by decide +kernel
theorem dX8_manyNow_205 : decode cX8_manyNow 205 = .ok (.dup, 1) := by decide +kernel
theorem dX8_manyNow_206 : decode cX8_manyNow 206 = .ok (.bipush 17, 2) := by decide +kernel
theorem dX8_manyNow_208 : decode cX8_manyNow 208 = .ok (.aload_n 0, 1) := by decide +kernel
theorem dX8_manyNow_209 : decode cX8_manyNow 209 = .ok (.getfield 16, 3) := by decide +kernel
theorem dX8_manyNow_212 : decode cX8_manyNow 212 = .ok (.ifCond .eq 7, 3) := by decide +kernel
theorem dX8_manyNow_215 : decode cX8_manyNow 215 = .ok (.iconst 1, 1) := by decide +kernel
theorem dX8_manyNow_216 : decode cX8_manyNow 216 = .ok (.goto 4, 3) := by decide +kernel
theorem dX8_manyNow_220 : decode cX8_manyNow 220 = .ok (.iastore, 1) := by decide +kernel
theorem dX8_manyNow_221 : decode cX8_manyNow 221 = .ok (.dup, 1) := by decide +kernel
theorem dX8_manyNow_222 : decode cX8_manyNow 222 = .ok (.bipush 18, 2) := by decide +kernel
theorem dX8_manyNow_224 : decode cX8_manyNow 224 = .ok (.aload_n 0, 1) := by decide +kernel
theorem dX8_manyNow_225 : decode cX8_manyNow 225 = .ok (.getfield 10, 3) := by decide +kernel
theorem dX8_manyNow_228 : decode cX8_manyNow 228 = .ok (.getfield 137, 3) := by decide +kernel
theorem dX8_manyNow_231 : decode cX8_manyNow 231 = .ok (.iastore, 1) := by decide +kernel
theorem dX8_manyNow_232 : decode cX8_manyNow 232 = .ok (.astore_n 2, 1) := by decide +kernel
theorem dX8_manyNow_233 : decode cX8_manyNow 233 = .ok (.aload_n 2, 1) := by decide +kernel
theorem dX8_manyNow_234 : decode cX8_manyNow 234 = .ok (.iload_n 1, 1) := by decide +kernel
theorem dX8_manyNow_235 : decode cX8_manyNow 235 = .ok (.iaload, 1) := by decide +kernel
theorem dX8_manyNow_236 : decode cX8_manyNow 236 = .ok (.ireturn, 1) := by decide +kernel
set_option maxRecDepth 20000 in
theorem ggX8_missNow_X7_depth_ : GoodIn wsX8_missNow wsX7_depth_ := goodIn_r _ [7, 8, 9, 10, 6, 11, 12, 13, 14, 15, 16, 17, 18, 19, 20, 21, 22, 23, 24, 25, 26, 27, 28, 29, 30, 31, 32, 33, 34, 35, 36, 37, 38, 39, 40, 41, 42, 43, 44, 45, 46, 47, 48, 49, 50, 51, 52, 53, 54, 55, 56, 57, 58, 59, 66, 67, 68, 69, 70, 71, 72, 73, 74, 75, 76, 77, 78, 79, 80, 81, 82] (by decide +kernel) (by decide +kernel)
set_option maxRecDepth 20000 in
theorem gX8_missNow_X7_depth_ : GoodIn wsX8_missNow (wsV RX8 146 RX7 yX7_depth_ wsX7_depth_) := goodIn_app (goodIn_of _ (by decide +kernel)) ggX8_missNow_X7_depth_
set_option maxRecDepth 20000 in
theorem ggX8_missNow_Jx4a65c_size_8abf5 : GoodIn wsX8_missNow wsJx4a65c_size_8abf5 := goodIn_r _ [18, 19, 80, 81, 82] (by decide +kernel) (by decide +kernel)
set_option maxRecDepth 20000 in
theorem gX8_missNow_Jx4a65c_size_8abf5 : GoodIn wsX8_missNow (wsV RX8 28 RJx4a65c yJx4a65c_size_8abf5 wsJx4a65c_size_8abf5) := goodIn_app (goodIn_of _ (by decide +kernel)) ggX8_missNow_Jx4a65c_size_8abf5
set_option maxRecDepth 20000 in
theorem ggX8_missNow_Jx4a65c_get_915e3 : GoodIn wsX8_missNow wsJx4a65c_get_915e3 := goodIn_r _ [23, 19, 24, 25, 26, 27, 28, 29, 30, 31, 32, 33, 34, 17, 35, 36, 80, 81, 82] (by decide +kernel) (by decide +kernel)
set_option maxRecDepth 20000 in
theorem gX8_missNow_Jx4a65c_get_915e3 : GoodIn wsX8_missNow (wsV RX8 84 RJx4a65c yJx4a65c_get_915e3 wsJx4a65c_get_915e3) := goodIn_app (goodIn_of _ (by decide +kernel)) ggX8_missNow_Jx4a65c_get_915e3
theorem dX8_missNow_0 : decode cX8_missNow 0 = .ok (.aload_n 0, 1) := by decide +kernel
theorem dX8_missNow_1 : decode cX8_missNow 1 = .ok (.getfield 10, 3) := by decide +kernel
theorem dX8_missNow_4 : decode cX8_missNow 4 = .ok (.invokevirtual 146, 3) := by decide +kernel
theorem dX8_missNow_7 : decode cX8_missNow 7 = .ok (.iconst (-1), 1) := by decide +kernel
theorem dX8_missNow_8 : decode cX8_missNow 8 = .ok (.if_icmp .ne 5, 3) := by decide +kernel
theorem dX8_missNow_13 : decode cX8_missNow 13 = .ok (.iconst 0, 1) := by decide +kernel
theorem dX8_missNow_14 : decode cX8_missNow 14 = .ok (.istore_n 1, 1) := by decide +kernel
theorem dX8_missNow_15 : decode cX8_missNow 15 = .ok (.iconst 0, 1) := by decide +kernel
theorem dX8_missNow_16 : decode cX8_missNow 16 = .ok (.istore_n 2, 1) := by decide +kernel
theorem dX8_missNow_17 : decode cX8_missNow 17 = .ok (.iload_n 2, 1) := by decide +kernel
theorem dX8_missNow_18 : decode cX8_missNow 18 = .ok (.aload_n 0, 1) := by decide +kernel
theorem dX8_missNow_19 : decode cX8_missNow 19 = .ok (.getfield 10, 3) := by decide +kernel
theorem dX8_missNow_22 : decode cX8_missNow 22 = .ok (.getfield 38, 3) := by decide +kernel
theorem dX8_missNow_25 : decode cX8_missNow 25 = .ok (.invokevirtual 28, 3) := by decide +kernel
theorem dX8_missNow_28 : decode cX8_missNow 28 = .ok (.if_icmp .ge 55, 3) := by decide +kernel
theorem dX8_missNow_31 : decode cX8_missNow 31 = .ok (.aload_n 0, 1) := by decide +kernel
theorem dX8_missNow_32 : decode cX8_missNow 32 = .ok (.getfield 10, 3) := by decide +kernel
theorem dX8_missNow_35 : decode cX8_missNow 35 = .ok (.getfield 38, 3) := by decide +kernel
theorem dX8_missNow_38 : decode cX8_missNow 38 = .ok (.iload_n 2, 1) := by decide +kernel
theorem dX8_missNow_39 : decode cX8_missNow 39 = .ok (.invokevirtual 84, 3) := by decide +kernel
theorem dX8_missNow_42 : decode cX8_missNow 42 = .ok (.checkcast 88, 3) := by decide +kernel
theorem dX8_missNow_45 : decode cX8_missNow 45 = .ok (.astore_n 3, 1) := by decide +kernel
theorem dX8_missNow_46 : decode cX8_missNow 46 = .ok (.aload_n 3, 1) := by decide +kernel
theorem dX8_missNow_47 : decode cX8_missNow 47 = .ok (.iconst 3, 1) := by decide +kernel
theorem dX8_missNow_48 : decode cX8_missNow 48 = .ok (.iaload, 1) := by decide +kernel
theorem dX8_missNow_49 : decode cX8_missNow 49 = .ok (.istore 4, 2) := by decide +kernel
theorem dX8_missNow_51 : decode cX8_missNow 51 = .ok (.aload_n 3, 1) := by decide +kernel
theorem dX8_missNow_52 : decode cX8_missNow 52 = .ok (.iconst 3, 1) := by decide +kernel
theorem dX8_missNow_53 : decode cX8_missNow 53 = .ok (.iconst 3, 1) := by decide +kernel
theorem dX8_missNow_54 : decode cX8_missNow 54 = .ok (.iastore, 1) := by decide +kernel
theorem dX8_missNow_55 : decode cX8_missNow 55 = .ok (.aload_n 0, 1) := by decide +kernel
theorem dX8_missNow_56 : decode cX8_missNow 56 = .ok (.getfield 10, 3) := by decide +kernel
theorem dX8_missNow_59 : decode cX8_missNow 59 = .ok (.invokevirtual 146, 3) := by decide +kernel
theorem dX8_missNow_62 : decode cX8_missNow 62 = .ok (.iconst (-1), 1) := by decide +kernel
theorem dX8_missNow_63 : decode cX8_missNow 63 = .ok (.if_icmp .ne 9, 3) := by decide +kernel
theorem dX8_missNow_72 : decode cX8_missNow 72 = .ok (.aload_n 3, 1) := by decide +kernel
theorem dX8_missNow_73 : decode cX8_missNow 73 = .ok (.iconst 3, 1) := by decide +kernel
theorem dX8_missNow_74 : decode cX8_missNow 74 = .ok (.iload 4, 2) := by decide +kernel
theorem dX8_missNow_76 : decode cX8_missNow 76 = .ok (.iastore, 1) := by decide +kernel
theorem dX8_missNow_77 : decode cX8_missNow 77 = .ok (.iinc 2 1, 3) := by decide +kernel
theorem dX8_missNow_80 : decode cX8_missNow 80 = .ok (.goto (-63), 3) := by decide +kernel
theorem dX8_missNow_83 : decode cX8_missNow 83 = .ok (.iload_n 1, 1) := by decide +kernel
theorem dX8_missNow_84 : decode cX8_missNow 84 = .ok (.ireturn, 1) := by decide +kernel
set_option maxRecDepth 20000 in
theorem ggX8_endsNow_X7_copy : GoodIn wsX8_endsNow wsX7_copy := goodIn_r _ [6, 7, 8, 5, 9, 10, 11, 12, 13, 14, 15, 16, 17, 18, 19, 20, 21, 22, 23, 24, 25, 26, 27, 28, 29, 30, 31, 32, 33, 34, 35, 36, 37, 38, 39, 40, 41, 42, 43, 44, 45, 46, 47, 48, 49, 50, 51, 52, 53, 54, 55, 56, 57, 58, 59, 60, 61, 62, 63, 64, 65, 66, 67, 68, 69, 70, 71, 72, 73, 74, 75, 76, 77, 78, 79, 80, 81, 82, 83, 84, 85, 86, 87, 88, 89, 90, 91, 92, 93, 94, 95, 96, 97, 98, 99, 100, 101, 102, 103, 104, 105, 106, 107, 108, 109, 110, 111, 112, 113, 114, 115, 116, 117, 118, 119, 120, 121, 122, 123, 124, 125, 126, 127, 195, 196, 197, 198, 199, 200, 201, 202, 203, 204, 205, 206, 207, 208, 209, 210, 211, 212, 213, 214, 215] (by decide +kernel) (by decide +kernel)
set_option maxRecDepth 20000 in
theorem gX8_endsNow_X7_copy : GoodIn wsX8_endsNow (wsV RX8 161 RX7 yX7_copy wsX7_copy) := goodIn_app (goodIn_of _ (by decide +kernel)) ggX8_endsNow_X7_copy
theorem dX8_endsNow_0 : decode cX8_endsNow 0 = .ok (.aload_n 0, 1) := by decide +kernel
theorem dX8_endsNow_1 : decode cX8_endsNow 1 = .ok (.getfield 10, 3) := by decide +kernel
theorem dX8_endsNow_4 : decode cX8_endsNow 4 = .ok (.invokevirtual 161, 3) := by decide +kernel
theorem dX8_endsNow_7 : decode cX8_endsNow 7 = .ok (.astore_n 1, 1) := by decide +kernel
theorem dX8_endsNow_8 : decode cX8_endsNow 8 = .ok (.aload_n 1, 1) := by decide +kernel
theorem dX8_endsNow_9 : decode cX8_endsNow 9 = .ok (.getfield 45, 3) := by decide +kernel
theorem dX8_endsNow_12 : decode cX8_endsNow 12 = .ok (.ifCond .eq 11, 3) := by decide +kernel
theorem dX8_endsNow_23 : decode cX8_endsNow 23 = .ok (.aload_n 1, 1) := by decide +kernel
theorem dX8_endsNow_24 : decode cX8_endsNow 24 = .ok (.getfield 122, 3) := by decide +kernel
theorem dX8_endsNow_27 : decode cX8_endsNow 27 = .ok (.ifCond .le 10, 3) := by decide +kernel
theorem dX8_endsNow_37 : decode cX8_endsNow 37 = .ok (.iconst (-1), 1) := by decide +kernel
theorem dX8_endsNow_38 : decode cX8_endsNow 38 = .ok (.ireturn, 1) := by decide +kernel
theorem dX8_add_0 : decode cX8_add 0 = .ok (.aload_n 0, 1) := by decide +kernel
theorem dX8_add_1 : decode cX8_add 1 = .ok (.aload_n 0, 1) := by decide +kernel
theorem dX8_add_2 : decode cX8_add 2 = .ok (.getfield 168, 3) := by decide +kernel
theorem dX8_add_5 : decode cX8_add 5 = .ok (.ldc2_w 172, 3) := by decide +kernel
theorem dX8_add_8 : decode cX8_add 8 = .ok (.lmul, 1) := by decide +kernel
theorem dX8_add_9 : decode cX8_add 9 = .ok (.iload_n 1, 1) := by decide +kernel
theorem dX8_add_10 : decode cX8_add 10 = .ok (.i2l, 1) := by decide +kernel
theorem dX8_add_11 : decode cX8_add 11 = .ok (.ladd, 1) := by decide +kernel
theorem dX8_add_12 : decode cX8_add 12 = .ok (.putfield 168, 3) := by decide +kernel
theorem dX8_add_15 : decode cX8_add 15 = .ok (.return_, 1) := by decide +kernel
set_option maxRecDepth 20000 in
theorem ggX8_digest_X8_manyNow : GoodIn wsX8_digest wsX8_manyNow := goodIn_r _ [10, 11, 4, 12, 13, 14, 15, 16, 17, 18, 19, 20, 21, 22, 23, 24, 25, 26, 27, 28, 29, 30, 31, 32, 33, 34, 35, 36, 37, 38, 39, 40, 41, 42, 43, 44, 45, 46, 47, 48, 49, 50, 51, 52, 53, 54, 55, 56, 57, 277, 278, 279, 280, 281, 282, 283, 284, 285, 286, 287, 288, 289, 290, 291, 292, 293, 294, 295, 296, 297] (by decide +kernel) (by decide +kernel)
set_option maxRecDepth 20000 in
theorem gX8_digest_X8_manyNow : GoodIn wsX8_digest (wsV RX8 140 RX8 yX8_manyNow wsX8_manyNow) := goodIn_app (goodIn_of _ (by decide +kernel)) ggX8_digest_X8_manyNow
set_option maxRecDepth 20000 in
theorem ggX8_digest_X8_add : GoodIn wsX8_digest wsX8_add := goodIn_r _ [61, 3, 62, 277, 278, 279, 280] (by decide +kernel) (by decide +kernel)
set_option maxRecDepth 20000 in
theorem gX8_digest_X8_add : GoodIn wsX8_digest (wsV RX8 176 RX8 yX8_add wsX8_add) := goodIn_app (goodIn_of _ (by decide +kernel)) ggX8_digest_X8_add
set_option maxRecDepth 20000 in
theorem ggX8_digest_Jx4a65c_size_8abf5 : GoodIn wsX8_digest wsJx4a65c_size_8abf5 := goodIn_r _ [17, 18, 295, 296, 297] (by decide +kernel) (by decide +kernel)
set_option maxRecDepth 20000 in
theorem gX8_digest_Jx4a65c_size_8abf5 : GoodIn wsX8_digest (wsV RX8 28 RJx4a65c yJx4a65c_size_8abf5 wsJx4a65c_size_8abf5) := goodIn_app (goodIn_of _ (by decide +kernel)) ggX8_digest_Jx4a65c_size_8abf5
set_option maxRecDepth 20000 in
theorem ggX8_digest_X8_ofLockNow : GoodIn wsX8_digest wsX8_ofLockNow := goodIn_r _ [66, 4, 5, 67, 28, 29, 16, 30, 18, 31, 32, 33, 34, 35, 36, 37, 38, 39, 40, 41, 42, 43, 68, 49, 50, 22, 51, 24, 25, 27, 52, 53, 54, 55, 56, 26, 14, 15, 17, 277, 278, 279, 280, 281, 282, 283, 284, 285, 286, 287, 288, 289, 290, 291, 292, 293, 294, 295, 296, 297] (by decide +kernel) (by decide +kernel)
set_option maxRecDepth 20000 in
theorem gX8_digest_X8_ofLockNow : GoodIn wsX8_digest (wsV RX8 112 RX8 yX8_ofLockNow wsX8_ofLockNow) := goodIn_app (goodIn_of _ (by decide +kernel)) ggX8_digest_X8_ofLockNow
set_option maxRecDepth 20000 in
theorem ggX8_digest_X8_ofThingNow : GoodIn wsX8_digest wsX8_ofThingNow := goodIn_r _ [72, 4, 5, 67, 28, 29, 16, 30, 18, 31, 32, 33, 34, 35, 36, 37, 38, 39, 40, 41, 42, 43, 73, 74, 75, 22, 76, 56, 25, 24, 27, 13, 14, 15, 17, 277, 278, 279, 280, 281, 282, 283, 284, 285, 286, 287, 288, 289, 290, 291, 292, 293, 294, 295, 296, 297] (by decide +kernel) (by decide +kernel)
set_option maxRecDepth 20000 in
theorem gX8_digest_X8_ofThingNow : GoodIn wsX8_digest (wsV RX8 119 RX8 yX8_ofThingNow wsX8_ofThingNow) := goodIn_app (goodIn_of _ (by decide +kernel)) ggX8_digest_X8_ofThingNow
set_option maxRecDepth 20000 in
theorem ggX8_digest_Jx4a65c_iterator_32c93 : GoodIn wsX8_digest wsJx4a65c_iterator_32c93 := goodIn_r _ [80, 81, 82, 83, 84, 85, 86, 87, 88, 89, 90, 91, 92, 93, 94, 298, 299, 300, 301, 295, 296, 297] (by decide +kernel) (by decide +kernel)
set_option maxRecDepth 20000 in
theorem gX8_digest_Jx4a65c_iterator_32c93 : GoodIn wsX8_digest (wsV RX8 178 RJx4a65c yJx4a65c_iterator_32c93 wsJx4a65c_iterator_32c93) := goodIn_app (goodIn_of _ (by decide +kernel)) ggX8_digest_Jx4a65c_iterator_32c93
set_option maxRecDepth 20000 in
theorem ggX8_digest_Jx35411_hasNext_aae02 : GoodIn wsX8_digest wsJx35411_hasNext_aae02 := goodIn_r _ [98, 99, 87, 298, 299, 300, 301, 295, 296, 297] (by decide +kernel) (by decide +kernel)
set_option maxRecDepth 20000 in
theorem gX8_digest_Jx35411_hasNext_aae02_f182Jx35411 : GoodIn wsX8_digest (va_wsF RX8 182 RJx35411 ⟨"java/util/Iterator", "hasNext", "()Z"⟩ yJx35411_hasNext_aae02 wsJx35411_hasNext_aae02) := goodIn_app (goodIn_of _ (by decide +kernel)) ggX8_digest_Jx35411_hasNext_aae02
set_option maxRecDepth 20000 in
theorem ggX8_digest_X7_depth_ : GoodIn wsX8_digest wsX7_depth_ := goodIn_r _ [112, 113, 20, 21, 22, 23, 24, 25, 26, 14, 15, 16, 17, 18, 27, 28, 29, 30, 31, 32, 33, 34, 35, 36, 37, 38, 39, 40, 41, 42, 43, 114, 115, 116, 117, 118, 119, 120, 121, 11, 122, 123, 124, 125, 126, 127, 128, 129, 56, 130, 131, 132, 133, 134, 281, 282, 283, 284, 285, 286, 287, 288, 289, 290, 291, 292, 293, 294, 295, 296, 297] (by decide +kernel) (by decide +kernel)
set_option maxRecDepth 20000 in
theorem gX8_digest_X7_depth_ : GoodIn wsX8_digest (wsV RX8 146 RX7 yX7_depth_ wsX7_depth_) := goodIn_app (goodIn_of _ (by decide +kernel)) ggX8_digest_X7_depth_
set_option maxRecDepth 20000 in
theorem ggX8_digest_X7_stands : GoodIn wsX8_digest wsX7_stands := goodIn_r _ [138, 113, 20, 21, 22, 23, 24, 25, 26, 14, 15, 16, 17, 18, 27, 28, 29, 30, 31, 32, 33, 34, 35, 36, 37, 38, 39, 40, 41, 42, 43, 118, 119, 120, 121, 11, 122, 123, 124, 125, 126, 127, 128, 129, 56, 281, 282, 283, 284, 285, 286, 287, 288, 289, 290, 291, 292, 293, 294, 295, 296, 297] (by decide +kernel) (by decide +kernel)
set_option maxRecDepth 20000 in
theorem gX8_digest_X7_stands : GoodIn wsX8_digest (wsV RX8 149 RX7 yX7_stands wsX7_stands) := goodIn_app (goodIn_of _ (by decide +kernel)) ggX8_digest_X7_stands
set_option maxRecDepth 20000 in
theorem ggX8_digest_X7_deadEnds : GoodIn wsX8_digest wsX7_deadEnds := goodIn_r _ [142, 143, 113, 20, 21, 22, 23, 24, 25, 26, 14, 15, 16, 17, 18, 27, 28, 29, 30, 31, 32, 33, 34, 35, 36, 37, 38, 39, 40, 41, 42, 43, 118, 119, 120, 121, 11, 122, 123, 124, 125, 126, 127, 128, 129, 56, 130, 131, 132, 133, 134, 281, 282, 283, 284, 285, 286, 287, 288, 289, 290, 291, 292, 293, 294, 295, 296, 297] (by decide +kernel) (by decide +kernel)
set_option maxRecDepth 20000 in
theorem gX8_digest_X7_deadEnds : GoodIn wsX8_digest (wsV RX8 152 RX7 yX7_deadEnds wsX7_deadEnds) := goodIn_app (goodIn_of _ (by decide +kernel)) ggX8_digest_X7_deadEnds
set_option maxRecDepth 20000 in
theorem ggX8_digest_X8_missNow : GoodIn wsX8_digest wsX8_missNow := goodIn_r _ [147, 4, 5, 109, 110, 111, 22, 112, 113, 20, 21, 23, 24, 25, 26, 14, 15, 16, 17, 18, 27, 28, 29, 30, 31, 32, 33, 34, 35, 36, 37, 38, 39, 40, 41, 42, 43, 114, 115, 116, 117, 118, 119, 120, 121, 11, 122, 123, 124, 125, 126, 127, 128, 129, 56, 130, 131, 132, 133, 134, 13, 67, 277, 278, 279, 280, 281, 282, 283, 284, 285, 286, 287, 288, 289, 290, 291, 292, 293, 294, 295, 296, 297] (by decide +kernel) (by decide +kernel)
set_option maxRecDepth 20000 in
theorem gX8_digest_X8_missNow : GoodIn wsX8_digest (wsV RX8 155 RX8 yX8_missNow wsX8_missNow) := goodIn_app (goodIn_of _ (by decide +kernel)) ggX8_digest_X8_missNow
set_option maxRecDepth 20000 in
theorem ggX8_digest_X7_bestHint : GoodIn wsX8_digest wsX7_bestHint := goodIn_r _ [151, 24, 26, 14, 15, 16, 17, 18, 48, 49, 50, 22, 51, 25, 27, 28, 29, 30, 31, 32, 33, 34, 35, 36, 37, 38, 39, 40, 41, 42, 43, 52, 53, 54, 55, 56, 113, 20, 21, 23, 114, 115, 116, 117, 118, 119, 120, 121, 11, 122, 123, 124, 125, 126, 127, 128, 129, 130, 131, 132, 133, 134, 281, 282, 283, 284, 285, 286, 287, 288, 289, 290, 291, 292, 293, 294, 295, 296, 297] (by decide +kernel) (by decide +kernel)
set_option maxRecDepth 20000 in
theorem gX8_digest_X7_bestHint : GoodIn wsX8_digest (wsV RX8 158 RX7 yX7_bestHint wsX7_bestHint) := goodIn_app (goodIn_of _ (by decide +kernel)) ggX8_digest_X7_bestHint
set_option maxRecDepth 20000 in
theorem ggX8_digest_X8_endsNow : GoodIn wsX8_digest wsX8_endsNow := goodIn_r _ [155, 4, 156, 157, 158, 22, 159, 160, 161, 24, 25, 162, 163, 164, 165, 166, 56, 167, 134, 168, 169, 170, 171, 172, 173, 89, 90, 174, 175, 16, 176, 177, 178, 179, 180, 43, 181, 182, 183, 184, 185, 186, 187, 188, 189, 190, 191, 78, 79, 80, 81, 82, 83, 84, 85, 86, 87, 88, 91, 92, 93, 94, 192, 96, 97, 98, 99, 193, 101, 102, 103, 104, 105, 106, 107, 108, 194, 195, 196, 197, 198, 18, 199, 200, 201, 202, 203, 204, 205, 206, 207, 208, 209, 210, 211, 212, 213, 214, 215, 216, 217, 218, 219, 220, 221, 222, 223, 224, 225, 226, 227, 228, 229, 230, 231, 232, 233, 234, 235, 236, 237, 238, 239, 240, 241, 242, 243, 244, 245, 246, 247, 248, 249, 26, 14, 15, 17, 27, 28, 29, 30, 31, 32, 33, 34, 35, 36, 37, 38, 39, 40, 41, 42, 250, 251, 252, 253, 254, 48, 49, 50, 51, 52, 53, 54, 55, 255, 256, 257, 258, 259, 74, 75, 76, 260, 261, 262, 263, 264, 265, 266, 267, 268, 269, 270, 271, 272, 273, 274, 275, 276, 277, 278, 279, 280, 281, 282, 283, 284, 285, 286, 287, 288, 289, 290, 291, 292, 293, 294, 295, 296, 297, 298, 299, 300, 301] (by decide +kernel) (by decide +kernel)
set_option maxRecDepth 20000 in
theorem gX8_digest_X8_endsNow : GoodIn wsX8_digest (wsV RX8 165 RX8 yX8_endsNow wsX8_endsNow) := goodIn_app (goodIn_of _ (by decide +kernel)) ggX8_digest_X8_endsNow
theorem dX8_digest_0 : decode cX8_digest 0 = .ok (.aload_n 0, 1) := by decide +kernel
theorem dX8_digest_1 : decode cX8_digest 1 = .ok (.iconst 0, 1) := by decide +kernel
theorem dX8_digest_2 : decode cX8_digest 2 = .ok (.putfield 20, 3) := by decide +kernel
theorem dX8_digest_5 : decode cX8_digest 5 = .ok (.aload_n 0, 1) := by decide +kernel
theorem dX8_digest_6 : decode cX8_digest 6 = .ok (.ldc2_w 174, 3) := by decide +kernel
theorem dX8_digest_9 : decode cX8_digest 9 = .ok (.putfield 168, 3) := by decide +kernel
theorem dX8_digest_12 : decode cX8_digest 12 = .ok (.iconst 0, 1) := by decide +kernel
theorem dX8_digest_13 : decode cX8_digest 13 = .ok (.istore_n 1, 1) := by decide +kernel
theorem dX8_digest_14 : decode cX8_digest 14 = .ok (.iload_n 1, 1) := by decide +kernel
theorem dX8_digest_15 : decode cX8_digest 15 = .ok (.bipush 19, 2) := by decide +kernel
theorem dX8_digest_17 : decode cX8_digest 17 = .ok (.if_icmp .ge 18, 3) := by decide +kernel
theorem dX8_digest_20 : decode cX8_digest 20 = .ok (.aload_n 0, 1) := by decide +kernel
theorem dX8_digest_21 : decode cX8_digest 21 = .ok (.aload_n 0, 1) := by decide +kernel
theorem dX8_digest_22 : decode cX8_digest 22 = .ok (.iload_n 1, 1) := by decide +kernel
theorem dX8_digest_23 : decode cX8_digest 23 = .ok (.invokevirtual 140, 3) := by decide +kernel
theorem dX8_digest_26 : decode cX8_digest 26 = .ok (.invokevirtual 176, 3) := by decide +kernel
theorem dX8_digest_29 : decode cX8_digest 29 = .ok (.iinc 1 1, 3) := by decide +kernel
theorem dX8_digest_32 : decode cX8_digest 32 = .ok (.goto (-18), 3) := by decide +kernel
theorem dX8_digest_35 : decode cX8_digest 35 = .ok (.iconst 0, 1) := by decide +kernel
theorem dX8_digest_36 : decode cX8_digest 36 = .ok (.istore_n 1, 1) := by decide +kernel
theorem dX8_digest_37 : decode cX8_digest 37 = .ok (.iload_n 1, 1) := by decide +kernel
theorem dX8_digest_38 : decode cX8_digest 38 = .ok (.aload_n 0, 1) := by decide +kernel
theorem dX8_digest_39 : decode cX8_digest 39 = .ok (.getfield 10, 3) := by decide +kernel
theorem dX8_digest_42 : decode cX8_digest 42 = .ok (.getfield 24, 3) := by decide +kernel
theorem dX8_digest_45 : decode cX8_digest 45 = .ok (.invokevirtual 28, 3) := by decide +kernel
theorem dX8_digest_48 : decode cX8_digest 48 = .ok (.if_icmp .ge 33, 3) := by decide +kernel
theorem dX8_digest_51 : decode cX8_digest 51 = .ok (.iconst 0, 1) := by decide +kernel
theorem dX8_digest_52 : decode cX8_digest 52 = .ok (.istore_n 2, 1) := by decide +kernel
theorem dX8_digest_53 : decode cX8_digest 53 = .ok (.iload_n 2, 1) := by decide +kernel
theorem dX8_digest_54 : decode cX8_digest 54 = .ok (.bipush 10, 2) := by decide +kernel
theorem dX8_digest_56 : decode cX8_digest 56 = .ok (.if_icmp .ge 19, 3) := by decide +kernel
theorem dX8_digest_59 : decode cX8_digest 59 = .ok (.aload_n 0, 1) := by decide +kernel
theorem dX8_digest_60 : decode cX8_digest 60 = .ok (.aload_n 0, 1) := by decide +kernel
theorem dX8_digest_61 : decode cX8_digest 61 = .ok (.iload_n 1, 1) := by decide +kernel
theorem dX8_digest_62 : decode cX8_digest 62 = .ok (.iload_n 2, 1) := by decide +kernel
theorem dX8_digest_63 : decode cX8_digest 63 = .ok (.invokevirtual 112, 3) := by decide +kernel
theorem dX8_digest_66 : decode cX8_digest 66 = .ok (.invokevirtual 176, 3) := by decide +kernel
theorem dX8_digest_69 : decode cX8_digest 69 = .ok (.iinc 2 1, 3) := by decide +kernel
theorem dX8_digest_72 : decode cX8_digest 72 = .ok (.goto (-19), 3) := by decide +kernel
theorem dX8_digest_75 : decode cX8_digest 75 = .ok (.iinc 1 1, 3) := by decide +kernel
theorem dX8_digest_78 : decode cX8_digest 78 = .ok (.goto (-41), 3) := by decide +kernel
theorem dX8_digest_81 : decode cX8_digest 81 = .ok (.iconst 0, 1) := by decide +kernel
theorem dX8_digest_82 : decode cX8_digest 82 = .ok (.istore_n 1, 1) := by decide +kernel
theorem dX8_digest_83 : decode cX8_digest 83 = .ok (.iload_n 1, 1) := by decide +kernel
theorem dX8_digest_84 : decode cX8_digest 84 = .ok (.aload_n 0, 1) := by decide +kernel
theorem dX8_digest_85 : decode cX8_digest 85 = .ok (.getfield 10, 3) := by decide +kernel
