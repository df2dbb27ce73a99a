theorem dX7_next_34 : decode cX7_next 34 = .ok (.checkcast 46, 3) := by decide +kernel
theorem dX7_next_37 : decode cX7_next 37 = .ok (.astore 6, 2) := by decide +kernel
theorem dX7_next_39 : decode cX7_next 39 = .ok (.iload_n 1, 1) := by decide +kernel
theorem dX7_next_40 : decode cX7_next 40 = .ok (.iload 5, 2) := by decide +kernel
theorem dX7_next_42 : decode cX7_next 42 = .ok (.ishr, 1) := by decide +kernel
theorem dX7_next_43 : decode cX7_next 43 = .ok (.iconst 1, 1) := by decide +kernel
theorem dX7_next_44 : decode cX7_next 44 = .ok (.iand, 1) := by decide +kernel
theorem dX7_next_45 : decode cX7_next 45 = .ok (.ifCond .ne 31, 3) := by decide +kernel
theorem dX7_next_48 : decode cX7_next 48 = .ok (.aload 6, 2) := by decide +kernel
theorem dX7_next_50 : decode cX7_next 50 = .ok (.bipush 8, 2) := by decide +kernel
theorem dX7_next_52 : decode cX7_next 52 = .ok (.iaload, 1) := by decide +kernel
theorem dX7_next_53 : decode cX7_next 53 = .ok (.ifCond .ne 23, 3) := by decide +kernel
theorem dX7_next_56 : decode cX7_next 56 = .ok (.aload 6, 2) := by decide +kernel
theorem dX7_next_58 : decode cX7_next 58 = .ok (.iconst 0, 1) := by decide +kernel
theorem dX7_next_59 : decode cX7_next 59 = .ok (.iaload, 1) := by decide +kernel
theorem dX7_next_60 : decode cX7_next 60 = .ok (.iload_n 3, 1) := by decide +kernel
theorem dX7_next_61 : decode cX7_next 61 = .ok (.iconst (-1), 1) := by decide +kernel
theorem dX7_next_62 : decode cX7_next 62 = .ok (.ixor, 1) := by decide +kernel
theorem dX7_next_63 : decode cX7_next 63 = .ok (.iand, 1) := by decide +kernel
theorem dX7_next_64 : decode cX7_next 64 = .ok (.ifCond .ne 12, 3) := by decide +kernel
theorem dX7_next_67 : decode cX7_next 67 = .ok (.iload 4, 2) := by decide +kernel
theorem dX7_next_69 : decode cX7_next 69 = .ok (.iconst 1, 1) := by decide +kernel
theorem dX7_next_70 : decode cX7_next 70 = .ok (.iload 5, 2) := by decide +kernel
theorem dX7_next_72 : decode cX7_next 72 = .ok (.ishl, 1) := by decide +kernel
theorem dX7_next_73 : decode cX7_next 73 = .ok (.ior, 1) := by decide +kernel
theorem dX7_next_74 : decode cX7_next 74 = .ok (.istore 4, 2) := by decide +kernel
theorem dX7_next_76 : decode cX7_next 76 = .ok (.iinc 5 1, 3) := by decide +kernel
theorem dX7_next_79 : decode cX7_next 79 = .ok (.goto (-66), 3) := by decide +kernel
theorem dX7_next_82 : decode cX7_next 82 = .ok (.iload 4, 2) := by decide +kernel
theorem dX7_next_84 : decode cX7_next 84 = .ok (.ireturn, 1) := by decide +kernel
theorem dX7_isEnd_0 : decode cX7_isEnd 0 = .ok (.aload_n 0, 1) := by decide +kernel
theorem dX7_isEnd_1 : decode cX7_isEnd 1 = .ok (.getfield 24, 3) := by decide +kernel
theorem dX7_isEnd_4 : decode cX7_isEnd 4 = .ok (.iconst (-1), 1) := by decide +kernel
theorem dX7_isEnd_5 : decode cX7_isEnd 5 = .ok (.if_icmp .eq 19, 3) := by decide +kernel
theorem dX7_isEnd_8 : decode cX7_isEnd 8 = .ok (.iload_n 1, 1) := by decide +kernel
theorem dX7_isEnd_9 : decode cX7_isEnd 9 = .ok (.aload_n 0, 1) := by decide +kernel
theorem dX7_isEnd_10 : decode cX7_isEnd 10 = .ok (.getfield 24, 3) := by decide +kernel
theorem dX7_isEnd_13 : decode cX7_isEnd 13 = .ok (.ishr, 1) := by decide +kernel
theorem dX7_isEnd_14 : decode cX7_isEnd 14 = .ok (.iconst 1, 1) := by decide +kernel
theorem dX7_isEnd_15 : decode cX7_isEnd 15 = .ok (.iand, 1) := by decide +kernel
theorem dX7_isEnd_16 : decode cX7_isEnd 16 = .ok (.iconst 1, 1) := by decide +kernel
theorem dX7_isEnd_17 : decode cX7_isEnd 17 = .ok (.if_icmp .ne 7, 3) := by decide +kernel
theorem dX7_isEnd_20 : decode cX7_isEnd 20 = .ok (.iconst 1, 1) := by decide +kernel
theorem dX7_isEnd_21 : decode cX7_isEnd 21 = .ok (.goto 4, 3) := by decide +kernel
theorem dX7_isEnd_24 : decode cX7_isEnd 24 = .ok (.iconst 0, 1) := by decide +kernel
theorem dX7_isEnd_25 : decode cX7_isEnd 25 = .ok (.ireturn, 1) := by decide +kernel
set_option maxRecDepth 20000 in
theorem ggX7_steps_X7_next : GoodIn wsX7_steps wsX7_next := goodIn_r _ [6, 7, 8, 9, 10, 11, 5, 12, 13, 14, 15, 16, 17, 18, 19, 20, 21, 22, 23, 24, 25, 26, 27, 28, 29, 30, 31, 32, 33, 34, 35, 36, 37, 38, 39, 40, 41, 42, 43, 44, 45, 46, 47, 48, 49, 50, 51, 52, 53] (by decide +kernel) (by decide +kernel)
set_option maxRecDepth 20000 in
theorem gX7_steps_X7_next : GoodIn wsX7_steps (wsV RX7 126 RX7 yX7_next wsX7_next) := goodIn_app (goodIn_of _ (by decide +kernel)) ggX7_steps_X7_next
theorem dX7_steps_0 : decode cX7_steps 0 = .ok (.sipush 1024, 3) := by decide +kernel
theorem dX7_steps_3 : decode cX7_steps 3 = .ok (.newarray .int, 2) := by decide +kernel
theorem dX7_steps_5 : decode cX7_steps 5 = .ok (.astore_n 3, 1) := by decide +kernel
theorem dX7_steps_6 : decode cX7_steps 6 = .ok (.iconst 0, 1) := by decide +kernel
theorem dX7_steps_7 : decode cX7_steps 7 = .ok (.istore 4, 2) := by decide +kernel
theorem dX7_steps_9 : decode cX7_steps 9 = .ok (.iload 4, 2) := by decide +kernel
theorem dX7_steps_11 : decode cX7_steps 11 = .ok (.aload_n 3, 1) := by decide +kernel
theorem dX7_steps_12 : decode cX7_steps 12 = .ok (.arraylength, 1) := by decide +kernel
theorem dX7_steps_13 : decode cX7_steps 13 = .ok (.if_icmp .ge 14, 3) := by decide +kernel
theorem dX7_steps_16 : decode cX7_steps 16 = .ok (.aload_n 3, 1) := by decide +kernel
theorem dX7_steps_17 : decode cX7_steps 17 = .ok (.iload 4, 2) := by decide +kernel
theorem dX7_steps_19 : decode cX7_steps 19 = .ok (.iconst (-1), 1) := by decide +kernel
theorem dX7_steps_20 : decode cX7_steps 20 = .ok (.iastore, 1) := by decide +kernel
theorem dX7_steps_21 : decode cX7_steps 21 = .ok (.iinc 4 1, 3) := by decide +kernel
theorem dX7_steps_24 : decode cX7_steps 24 = .ok (.goto (-15), 3) := by decide +kernel
theorem dX7_steps_27 : decode cX7_steps 27 = .ok (.aload_n 3, 1) := by decide +kernel
theorem dX7_steps_28 : decode cX7_steps 28 = .ok (.iload_n 1, 1) := by decide +kernel
theorem dX7_steps_29 : decode cX7_steps 29 = .ok (.iconst 0, 1) := by decide +kernel
theorem dX7_steps_30 : decode cX7_steps 30 = .ok (.iastore, 1) := by decide +kernel
theorem dX7_steps_31 : decode cX7_steps 31 = .ok (.iload_n 1, 1) := by decide +kernel
theorem dX7_steps_32 : decode cX7_steps 32 = .ok (.istore 4, 2) := by decide +kernel
theorem dX7_steps_34 : decode cX7_steps 34 = .ok (.iload 4, 2) := by decide +kernel
theorem dX7_steps_36 : decode cX7_steps 36 = .ok (.aload_n 3, 1) := by decide +kernel
theorem dX7_steps_37 : decode cX7_steps 37 = .ok (.arraylength, 1) := by decide +kernel
theorem dX7_steps_38 : decode cX7_steps 38 = .ok (.if_icmp .ge 71, 3) := by decide +kernel
theorem dX7_steps_41 : decode cX7_steps 41 = .ok (.aload_n 3, 1) := by decide +kernel
theorem dX7_steps_42 : decode cX7_steps 42 = .ok (.iload 4, 2) := by decide +kernel
theorem dX7_steps_44 : decode cX7_steps 44 = .ok (.iaload, 1) := by decide +kernel
theorem dX7_steps_45 : decode cX7_steps 45 = .ok (.iconst (-1), 1) := by decide +kernel
theorem dX7_steps_46 : decode cX7_steps 46 = .ok (.if_icmp .ne 6, 3) := by decide +kernel
theorem dX7_steps_49 : decode cX7_steps 49 = .ok (.goto 54, 3) := by decide +kernel
theorem dX7_steps_52 : decode cX7_steps 52 = .ok (.aload_n 0, 1) := by decide +kernel
theorem dX7_steps_53 : decode cX7_steps 53 = .ok (.iload 4, 2) := by decide +kernel
theorem dX7_steps_55 : decode cX7_steps 55 = .ok (.iload_n 2, 1) := by decide +kernel
theorem dX7_steps_56 : decode cX7_steps 56 = .ok (.invokevirtual 126, 3) := by decide +kernel
theorem dX7_steps_59 : decode cX7_steps 59 = .ok (.istore 5, 2) := by decide +kernel
theorem dX7_steps_61 : decode cX7_steps 61 = .ok (.iconst 0, 1) := by decide +kernel
theorem dX7_steps_62 : decode cX7_steps 62 = .ok (.istore 6, 2) := by decide +kernel
theorem dX7_steps_64 : decode cX7_steps 64 = .ok (.iload 6, 2) := by decide +kernel
theorem dX7_steps_66 : decode cX7_steps 66 = .ok (.bipush 10, 2) := by decide +kernel
theorem dX7_steps_68 : decode cX7_steps 68 = .ok (.if_icmp .ge 35, 3) := by decide +kernel
theorem dX7_steps_71 : decode cX7_steps 71 = .ok (.iload 5, 2) := by decide +kernel
theorem dX7_steps_73 : decode cX7_steps 73 = .ok (.iload 6, 2) := by decide +kernel
theorem dX7_steps_75 : decode cX7_steps 75 = .ok (.ishr, 1) := by decide +kernel
theorem dX7_steps_76 : decode cX7_steps 76 = .ok (.iconst 1, 1) := by decide +kernel
theorem dX7_steps_77 : decode cX7_steps 77 = .ok (.iand, 1) := by decide +kernel
theorem dX7_steps_78 : decode cX7_steps 78 = .ok (.iconst 1, 1) := by decide +kernel
theorem dX7_steps_79 : decode cX7_steps 79 = .ok (.if_icmp .ne 18, 3) := by decide +kernel
theorem dX7_steps_82 : decode cX7_steps 82 = .ok (.aload_n 3, 1) := by decide +kernel
theorem dX7_steps_83 : decode cX7_steps 83 = .ok (.iload 4, 2) := by decide +kernel
theorem dX7_steps_85 : decode cX7_steps 85 = .ok (.iconst 1, 1) := by decide +kernel
theorem dX7_steps_86 : decode cX7_steps 86 = .ok (.iload 6, 2) := by decide +kernel
theorem dX7_steps_88 : decode cX7_steps 88 = .ok (.ishl, 1) := by decide +kernel
theorem dX7_steps_89 : decode cX7_steps 89 = .ok (.ior, 1) := by decide +kernel
theorem dX7_steps_90 : decode cX7_steps 90 = .ok (.aload_n 3, 1) := by decide +kernel
theorem dX7_steps_91 : decode cX7_steps 91 = .ok (.iload 4, 2) := by decide +kernel
theorem dX7_steps_93 : decode cX7_steps 93 = .ok (.iaload, 1) := by decide +kernel
theorem dX7_steps_94 : decode cX7_steps 94 = .ok (.iconst 1, 1) := by decide +kernel
theorem dX7_steps_95 : decode cX7_steps 95 = .ok (.iadd, 1) := by decide +kernel
theorem dX7_steps_96 : decode cX7_steps 96 = .ok (.iastore, 1) := by decide +kernel
theorem dX7_steps_97 : decode cX7_steps 97 = .ok (.iinc 6 1, 3) := by decide +kernel
theorem dX7_steps_100 : decode cX7_steps 100 = .ok (.goto (-36), 3) := by decide +kernel
theorem dX7_steps_103 : decode cX7_steps 103 = .ok (.iinc 4 1, 3) := by decide +kernel
theorem dX7_steps_106 : decode cX7_steps 106 = .ok (.goto (-72), 3) := by decide +kernel
theorem dX7_steps_109 : decode cX7_steps 109 = .ok (.aload_n 3, 1) := by decide +kernel
theorem dX7_steps_110 : decode cX7_steps 110 = .ok (.areturn, 1) := by decide +kernel
set_option maxRecDepth 20000 in
theorem ggX7_depth_X7_steps : GoodIn wsX7_depth wsX7_steps := goodIn_r _ [5, 6, 7, 8, 9, 4, 10, 11, 12, 13, 14, 15, 16, 17, 18, 19, 20, 21, 22, 23, 24, 25, 26, 27, 28, 29, 30, 31, 32, 33, 34, 35, 36, 37, 38, 39, 40, 46, 47, 48, 49, 50, 51, 52, 53, 54, 55, 56, 57, 58, 59, 60, 61, 62] (by decide +kernel) (by decide +kernel)
set_option maxRecDepth 20000 in
theorem gX7_depth_X7_steps : GoodIn wsX7_depth (wsV RX7 128 RX7 yX7_steps wsX7_steps) := goodIn_app (goodIn_of _ (by decide +kernel)) ggX7_depth_X7_steps
set_option maxRecDepth 20000 in
theorem ggX7_depth_X7_isEnd : GoodIn wsX7_depth wsX7_isEnd := goodIn_r _ [44, 45, 46, 47, 48, 49, 50, 51, 52, 53, 54, 55, 56, 57, 58, 59] (by decide +kernel) (by decide +kernel)
set_option maxRecDepth 20000 in
theorem gX7_depth_X7_isEnd : GoodIn wsX7_depth (wsV RX7 132 RX7 yX7_isEnd wsX7_isEnd) := goodIn_app (goodIn_of _ (by decide +kernel)) ggX7_depth_X7_isEnd
theorem dX7_depth_0 : decode cX7_depth 0 = .ok (.aload_n 0, 1) := by decide +kernel
theorem dX7_depth_1 : decode cX7_depth 1 = .ok (.iload_n 1, 1) := by decide +kernel
theorem dX7_depth_2 : decode cX7_depth 2 = .ok (.iload_n 2, 1) := by decide +kernel
theorem dX7_depth_3 : decode cX7_depth 3 = .ok (.invokevirtual 128, 3) := by decide +kernel
theorem dX7_depth_6 : decode cX7_depth 6 = .ok (.astore_n 3, 1) := by decide +kernel
theorem dX7_depth_7 : decode cX7_depth 7 = .ok (.iconst (-1), 1) := by decide +kernel
theorem dX7_depth_8 : decode cX7_depth 8 = .ok (.istore 4, 2) := by decide +kernel
theorem dX7_depth_10 : decode cX7_depth 10 = .ok (.iconst 0, 1) := by decide +kernel
theorem dX7_depth_11 : decode cX7_depth 11 = .ok (.istore 5, 2) := by decide +kernel
theorem dX7_depth_13 : decode cX7_depth 13 = .ok (.iload 5, 2) := by decide +kernel
theorem dX7_depth_15 : decode cX7_depth 15 = .ok (.aload_n 3, 1) := by decide +kernel
theorem dX7_depth_16 : decode cX7_depth 16 = .ok (.arraylength, 1) := by decide +kernel
theorem dX7_depth_17 : decode cX7_depth 17 = .ok (.if_icmp .ge 47, 3) := by decide +kernel
theorem dX7_depth_20 : decode cX7_depth 20 = .ok (.aload_n 3, 1) := by decide +kernel
theorem dX7_depth_21 : decode cX7_depth 21 = .ok (.iload 5, 2) := by decide +kernel
theorem dX7_depth_23 : decode cX7_depth 23 = .ok (.iaload, 1) := by decide +kernel
theorem dX7_depth_24 : decode cX7_depth 24 = .ok (.iconst (-1), 1) := by decide +kernel
theorem dX7_depth_25 : decode cX7_depth 25 = .ok (.if_icmp .eq 33, 3) := by decide +kernel
theorem dX7_depth_28 : decode cX7_depth 28 = .ok (.aload_n 0, 1) := by decide +kernel
theorem dX7_depth_29 : decode cX7_depth 29 = .ok (.iload 5, 2) := by decide +kernel
theorem dX7_depth_31 : decode cX7_depth 31 = .ok (.invokevirtual 132, 3) := by decide +kernel
theorem dX7_depth_34 : decode cX7_depth 34 = .ok (.ifCond .eq 24, 3) := by decide +kernel
theorem dX7_depth_37 : decode cX7_depth 37 = .ok (.iload 4, 2) := by decide +kernel
theorem dX7_depth_39 : decode cX7_depth 39 = .ok (.iconst (-1), 1) := by decide +kernel
theorem dX7_depth_40 : decode cX7_depth 40 = .ok (.if_icmp .eq 12, 3) := by decide +kernel
theorem dX7_depth_43 : decode cX7_depth 43 = .ok (.aload_n 3, 1) := by decide +kernel
theorem dX7_depth_44 : decode cX7_depth 44 = .ok (.iload 5, 2) := by decide +kernel
theorem dX7_depth_46 : decode cX7_depth 46 = .ok (.iaload, 1) := by decide +kernel
theorem dX7_depth_47 : decode cX7_depth 47 = .ok (.iload 4, 2) := by decide +kernel
theorem dX7_depth_49 : decode cX7_depth 49 = .ok (.if_icmp .ge 9, 3) := by decide +kernel
theorem dX7_depth_52 : decode cX7_depth 52 = .ok (.aload_n 3, 1) := by decide +kernel
theorem dX7_depth_53 : decode cX7_depth 53 = .ok (.iload 5, 2) := by decide +kernel
theorem dX7_depth_55 : decode cX7_depth 55 = .ok (.iaload, 1) := by decide +kernel
theorem dX7_depth_56 : decode cX7_depth 56 = .ok (.istore 4, 2) := by decide +kernel
theorem dX7_depth_58 : decode cX7_depth 58 = .ok (.iinc 5 1, 3) := by decide +kernel
theorem dX7_depth_61 : decode cX7_depth 61 = .ok (.goto (-48), 3) := by decide +kernel
theorem dX7_depth_64 : decode cX7_depth 64 = .ok (.iload 4, 2) := by decide +kernel
theorem dX7_depth_66 : decode cX7_depth 66 = .ok (.ireturn, 1) := by decide +kernel
set_option maxRecDepth 20000 in
theorem ggX7_depth__X7_opened : GoodIn wsX7_depth_ wsX7_opened := goodIn_r _ [5, 6, 7, 8, 9, 10, 11, 12, 13, 14, 15, 16, 17, 18, 19, 20, 21, 22, 23, 24, 25, 26, 27, 28, 29, 30, 54, 55, 56, 57, 58, 59, 60, 61, 62, 63, 64, 65, 66, 67, 68, 69, 70] (by decide +kernel) (by decide +kernel)
set_option maxRecDepth 20000 in
theorem gX7_depth__X7_opened : GoodIn wsX7_depth_ (wsV RX7 135 RX7 yX7_opened wsX7_opened) := goodIn_app (goodIn_of _ (by decide +kernel)) ggX7_depth__X7_opened
set_option maxRecDepth 20000 in
theorem ggX7_depth__X7_depth : GoodIn wsX7_depth_ wsX7_depth := goodIn_r _ [34, 35, 36, 37, 4, 38, 39, 40, 41, 42, 43, 6, 7, 44, 45, 46, 47, 48, 8, 9, 10, 11, 12, 13, 14, 15, 16, 17, 18, 19, 20, 21, 22, 23, 24, 25, 26, 27, 28, 29, 30, 49, 50, 51, 52, 53, 54, 55, 56, 57, 58, 59, 60, 61, 62, 63, 64, 65, 66, 67, 68, 69, 70] (by decide +kernel) (by decide +kernel)
set_option maxRecDepth 20000 in
theorem gX7_depth__X7_depth : GoodIn wsX7_depth_ (wsV RX7 138 RX7 yX7_depth wsX7_depth) := goodIn_app (goodIn_of _ (by decide +kernel)) ggX7_depth__X7_depth
theorem dX7_depth__0 : decode cX7_depth_ 0 = .ok (.aload_n 0, 1) := by decide +kernel
theorem dX7_depth__1 : decode cX7_depth_ 1 = .ok (.aload_n 0, 1) := by decide +kernel
theorem dX7_depth__2 : decode cX7_depth_ 2 = .ok (.invokevirtual 135, 3) := by decide +kernel
theorem dX7_depth__5 : decode cX7_depth_ 5 = .ok (.aload_n 0, 1) := by decide +kernel
theorem dX7_depth__6 : decode cX7_depth_ 6 = .ok (.invokevirtual 135, 3) := by decide +kernel
theorem dX7_depth__9 : decode cX7_depth_ 9 = .ok (.invokevirtual 138, 3) := by decide +kernel
theorem dX7_depth__12 : decode cX7_depth_ 12 = .ok (.ireturn, 1) := by decide +kernel
set_option maxRecDepth 20000 in
theorem ggX7_stands_X7_opened : GoodIn wsX7_stands wsX7_opened := goodIn_r _ [5, 6, 7, 8, 9, 10, 11, 12, 13, 14, 15, 16, 17, 18, 19, 20, 21, 22, 23, 24, 25, 26, 27, 28, 29, 30, 45, 46, 47, 48, 49, 50, 51, 52, 53, 54, 55, 56, 57, 58, 59, 60, 61] (by decide +kernel) (by decide +kernel)
set_option maxRecDepth 20000 in
theorem gX7_stands_X7_opened : GoodIn wsX7_stands (wsV RX7 135 RX7 yX7_opened wsX7_opened) := goodIn_app (goodIn_of _ (by decide +kernel)) ggX7_stands_X7_opened
set_option maxRecDepth 20000 in
theorem ggX7_stands_X7_steps : GoodIn wsX7_stands wsX7_steps := goodIn_r _ [34, 35, 36, 37, 38, 4, 39, 6, 7, 40, 41, 42, 43, 44, 8, 9, 10, 11, 12, 13, 14, 15, 16, 17, 18, 19, 20, 21, 22, 23, 24, 25, 26, 27, 28, 29, 30, 45, 46, 47, 48, 49, 50, 51, 52, 53, 54, 55, 56, 57, 58, 59, 60, 61] (by decide +kernel) (by decide +kernel)
set_option maxRecDepth 20000 in
theorem gX7_stands_X7_steps : GoodIn wsX7_stands (wsV RX7 128 RX7 yX7_steps wsX7_steps) := goodIn_app (goodIn_of _ (by decide +kernel)) ggX7_stands_X7_steps
theorem dX7_stands_0 : decode cX7_stands 0 = .ok (.iconst 0, 1) := by decide +kernel
theorem dX7_stands_1 : decode cX7_stands 1 = .ok (.istore_n 1, 1) := by decide +kernel
theorem dX7_stands_2 : decode cX7_stands 2 = .ok (.aload_n 0, 1) := by decide +kernel
theorem dX7_stands_3 : decode cX7_stands 3 = .ok (.aload_n 0, 1) := by decide +kernel
theorem dX7_stands_4 : decode cX7_stands 4 = .ok (.invokevirtual 135, 3) := by decide +kernel
theorem dX7_stands_7 : decode cX7_stands 7 = .ok (.aload_n 0, 1) := by decide +kernel
theorem dX7_stands_8 : decode cX7_stands 8 = .ok (.invokevirtual 135, 3) := by decide +kernel
theorem dX7_stands_11 : decode cX7_stands 11 = .ok (.invokevirtual 128, 3) := by decide +kernel
theorem dX7_stands_14 : decode cX7_stands 14 = .ok (.astore_n 2, 1) := by decide +kernel
theorem dX7_stands_15 : decode cX7_stands 15 = .ok (.aload_n 2, 1) := by decide +kernel
theorem dX7_stands_16 : decode cX7_stands 16 = .ok (.arraylength, 1) := by decide +kernel
theorem dX7_stands_17 : decode cX7_stands 17 = .ok (.istore_n 3, 1) := by decide +kernel
theorem dX7_stands_18 : decode cX7_stands 18 = .ok (.iconst 0, 1) := by decide +kernel
theorem dX7_stands_19 : decode cX7_stands 19 = .ok (.istore 4, 2) := by decide +kernel
theorem dX7_stands_21 : decode cX7_stands 21 = .ok (.iload 4, 2) := by decide +kernel
theorem dX7_stands_23 : decode cX7_stands 23 = .ok (.iload_n 3, 1) := by decide +kernel
theorem dX7_stands_24 : decode cX7_stands 24 = .ok (.if_icmp .ge 29, 3) := by decide +kernel
theorem dX7_stands_27 : decode cX7_stands 27 = .ok (.aload_n 2, 1) := by decide +kernel
theorem dX7_stands_28 : decode cX7_stands 28 = .ok (.iload 4, 2) := by decide +kernel
theorem dX7_stands_30 : decode cX7_stands 30 = .ok (.iaload, 1) := by decide +kernel
theorem dX7_stands_31 : decode cX7_stands 31 = .ok (.istore 5, 2) := by decide +kernel
theorem dX7_stands_33 : decode cX7_stands 33 = .ok (.iload_n 1, 1) := by decide +kernel
theorem dX7_stands_34 : decode cX7_stands 34 = .ok (.iload 5, 2) := by decide +kernel
theorem dX7_stands_36 : decode cX7_stands 36 = .ok (.iconst (-1), 1) := by decide +kernel
theorem dX7_stands_37 : decode cX7_stands 37 = .ok (.if_icmp .ne 7, 3) := by decide +kernel
theorem dX7_stands_40 : decode cX7_stands 40 = .ok (.iconst 0, 1) := by decide +kernel
theorem dX7_stands_41 : decode cX7_stands 41 = .ok (.goto 4, 3) := by decide +kernel
theorem dX7_stands_44 : decode cX7_stands 44 = .ok (.iconst 1, 1) := by decide +kernel
theorem dX7_stands_45 : decode cX7_stands 45 = .ok (.iadd, 1) := by decide +kernel
theorem dX7_stands_46 : decode cX7_stands 46 = .ok (.istore_n 1, 1) := by decide +kernel
theorem dX7_stands_47 : decode cX7_stands 47 = .ok (.iinc 4 1, 3) := by decide +kernel
theorem dX7_stands_50 : decode cX7_stands 50 = .ok (.goto (-29), 3) := by decide +kernel
theorem dX7_stands_53 : decode cX7_stands 53 = .ok (.iload_n 1, 1) := by decide +kernel
theorem dX7_stands_54 : decode cX7_stands 54 = .ok (.ireturn, 1) := by decide +kernel
set_option maxRecDepth 20000 in
theorem ggX7_deadEnds_X7_opened : GoodIn wsX7_deadEnds wsX7_opened := goodIn_r _ [6, 7, 8, 9, 10, 11, 12, 13, 14, 15, 16, 17, 18, 19, 20, 21, 22, 23, 24, 25, 26, 27, 28, 29, 30, 31, 51, 52, 53, 54, 55, 56, 57, 58, 59, 60, 61, 62, 63, 64, 65, 66, 67] (by decide +kernel) (by decide +kernel)
set_option maxRecDepth 20000 in
theorem gX7_deadEnds_X7_opened : GoodIn wsX7_deadEnds (wsV RX7 135 RX7 yX7_opened wsX7_opened) := goodIn_app (goodIn_of _ (by decide +kernel)) ggX7_deadEnds_X7_opened
set_option maxRecDepth 20000 in
theorem ggX7_deadEnds_X7_steps : GoodIn wsX7_deadEnds wsX7_steps := goodIn_r _ [35, 36, 37, 38, 39, 5, 40, 7, 8, 41, 42, 43, 44, 45, 9, 10, 11, 12, 13, 14, 15, 16, 17, 18, 19, 20, 21, 22, 23, 24, 25, 26, 27, 28, 29, 30, 31, 51, 52, 53, 54, 55, 56, 57, 58, 59, 60, 61, 62, 63, 64, 65, 66, 67] (by decide +kernel) (by decide +kernel)
set_option maxRecDepth 20000 in
theorem gX7_deadEnds_X7_steps : GoodIn wsX7_deadEnds (wsV RX7 128 RX7 yX7_steps wsX7_steps) := goodIn_app (goodIn_of _ (by decide +kernel)) ggX7_deadEnds_X7_steps
set_option maxRecDepth 20000 in
theorem ggX7_deadEnds_X7_isEnd : GoodIn wsX7_deadEnds wsX7_isEnd := goodIn_r _ [49, 50, 51, 52, 53, 54, 55, 56, 57, 58, 59, 60, 61, 62, 63, 64] (by decide +kernel) (by decide +kernel)
set_option maxRecDepth 20000 in
theorem gX7_deadEnds_X7_isEnd : GoodIn wsX7_deadEnds (wsV RX7 132 RX7 yX7_isEnd wsX7_isEnd) := goodIn_app (goodIn_of _ (by decide +kernel)) ggX7_deadEnds_X7_isEnd
set_option maxRecDepth 20000 in
theorem ggX7_deadEnds_X7_next : GoodIn wsX7_deadEnds wsX7_next := goodIn_r _ [40, 7, 8, 41, 42, 43, 5, 44, 45, 9, 10, 11, 12, 13, 14, 15, 16, 17, 18, 19, 20, 21, 22, 23, 24, 25, 26, 27, 28, 29, 30, 31, 51, 52, 53, 54, 55, 56, 57, 58, 59, 60, 61, 62, 63, 64, 65, 66, 67] (by decide +kernel) (by decide +kernel)
set_option maxRecDepth 20000 in
theorem gX7_deadEnds_X7_next : GoodIn wsX7_deadEnds (wsV RX7 126 RX7 yX7_next wsX7_next) := goodIn_app (goodIn_of _ (by decide +kernel)) ggX7_deadEnds_X7_next
theorem dX7_deadEnds_0 : decode cX7_deadEnds 0 = .ok (.aload_n 0, 1) := by decide +kernel
theorem dX7_deadEnds_1 : decode cX7_deadEnds 1 = .ok (.invokevirtual 135, 3) := by decide +kernel
theorem dX7_deadEnds_4 : decode cX7_deadEnds 4 = .ok (.istore_n 1, 1) := by decide +kernel
theorem dX7_deadEnds_5 : decode cX7_deadEnds 5 = .ok (.aload_n 0, 1) := by decide +kernel
theorem dX7_deadEnds_6 : decode cX7_deadEnds 6 = .ok (.iload_n 1, 1) := by decide +kernel
theorem dX7_deadEnds_7 : decode cX7_deadEnds 7 = .ok (.iload_n 1, 1) := by decide +kernel
theorem dX7_deadEnds_8 : decode cX7_deadEnds 8 = .ok (.invokevirtual 128, 3) := by decide +kernel
theorem dX7_deadEnds_11 : decode cX7_deadEnds 11 = .ok (.astore_n 2, 1) := by decide +kernel
theorem dX7_deadEnds_12 : decode cX7_deadEnds 12 = .ok (.aload_n 2, 1) := by decide +kernel
theorem dX7_deadEnds_13 : decode cX7_deadEnds 13 = .ok (.arraylength, 1) := by decide +kernel
theorem dX7_deadEnds_14 : decode cX7_deadEnds 14 = .ok (.newarray .boolean, 2) := by decide +kernel
theorem dX7_deadEnds_16 : decode cX7_deadEnds 16 = .ok (.astore_n 3, 1) := by decide +kernel
theorem dX7_deadEnds_17 : decode cX7_deadEnds 17 = .ok (.iconst 0, 1) := by decide +kernel
theorem dX7_deadEnds_18 : decode cX7_deadEnds 18 = .ok (.istore 4, 2) := by decide +kernel
theorem dX7_deadEnds_20 : decode cX7_deadEnds 20 = .ok (.aload_n 2, 1) := by decide +kernel
theorem dX7_deadEnds_21 : decode cX7_deadEnds 21 = .ok (.arraylength, 1) := by decide +kernel
theorem dX7_deadEnds_22 : decode cX7_deadEnds 22 = .ok (.iconst 1, 1) := by decide +kernel
theorem dX7_deadEnds_23 : decode cX7_deadEnds 23 = .ok (.isub, 1) := by decide +kernel
theorem dX7_deadEnds_24 : decode cX7_deadEnds 24 = .ok (.istore 5, 2) := by decide +kernel
theorem dX7_deadEnds_26 : decode cX7_deadEnds 26 = .ok (.iload 5, 2) := by decide +kernel
theorem dX7_deadEnds_28 : decode cX7_deadEnds 28 = .ok (.ifCond .lt 100, 3) := by decide +kernel
theorem dX7_deadEnds_31 : decode cX7_deadEnds 31 = .ok (.aload_n 2, 1) := by decide +kernel
theorem dX7_deadEnds_32 : decode cX7_deadEnds 32 = .ok (.iload 5, 2) := by decide +kernel
theorem dX7_deadEnds_34 : decode cX7_deadEnds 34 = .ok (.iaload, 1) := by decide +kernel
theorem dX7_deadEnds_35 : decode cX7_deadEnds 35 = .ok (.iconst (-1), 1) := by decide +kernel
theorem dX7_deadEnds_36 : decode cX7_deadEnds 36 = .ok (.if_icmp .ne 6, 3) := by decide +kernel
theorem dX7_deadEnds_39 : decode cX7_deadEnds 39 = .ok (.goto 83, 3) := by decide +kernel
theorem dX7_deadEnds_42 : decode cX7_deadEnds 42 = .ok (.aload_n 3, 1) := by decide +kernel
theorem dX7_deadEnds_43 : decode cX7_deadEnds 43 = .ok (.iload 5, 2) := by decide +kernel
theorem dX7_deadEnds_45 : decode cX7_deadEnds 45 = .ok (.aload_n 0, 1) := by decide +kernel
theorem dX7_deadEnds_46 : decode cX7_deadEnds 46 = .ok (.iload 5, 2) := by decide +kernel
theorem dX7_deadEnds_48 : decode cX7_deadEnds 48 = .ok (.invokevirtual 132, 3) := by decide +kernel
theorem dX7_deadEnds_51 : decode cX7_deadEnds 51 = .ok (.bastore, 1) := by decide +kernel
theorem dX7_deadEnds_52 : decode cX7_deadEnds 52 = .ok (.aload_n 0, 1) := by decide +kernel
theorem dX7_deadEnds_53 : decode cX7_deadEnds 53 = .ok (.iload 5, 2) := by decide +kernel
theorem dX7_deadEnds_55 : decode cX7_deadEnds 55 = .ok (.iload_n 1, 1) := by decide +kernel
theorem dX7_deadEnds_56 : decode cX7_deadEnds 56 = .ok (.invokevirtual 126, 3) := by decide +kernel
theorem dX7_deadEnds_59 : decode cX7_deadEnds 59 = .ok (.istore 6, 2) := by decide +kernel
theorem dX7_deadEnds_61 : decode cX7_deadEnds 61 = .ok (.iconst 0, 1) := by decide +kernel
theorem dX7_deadEnds_62 : decode cX7_deadEnds 62 = .ok (.istore 7, 2) := by decide +kernel
theorem dX7_deadEnds_64 : decode cX7_deadEnds 64 = .ok (.iload 7, 2) := by decide +kernel
theorem dX7_deadEnds_66 : decode cX7_deadEnds 66 = .ok (.bipush 10, 2) := by decide +kernel
theorem dX7_deadEnds_68 : decode cX7_deadEnds 68 = .ok (.if_icmp .ge 37, 3) := by decide +kernel
theorem dX7_deadEnds_71 : decode cX7_deadEnds 71 = .ok (.iload 6, 2) := by decide +kernel
theorem dX7_deadEnds_73 : decode cX7_deadEnds 73 = .ok (.iload 7, 2) := by decide +kernel
theorem dX7_deadEnds_75 : decode cX7_deadEnds 75 = .ok (.ishr, 1) := by decide +kernel
theorem dX7_deadEnds_76 : decode cX7_deadEnds 76 = .ok (.iconst 1, 1) := by decide +kernel
theorem dX7_deadEnds_77 : decode cX7_deadEnds 77 = .ok (.iand, 1) := by decide +kernel
theorem dX7_deadEnds_78 : decode cX7_deadEnds 78 = .ok (.iconst 1, 1) := by decide +kernel
theorem dX7_deadEnds_79 : decode cX7_deadEnds 79 = .ok (.if_icmp .ne 20, 3) := by decide +kernel
theorem dX7_deadEnds_82 : decode cX7_deadEnds 82 = .ok (.aload_n 3, 1) := by decide +kernel
theorem dX7_deadEnds_83 : decode cX7_deadEnds 83 = .ok (.iload 5, 2) := by decide +kernel
theorem dX7_deadEnds_85 : decode cX7_deadEnds 85 = .ok (.iconst 1, 1) := by decide +kernel
theorem dX7_deadEnds_86 : decode cX7_deadEnds 86 = .ok (.iload 7, 2) := by decide +kernel
theorem dX7_deadEnds_88 : decode cX7_deadEnds 88 = .ok (.ishl, 1) := by decide +kernel
theorem dX7_deadEnds_89 : decode cX7_deadEnds 89 = .ok (.ior, 1) := by decide +kernel
theorem dX7_deadEnds_90 : decode cX7_deadEnds 90 = .ok (.baload, 1) := by decide +kernel
theorem dX7_deadEnds_91 : decode cX7_deadEnds 91 = .ok (.ifCond .eq 8, 3) := by decide +kernel
theorem dX7_deadEnds_94 : decode cX7_deadEnds 94 = .ok (.aload_n 3, 1) := by decide +kernel
theorem dX7_deadEnds_95 : decode cX7_deadEnds 95 = .ok (.iload 5, 2) := by decide +kernel
theorem dX7_deadEnds_97 : decode cX7_deadEnds 97 = .ok (.iconst 1, 1) := by decide +kernel
theorem dX7_deadEnds_98 : decode cX7_deadEnds 98 = .ok (.bastore, 1) := by decide +kernel
theorem dX7_deadEnds_99 : decode cX7_deadEnds 99 = .ok (.iinc 7 1, 3) := by decide +kernel
theorem dX7_deadEnds_102 : decode cX7_deadEnds 102 = .ok (.goto (-38), 3) := by decide +kernel
theorem dX7_deadEnds_105 : decode cX7_deadEnds 105 = .ok (.iload 4, 2) := by decide +kernel
theorem dX7_deadEnds_107 : decode cX7_deadEnds 107 = .ok (.aload_n 3, 1) := by decide +kernel
theorem dX7_deadEnds_108 : decode cX7_deadEnds 108 = .ok (.iload 5, 2) := by decide +kernel
theorem dX7_deadEnds_110 : decode cX7_deadEnds 110 = .ok (.baload, 1) := by decide +kernel
theorem dX7_deadEnds_111 : decode cX7_deadEnds 111 = .ok (.ifCond .eq 7, 3) := by decide +kernel
theorem dX7_deadEnds_114 : decode cX7_deadEnds 114 = .ok (.iconst 0, 1) := by decide +kernel
theorem dX7_deadEnds_115 : decode cX7_deadEnds 115 = .ok (.goto 4, 3) := by decide +kernel
theorem dX7_deadEnds_118 : decode cX7_deadEnds 118 = .ok (.iconst 1, 1) := by decide +kernel
theorem dX7_deadEnds_119 : decode cX7_deadEnds 119 = .ok (.iadd, 1) := by decide +kernel
theorem dX7_deadEnds_120 : decode cX7_deadEnds 120 = .ok (.istore 4, 2) := by decide +kernel
theorem dX7_deadEnds_122 : decode cX7_deadEnds 122 = .ok (.iinc 5 (-1), 3) := by decide +kernel
theorem dX7_deadEnds_125 : decode cX7_deadEnds 125 = .ok (.goto (-99), 3) := by decide +kernel
theorem dX7_deadEnds_128 : decode cX7_deadEnds 128 = .ok (.iload 4, 2) := by decide +kernel
theorem dX7_deadEnds_130 : decode cX7_deadEnds 130 = .ok (.ireturn, 1) := by decide +kernel
set_option maxRecDepth 20000 in
theorem ggX7_bestHint_Jx4a65c_size_8abf5 : GoodIn wsX7_bestHint wsJx4a65c_size_8abf5 := goodIn_r _ [6, 7, 76, 77, 78] (by decide +kernel) (by decide +kernel)
set_option maxRecDepth 20000 in
theorem gX7_bestHint_Jx4a65c_size_8abf5 : GoodIn wsX7_bestHint (wsV RX7 62 RJx4a65c yJx4a65c_size_8abf5 wsJx4a65c_size_8abf5) := goodIn_app (goodIn_of _ (by decide +kernel)) ggX7_bestHint_Jx4a65c_size_8abf5
set_option maxRecDepth 20000 in
theorem ggX7_bestHint_X7_isReady : GoodIn wsX7_bestHint wsX7_isReady := goodIn_r _ [12, 1, 13, 14, 15, 16, 5, 17, 7, 18, 19, 20, 21, 22, 23, 24, 25, 26, 27, 28, 29, 30, 31, 32, 33, 11, 34, 35, 2, 3, 4, 6, 62, 63, 64, 65, 66, 67, 68, 69, 70, 71, 72, 73, 74, 75, 76, 77, 78] (by decide +kernel) (by decide +kernel)
set_option maxRecDepth 20000 in
theorem gX7_bestHint_X7_isReady : GoodIn wsX7_bestHint (wsV RX7 74 RX7 yX7_isReady wsX7_isReady) := goodIn_app (goodIn_of _ (by decide +kernel)) ggX7_bestHint_X7_isReady
set_option maxRecDepth 20000 in
theorem ggX7_bestHint_X7_opened : GoodIn wsX7_bestHint wsX7_opened := goodIn_r _ [39, 1, 13, 2, 3, 4, 5, 6, 7, 14, 15, 16, 17, 18, 19, 20, 21, 22, 23, 24, 25, 26, 27, 28, 29, 30, 62, 63, 64, 65, 66, 67, 68, 69, 70, 71, 72, 73, 74, 75, 76, 77, 78] (by decide +kernel) (by decide +kernel)
set_option maxRecDepth 20000 in
theorem gX7_bestHint_X7_opened : GoodIn wsX7_bestHint (wsV RX7 135 RX7 yX7_opened wsX7_opened) := goodIn_app (goodIn_of _ (by decide +kernel)) ggX7_bestHint_X7_opened
set_option maxRecDepth 20000 in
theorem ggX7_bestHint_X7_depth : GoodIn wsX7_bestHint wsX7_depth := goodIn_r _ [43, 44, 45, 46, 11, 47, 48, 49, 50, 51, 52, 1, 13, 53, 54, 55, 56, 35, 2, 3, 4, 5, 6, 7, 14, 15, 16, 17, 18, 19, 20, 21, 22, 23, 24, 25, 26, 27, 28, 29, 30, 57, 58, 59, 60, 61, 62, 63, 64, 65, 66, 67, 68, 69, 70, 71, 72, 73, 74, 75, 76, 77, 78] (by decide +kernel) (by decide +kernel)
set_option maxRecDepth 20000 in
theorem gX7_bestHint_X7_depth : GoodIn wsX7_bestHint (wsV RX7 138 RX7 yX7_depth wsX7_depth) := goodIn_app (goodIn_of _ (by decide +kernel)) ggX7_bestHint_X7_depth
theorem dX7_bestHint_0 : decode cX7_bestHint 0 = .ok (.iconst (-1), 1) := by decide +kernel
theorem dX7_bestHint_1 : decode cX7_bestHint 1 = .ok (.istore_n 1, 1) := by decide +kernel
theorem dX7_bestHint_2 : decode cX7_bestHint 2 = .ok (.iconst 0, 1) := by decide +kernel
theorem dX7_bestHint_3 : decode cX7_bestHint 3 = .ok (.istore_n 2, 1) := by decide +kernel
theorem dX7_bestHint_4 : decode cX7_bestHint 4 = .ok (.iconst 0, 1) := by decide +kernel
theorem dX7_bestHint_5 : decode cX7_bestHint 5 = .ok (.istore_n 3, 1) := by decide +kernel
theorem dX7_bestHint_6 : decode cX7_bestHint 6 = .ok (.iload_n 3, 1) := by decide +kernel
theorem dX7_bestHint_7 : decode cX7_bestHint 7 = .ok (.aload_n 0, 1) := by decide +kernel
theorem dX7_bestHint_8 : decode cX7_bestHint 8 = .ok (.getfield 12, 3) := by decide +kernel
theorem dX7_bestHint_11 : decode cX7_bestHint 11 = .ok (.invokevirtual 62, 3) := by decide +kernel
theorem dX7_bestHint_14 : decode cX7_bestHint 14 = .ok (.if_icmp .ge 64, 3) := by decide +kernel
theorem dX7_bestHint_17 : decode cX7_bestHint 17 = .ok (.aload_n 0, 1) := by decide +kernel
theorem dX7_bestHint_18 : decode cX7_bestHint 18 = .ok (.iload_n 3, 1) := by decide +kernel
theorem dX7_bestHint_19 : decode cX7_bestHint 19 = .ok (.invokevirtual 74, 3) := by decide +kernel
theorem dX7_bestHint_22 : decode cX7_bestHint 22 = .ok (.ifCond .eq 22, 3) := by decide +kernel
theorem dX7_bestHint_25 : decode cX7_bestHint 25 = .ok (.aload_n 0, 1) := by decide +kernel
theorem dX7_bestHint_26 : decode cX7_bestHint 26 = .ok (.aload_n 0, 1) := by decide +kernel
theorem dX7_bestHint_27 : decode cX7_bestHint 27 = .ok (.invokevirtual 135, 3) := by decide +kernel
theorem dX7_bestHint_30 : decode cX7_bestHint 30 = .ok (.iconst 1, 1) := by decide +kernel
theorem dX7_bestHint_31 : decode cX7_bestHint 31 = .ok (.iload_n 3, 1) := by decide +kernel
theorem dX7_bestHint_32 : decode cX7_bestHint 32 = .ok (.ishl, 1) := by decide +kernel
theorem dX7_bestHint_33 : decode cX7_bestHint 33 = .ok (.ior, 1) := by decide +kernel
theorem dX7_bestHint_34 : decode cX7_bestHint 34 = .ok (.aload_n 0, 1) := by decide +kernel
theorem dX7_bestHint_35 : decode cX7_bestHint 35 = .ok (.invokevirtual 135, 3) := by decide +kernel
theorem dX7_bestHint_38 : decode cX7_bestHint 38 = .ok (.invokevirtual 138, 3) := by decide +kernel
theorem dX7_bestHint_41 : decode cX7_bestHint 41 = .ok (.goto 4, 3) := by decide +kernel
theorem dX7_bestHint_44 : decode cX7_bestHint 44 = .ok (.iconst (-1), 1) := by decide +kernel
theorem dX7_bestHint_45 : decode cX7_bestHint 45 = .ok (.istore 4, 2) := by decide +kernel
theorem dX7_bestHint_47 : decode cX7_bestHint 47 = .ok (.iload 4, 2) := by decide +kernel
theorem dX7_bestHint_49 : decode cX7_bestHint 49 = .ok (.iconst (-1), 1) := by decide +kernel
theorem dX7_bestHint_50 : decode cX7_bestHint 50 = .ok (.if_icmp .eq 22, 3) := by decide +kernel
theorem dX7_bestHint_53 : decode cX7_bestHint 53 = .ok (.iload_n 1, 1) := by decide +kernel
theorem dX7_bestHint_54 : decode cX7_bestHint 54 = .ok (.iconst (-1), 1) := by decide +kernel
theorem dX7_bestHint_55 : decode cX7_bestHint 55 = .ok (.if_icmp .eq 12, 3) := by decide +kernel
theorem dX7_bestHint_58 : decode cX7_bestHint 58 = .ok (.iload 4, 2) := by decide +kernel
theorem dX7_bestHint_60 : decode cX7_bestHint 60 = .ok (.iload_n 2, 1) := by decide +kernel
theorem dX7_bestHint_61 : decode cX7_bestHint 61 = .ok (.if_icmp .lt 6, 3) := by decide +kernel
theorem dX7_bestHint_64 : decode cX7_bestHint 64 = .ok (.goto 8, 3) := by decide +kernel
theorem dX7_bestHint_67 : decode cX7_bestHint 67 = .ok (.iload_n 3, 1) := by decide +kernel
theorem dX7_bestHint_68 : decode cX7_bestHint 68 = .ok (.istore_n 1, 1) := by decide +kernel
theorem dX7_bestHint_69 : decode cX7_bestHint 69 = .ok (.iload 4, 2) := by decide +kernel
theorem dX7_bestHint_71 : decode cX7_bestHint 71 = .ok (.istore_n 2, 1) := by decide +kernel
theorem dX7_bestHint_72 : decode cX7_bestHint 72 = .ok (.iinc 3 1, 3) := by decide +kernel
theorem dX7_bestHint_75 : decode cX7_bestHint 75 = .ok (.goto (-69), 3) := by decide +kernel
theorem dX7_bestHint_78 : decode cX7_bestHint 78 = .ok (.iload_n 1, 1) := by decide +kernel
theorem dX7_bestHint_79 : decode cX7_bestHint 79 = .ok (.ireturn, 1) := by decide +kernel
set_option maxRecDepth 20000 in
theorem ggX8_init_X7_init : GoodIn wsX8_init wsX7_init := goodIn_r _ [10, 11, 2, 3, 12, 13, 14, 15, 16, 17, 18, 19, 20, 21, 22, 23, 24, 25, 26, 27, 28, 29, 30, 31, 32, 33, 34, 53, 54, 55, 35, 36, 37, 38, 39, 40, 41, 42, 43, 44, 45, 46, 47, 48] (by decide +kernel) (by decide +kernel)
set_option maxRecDepth 20000 in
theorem gX8_init_X7_init_n9 : GoodIn wsX8_init (wsX7_init) := ggX8_init_X7_init
theorem dX8_init_0 : decode cX8_init 0 = .ok (.aload_n 0, 1) := by decide +kernel
theorem dX8_init_1 : decode cX8_init 1 = .ok (.invokespecial 1, 3) := by decide +kernel
theorem dX8_init_4 : decode cX8_init 4 = .ok (.aload_n 0, 1) := by decide +kernel
theorem dX8_init_5 : decode cX8_init 5 = .ok (.new 7, 3) := by decide +kernel
theorem dX8_init_8 : decode cX8_init 8 = .ok (.dup, 1) := by decide +kernel
theorem dX8_init_9 : decode cX8_init 9 = .ok (.invokespecial 9, 3) := by decide +kernel
theorem dX8_init_12 : decode cX8_init 12 = .ok (.putfield 10, 3) := by decide +kernel
theorem dX8_init_15 : decode cX8_init 15 = .ok (.aload_n 0, 1) := by decide +kernel
theorem dX8_init_16 : decode cX8_init 16 = .ok (.iconst 1, 1) := by decide +kernel
theorem dX8_init_17 : decode cX8_init 17 = .ok (.putfield 16, 3) := by decide +kernel
theorem dX8_init_20 : decode cX8_init 20 = .ok (.return_, 1) := by decide +kernel
theorem dX8_thrown_0 : decode cX8_thrown 0 = .ok (.aload_n 0, 1) := by decide +kernel
theorem dX8_thrown_1 : decode cX8_thrown 1 = .ok (.getfield 20, 3) := by decide +kernel
theorem dX8_thrown_4 : decode cX8_thrown 4 = .ok (.ireturn, 1) := by decide +kernel
theorem dX8_refuse_0 : decode cX8_refuse 0 = .ok (.aload_n 0, 1) := by decide +kernel
theorem dX8_refuse_1 : decode cX8_refuse 1 = .ok (.iload_n 1, 1) := by decide +kernel
theorem dX8_refuse_2 : decode cX8_refuse 2 = .ok (.putfield 20, 3) := by decide +kernel
theorem dX8_refuse_5 : decode cX8_refuse 5 = .ok (.iconst 0, 1) := by decide +kernel
theorem dX8_refuse_6 : decode cX8_refuse 6 = .ok (.ireturn, 1) := by decide +kernel
theorem dX8_is_0 : decode cX8_is 0 = .ok (.iload_n 0, 1) := by decide +kernel
theorem dX8_is_1 : decode cX8_is 1 = .ok (.iload_n 1, 1) := by decide +kernel
theorem dX8_is_2 : decode cX8_is 2 = .ok (.if_icmp .lt 12, 3) := by decide +kernel
theorem dX8_is_5 : decode cX8_is 5 = .ok (.iload_n 0, 1) := by decide +kernel
theorem dX8_is_6 : decode cX8_is 6 = .ok (.iload_n 2, 1) := by decide +kernel
theorem dX8_is_7 : decode cX8_is 7 = .ok (.if_icmp .gt 7, 3) := by decide +kernel
theorem dX8_is_10 : decode cX8_is 10 = .ok (.iconst 1, 1) := by decide +kernel
theorem dX8_is_11 : decode cX8_is 11 = .ok (.goto 4, 3) := by decide +kernel
theorem dX8_is_14 : decode cX8_is 14 = .ok (.iconst 0, 1) := by decide +kernel
theorem dX8_is_15 : decode cX8_is 15 = .ok (.ireturn, 1) := by decide +kernel
set_option maxRecDepth 20000 in
theorem ggX8_isLock_Jx4a65c_size_8abf5 : GoodIn wsX8_isLock wsJx4a65c_size_8abf5 := goodIn_r _ [6, 7, 30, 31, 32] (by decide +kernel) (by decide +kernel)
set_option maxRecDepth 20000 in
theorem gX8_isLock_Jx4a65c_size_8abf5 : GoodIn wsX8_isLock (wsV RX8 28 RJx4a65c yJx4a65c_size_8abf5 wsJx4a65c_size_8abf5) := goodIn_app (goodIn_of _ (by decide +kernel)) ggX8_isLock_Jx4a65c_size_8abf5
set_option maxRecDepth 20000 in
theorem ggX8_isLock_X8_is : GoodIn wsX8_isLock wsX8_is := goodIn_r _ [11] (by decide +kernel) (by decide +kernel)
set_option maxRecDepth 20000 in
theorem gX8_isLock_X8_is : GoodIn wsX8_isLock (va_wsS RX8 34 yX8_is wsX8_is) := goodIn_app (goodIn_of _ (by decide +kernel)) ggX8_isLock_X8_is
theorem dX8_isLock_0 : decode cX8_isLock 0 = .ok (.iload_n 1, 1) := by decide +kernel
theorem dX8_isLock_1 : decode cX8_isLock 1 = .ok (.iconst 0, 1) := by decide +kernel
theorem dX8_isLock_2 : decode cX8_isLock 2 = .ok (.aload_n 0, 1) := by decide +kernel
theorem dX8_isLock_3 : decode cX8_isLock 3 = .ok (.getfield 10, 3) := by decide +kernel
theorem dX8_isLock_6 : decode cX8_isLock 6 = .ok (.getfield 24, 3) := by decide +kernel
theorem dX8_isLock_9 : decode cX8_isLock 9 = .ok (.invokevirtual 28, 3) := by decide +kernel
theorem dX8_isLock_12 : decode cX8_isLock 12 = .ok (.iconst 1, 1) := by decide +kernel
theorem dX8_isLock_13 : decode cX8_isLock 13 = .ok (.isub, 1) := by decide +kernel
theorem dX8_isLock_14 : decode cX8_isLock 14 = .ok (.invokestatic 34, 3) := by decide +kernel
theorem dX8_isLock_17 : decode cX8_isLock 17 = .ok (.ireturn, 1) := by decide +kernel
set_option maxRecDepth 20000 in
theorem ggX8_isThing_Jx4a65c_size_8abf5 : GoodIn wsX8_isThing wsJx4a65c_size_8abf5 := goodIn_r _ [6, 7, 30, 31, 32] (by decide +kernel) (by decide +kernel)
set_option maxRecDepth 20000 in
theorem gX8_isThing_Jx4a65c_size_8abf5 : GoodIn wsX8_isThing (wsV RX8 28 RJx4a65c yJx4a65c_size_8abf5 wsJx4a65c_size_8abf5) := goodIn_app (goodIn_of _ (by decide +kernel)) ggX8_isThing_Jx4a65c_size_8abf5
set_option maxRecDepth 20000 in
theorem ggX8_isThing_X8_is : GoodIn wsX8_isThing wsX8_is := goodIn_r _ [11] (by decide +kernel) (by decide +kernel)
set_option maxRecDepth 20000 in
theorem gX8_isThing_X8_is : GoodIn wsX8_isThing (va_wsS RX8 34 yX8_is wsX8_is) := goodIn_app (goodIn_of _ (by decide +kernel)) ggX8_isThing_X8_is
theorem dX8_isThing_0 : decode cX8_isThing 0 = .ok (.iload_n 1, 1) := by decide +kernel
theorem dX8_isThing_1 : decode cX8_isThing 1 = .ok (.iconst 0, 1) := by decide +kernel
theorem dX8_isThing_2 : decode cX8_isThing 2 = .ok (.aload_n 0, 1) := by decide +kernel
theorem dX8_isThing_3 : decode cX8_isThing 3 = .ok (.getfield 10, 3) := by decide +kernel
theorem dX8_isThing_6 : decode cX8_isThing 6 = .ok (.getfield 38, 3) := by decide +kernel
theorem dX8_isThing_9 : decode cX8_isThing 9 = .ok (.invokevirtual 28, 3) := by decide +kernel
theorem dX8_isThing_12 : decode cX8_isThing 12 = .ok (.iconst 1, 1) := by decide +kernel
theorem dX8_isThing_13 : decode cX8_isThing 13 = .ok (.isub, 1) := by decide +kernel
theorem dX8_isThing_14 : decode cX8_isThing 14 = .ok (.invokestatic 34, 3) := by decide +kernel
theorem dX8_isThing_17 : decode cX8_isThing 17 = .ok (.ireturn, 1) := by decide +kernel
set_option maxRecDepth 20000 in
theorem ggX8_lock_X8_is : GoodIn wsX8_lock wsX8_is := goodIn_r _ [7] (by decide +kernel) (by decide +kernel)
set_option maxRecDepth 20000 in
theorem gX8_lock_X8_is : GoodIn wsX8_lock (va_wsS RX8 34 yX8_is wsX8_is) := goodIn_app (goodIn_of _ (by decide +kernel)) ggX8_lock_X8_is
set_option maxRecDepth 20000 in
theorem ggX8_lock_X8_refuse : GoodIn wsX8_lock wsX8_refuse := goodIn_r _ [11, 1, 72, 73, 74, 75] (by decide +kernel) (by decide +kernel)
set_option maxRecDepth 20000 in
theorem gX8_lock_X8_refuse : GoodIn wsX8_lock (wsV RX8 41 RX8 yX8_refuse wsX8_refuse) := goodIn_app (goodIn_of _ (by decide +kernel)) ggX8_lock_X8_refuse
set_option maxRecDepth 20000 in
theorem ggX8_lock_Jx4a65c_size_8abf5 : GoodIn wsX8_lock wsJx4a65c_size_8abf5 := goodIn_r _ [16, 17, 90, 91, 92] (by decide +kernel) (by decide +kernel)
set_option maxRecDepth 20000 in
theorem gX8_lock_Jx4a65c_size_8abf5 : GoodIn wsX8_lock (wsV RX8 28 RJx4a65c yJx4a65c_size_8abf5 wsJx4a65c_size_8abf5) := goodIn_app (goodIn_of _ (by decide +kernel)) ggX8_lock_Jx4a65c_size_8abf5
set_option maxRecDepth 20000 in
theorem ggX8_lock_Jx4a65c_add_9ea2d : GoodIn wsX8_lock wsJx4a65c_add_9ea2d := goodIn_r _ [21, 22, 23, 24, 17, 25, 26, 27, 15, 28, 29, 30, 31, 32, 33, 34, 35, 36, 37, 38, 39, 40, 41, 42, 43, 44, 45, 46, 47, 48, 49, 50, 51, 52, 53, 54, 55, 56, 57, 58, 59, 60, 61, 62, 63, 64, 65, 66, 67, 68, 69, 70, 71, 90, 91, 92] (by decide +kernel) (by decide +kernel)
set_option maxRecDepth 20000 in
theorem gX8_lock_Jx4a65c_add_9ea2d : GoodIn wsX8_lock (wsV RX8 48 RJx4a65c yJx4a65c_add_9ea2d wsJx4a65c_add_9ea2d) := goodIn_app (goodIn_of _ (by decide +kernel)) ggX8_lock_Jx4a65c_add_9ea2d
theorem dX8_lock_0 : decode cX8_lock 0 = .ok (.aload_n 0, 1) := by decide +kernel
theorem dX8_lock_1 : decode cX8_lock 1 = .ok (.iconst 0, 1) := by decide +kernel
theorem dX8_lock_2 : decode cX8_lock 2 = .ok (.putfield 20, 3) := by decide +kernel
theorem dX8_lock_5 : decode cX8_lock 5 = .ok (.iload_n 1, 1) := by decide +kernel
theorem dX8_lock_6 : decode cX8_lock 6 = .ok (.iconst 0, 1) := by decide +kernel
theorem dX8_lock_7 : decode cX8_lock 7 = .ok (.sipush 4095, 3) := by decide +kernel
theorem dX8_lock_10 : decode cX8_lock 10 = .ok (.invokestatic 34, 3) := by decide +kernel
theorem dX8_lock_13 : decode cX8_lock 13 = .ok (.ifCond .eq 21, 3) := by decide +kernel
theorem dX8_lock_16 : decode cX8_lock 16 = .ok (.iload_n 2, 1) := by decide +kernel
theorem dX8_lock_17 : decode cX8_lock 17 = .ok (.iload_n 1, 1) := by decide +kernel
theorem dX8_lock_18 : decode cX8_lock 18 = .ok (.iconst (-1), 1) := by decide +kernel
theorem dX8_lock_19 : decode cX8_lock 19 = .ok (.ixor, 1) := by decide +kernel
theorem dX8_lock_20 : decode cX8_lock 20 = .ok (.iand, 1) := by decide +kernel
theorem dX8_lock_21 : decode cX8_lock 21 = .ok (.ifCond .ne 13, 3) := by decide +kernel
theorem dX8_lock_24 : decode cX8_lock 24 = .ok (.iload_n 3, 1) := by decide +kernel
theorem dX8_lock_25 : decode cX8_lock 25 = .ok (.iconst 1, 1) := by decide +kernel
theorem dX8_lock_26 : decode cX8_lock 26 = .ok (.bipush 60, 2) := by decide +kernel
theorem dX8_lock_28 : decode cX8_lock 28 = .ok (.invokestatic 34, 3) := by decide +kernel
theorem dX8_lock_31 : decode cX8_lock 31 = .ok (.ifCond .ne 9, 3) := by decide +kernel
theorem dX8_lock_34 : decode cX8_lock 34 = .ok (.aload_n 0, 1) := by decide +kernel
theorem dX8_lock_35 : decode cX8_lock 35 = .ok (.iconst 1, 1) := by decide +kernel
theorem dX8_lock_36 : decode cX8_lock 36 = .ok (.invokevirtual 41, 3) := by decide +kernel
theorem dX8_lock_39 : decode cX8_lock 39 = .ok (.ireturn, 1) := by decide +kernel
theorem dX8_lock_40 : decode cX8_lock 40 = .ok (.aload_n 0, 1) := by decide +kernel
theorem dX8_lock_41 : decode cX8_lock 41 = .ok (.getfield 10, 3) := by decide +kernel
theorem dX8_lock_44 : decode cX8_lock 44 = .ok (.getfield 24, 3) := by decide +kernel
theorem dX8_lock_47 : decode cX8_lock 47 = .ok (.invokevirtual 28, 3) := by decide +kernel
theorem dX8_lock_50 : decode cX8_lock 50 = .ok (.bipush 10, 2) := by decide +kernel
theorem dX8_lock_52 : decode cX8_lock 52 = .ok (.if_icmp .eq 13, 3) := by decide +kernel
theorem dX8_lock_55 : decode cX8_lock 55 = .ok (.aload_n 0, 1) := by decide +kernel
theorem dX8_lock_56 : decode cX8_lock 56 = .ok (.getfield 10, 3) := by decide +kernel
theorem dX8_lock_59 : decode cX8_lock 59 = .ok (.getfield 45, 3) := by decide +kernel
theorem dX8_lock_62 : decode cX8_lock 62 = .ok (.ifCond .eq 9, 3) := by decide +kernel
theorem dX8_lock_65 : decode cX8_lock 65 = .ok (.aload_n 0, 1) := by decide +kernel
theorem dX8_lock_66 : decode cX8_lock 66 = .ok (.iconst 2, 1) := by decide +kernel
theorem dX8_lock_67 : decode cX8_lock 67 = .ok (.invokevirtual 41, 3) := by decide +kernel
theorem dX8_lock_70 : decode cX8_lock 70 = .ok (.ireturn, 1) := by decide +kernel
theorem dX8_lock_71 : decode cX8_lock 71 = .ok (.bipush 10, 2) := by decide +kernel
theorem dX8_lock_73 : decode cX8_lock 73 = .ok (.newarray .int, 2) := by decide +kernel
theorem dX8_lock_75 : decode cX8_lock 75 = .ok (.astore 6, 2) := by decide +kernel
theorem dX8_lock_77 : decode cX8_lock 77 = .ok (.aload 6, 2) := by decide +kernel
theorem dX8_lock_79 : decode cX8_lock 79 = .ok (.iconst 0, 1) := by decide +kernel
theorem dX8_lock_80 : decode cX8_lock 80 = .ok (.iload_n 1, 1) := by decide +kernel
theorem dX8_lock_81 : decode cX8_lock 81 = .ok (.iastore, 1) := by decide +kernel
theorem dX8_lock_82 : decode cX8_lock 82 = .ok (.aload 6, 2) := by decide +kernel
theorem dX8_lock_84 : decode cX8_lock 84 = .ok (.iconst 1, 1) := by decide +kernel
theorem dX8_lock_85 : decode cX8_lock 85 = .ok (.iload_n 2, 1) := by decide +kernel
theorem dX8_lock_86 : decode cX8_lock 86 = .ok (.iastore, 1) := by decide +kernel
theorem dX8_lock_87 : decode cX8_lock 87 = .ok (.aload 6, 2) := by decide +kernel
theorem dX8_lock_89 : decode cX8_lock 89 = .ok (.iconst 2, 1) := by decide +kernel
theorem dX8_lock_90 : decode cX8_lock 90 = .ok (.iload_n 3, 1) := by decide +kernel
theorem dX8_lock_91 : decode cX8_lock 91 = .ok (.iastore, 1) := by decide +kernel
theorem dX8_lock_92 : decode cX8_lock 92 = .ok (.aload 6, 2) := by decide +kernel
theorem dX8_lock_94 : decode cX8_lock 94 = .ok (.iconst 3, 1) := by decide +kernel
theorem dX8_lock_95 : decode cX8_lock 95 = .ok (.iload 4, 2) := by decide +kernel
theorem dX8_lock_97 : decode cX8_lock 97 = .ok (.ifCond .eq 7, 3) := by decide +kernel
theorem dX8_lock_100 : decode cX8_lock 100 = .ok (.iconst 1, 1) := by decide +kernel
theorem dX8_lock_101 : decode cX8_lock 101 = .ok (.goto 4, 3) := by decide +kernel
theorem dX8_lock_104 : decode cX8_lock 104 = .ok (.iconst 0, 1) := by decide +kernel
theorem dX8_lock_105 : decode cX8_lock 105 = .ok (.iastore, 1) := by decide +kernel
theorem dX8_lock_106 : decode cX8_lock 106 = .ok (.aload_n 0, 1) := by decide +kernel
theorem dX8_lock_107 : decode cX8_lock 107 = .ok (.getfield 10, 3) := by decide +kernel
theorem dX8_lock_110 : decode cX8_lock 110 = .ok (.getfield 24, 3) := by decide +kernel
theorem dX8_lock_113 : decode cX8_lock 113 = .ok (.aload 6, 2) := by decide +kernel
theorem dX8_lock_115 : decode cX8_lock 115 = .ok (.invokevirtual 48, 3) := by decide +kernel
theorem dX8_lock_118 : decode cX8_lock 118 = .ok (.pop, 1) := by decide +kernel
theorem dX8_lock_119 : decode cX8_lock 119 = .ok (.iload 5, 2) := by decide +kernel
theorem dX8_lock_121 : decode cX8_lock 121 = .ok (.ifCond .eq 22, 3) := by decide +kernel
theorem dX8_lock_124 : decode cX8_lock 124 = .ok (.aload_n 0, 1) := by decide +kernel
theorem dX8_lock_125 : decode cX8_lock 125 = .ok (.getfield 10, 3) := by decide +kernel
theorem dX8_lock_128 : decode cX8_lock 128 = .ok (.aload_n 0, 1) := by decide +kernel
theorem dX8_lock_129 : decode cX8_lock 129 = .ok (.getfield 10, 3) := by decide +kernel
theorem dX8_lock_132 : decode cX8_lock 132 = .ok (.getfield 24, 3) := by decide +kernel
theorem dX8_lock_135 : decode cX8_lock 135 = .ok (.invokevirtual 28, 3) := by decide +kernel
theorem dX8_lock_138 : decode cX8_lock 138 = .ok (.iconst 1, 1) := by decide +kernel
theorem dX8_lock_139 : decode cX8_lock 139 = .ok (.isub, 1) := by decide +kernel
theorem dX8_lock_140 : decode cX8_lock 140 = .ok (.putfield 52, 3) := by decide +kernel
theorem dX8_lock_143 : decode cX8_lock 143 = .ok (.aload_n 0, 1) := by decide +kernel
theorem dX8_lock_144 : decode cX8_lock 144 = .ok (.getfield 10, 3) := by decide +kernel
theorem dX8_lock_147 : decode cX8_lock 147 = .ok (.getfield 24, 3) := by decide +kernel
theorem dX8_lock_150 : decode cX8_lock 150 = .ok (.invokevirtual 28, 3) := by decide +kernel
theorem dX8_lock_153 : decode cX8_lock 153 = .ok (.iconst 1, 1) := by decide +kernel
theorem dX8_lock_154 : decode cX8_lock 154 = .ok (.isub, 1) := by decide +kernel
theorem dX8_lock_155 : decode cX8_lock 155 = .ok (.ireturn, 1) := by decide +kernel
set_option maxRecDepth 20000 in
theorem ggX8_thing_X8_isLock : GoodIn wsX8_thing wsX8_isLock := goodIn_r _ [8, 2, 9, 10, 11, 12, 13, 14, 15, 16, 7, 17, 76, 77, 78, 79, 80, 81, 82, 83, 84, 85, 86, 87, 88, 89, 90, 91, 92, 93, 94, 95, 96] (by decide +kernel) (by decide +kernel)
set_option maxRecDepth 20000 in
theorem gX8_thing_X8_isLock : GoodIn wsX8_thing (wsV RX8 55 RX8 yX8_isLock wsX8_isLock) := goodIn_app (goodIn_of _ (by decide +kernel)) ggX8_thing_X8_isLock
set_option maxRecDepth 20000 in
theorem ggX8_thing_X8_refuse : GoodIn wsX8_thing wsX8_refuse := goodIn_r _ [21, 1, 76, 77, 78, 79] (by decide +kernel) (by decide +kernel)
set_option maxRecDepth 20000 in
theorem gX8_thing_X8_refuse : GoodIn wsX8_thing (wsV RX8 41 RX8 yX8_refuse wsX8_refuse) := goodIn_app (goodIn_of _ (by decide +kernel)) ggX8_thing_X8_refuse
set_option maxRecDepth 20000 in
theorem ggX8_thing_X8_is : GoodIn wsX8_thing wsX8_is := goodIn_r _ [17] (by decide +kernel) (by decide +kernel)
set_option maxRecDepth 20000 in
theorem gX8_thing_X8_is : GoodIn wsX8_thing (va_wsS RX8 34 yX8_is wsX8_is) := goodIn_app (goodIn_of _ (by decide +kernel)) ggX8_thing_X8_is
set_option maxRecDepth 20000 in
theorem ggX8_thing_Jx4a65c_size_8abf5 : GoodIn wsX8_thing wsJx4a65c_size_8abf5 := goodIn_r _ [13, 14, 94, 95, 96] (by decide +kernel) (by decide +kernel)
set_option maxRecDepth 20000 in
theorem gX8_thing_Jx4a65c_size_8abf5 : GoodIn wsX8_thing (wsV RX8 28 RJx4a65c yJx4a65c_size_8abf5 wsJx4a65c_size_8abf5) := goodIn_app (goodIn_of _ (by decide +kernel)) ggX8_thing_Jx4a65c_size_8abf5
set_option maxRecDepth 20000 in
theorem ggX8_thing_Jx4a65c_add_9ea2d : GoodIn wsX8_thing wsJx4a65c_add_9ea2d := goodIn_r _ [25, 26, 27, 28, 14, 29, 30, 31, 12, 32, 33, 34, 35, 36, 37, 38, 39, 40, 41, 42, 43, 44, 45, 46, 47, 48, 49, 50, 51, 52, 53, 54, 55, 56, 57, 58, 59, 60, 61, 62, 63, 64, 65, 66, 67, 68, 69, 70, 71, 72, 73, 74, 75, 94, 95, 96] (by decide +kernel) (by decide +kernel)
set_option maxRecDepth 20000 in
theorem gX8_thing_Jx4a65c_add_9ea2d : GoodIn wsX8_thing (wsV RX8 48 RJx4a65c yJx4a65c_add_9ea2d wsJx4a65c_add_9ea2d) := goodIn_app (goodIn_of _ (by decide +kernel)) ggX8_thing_Jx4a65c_add_9ea2d
theorem dX8_thing_0 : decode cX8_thing 0 = .ok (.aload_n 0, 1) := by decide +kernel
theorem dX8_thing_1 : decode cX8_thing 1 = .ok (.iconst 0, 1) := by decide +kernel
theorem dX8_thing_2 : decode cX8_thing 2 = .ok (.putfield 20, 3) := by decide +kernel
theorem dX8_thing_5 : decode cX8_thing 5 = .ok (.iload_n 1, 1) := by decide +kernel
theorem dX8_thing_6 : decode cX8_thing 6 = .ok (.iconst (-1), 1) := by decide +kernel
theorem dX8_thing_7 : decode cX8_thing 7 = .ok (.if_icmp .eq 17, 3) := by decide +kernel
theorem dX8_thing_10 : decode cX8_thing 10 = .ok (.aload_n 0, 1) := by decide +kernel
theorem dX8_thing_11 : decode cX8_thing 11 = .ok (.iload_n 1, 1) := by decide +kernel
theorem dX8_thing_12 : decode cX8_thing 12 = .ok (.invokevirtual 55, 3) := by decide +kernel
theorem dX8_thing_15 : decode cX8_thing 15 = .ok (.ifCond .ne 9, 3) := by decide +kernel
theorem dX8_thing_18 : decode cX8_thing 18 = .ok (.aload_n 0, 1) := by decide +kernel
theorem dX8_thing_19 : decode cX8_thing 19 = .ok (.iconst 1, 1) := by decide +kernel
theorem dX8_thing_20 : decode cX8_thing 20 = .ok (.invokevirtual 41, 3) := by decide +kernel
theorem dX8_thing_23 : decode cX8_thing 23 = .ok (.ireturn, 1) := by decide +kernel
theorem dX8_thing_24 : decode cX8_thing 24 = .ok (.iload_n 2, 1) := by decide +kernel
theorem dX8_thing_25 : decode cX8_thing 25 = .ok (.iconst 0, 1) := by decide +kernel
theorem dX8_thing_26 : decode cX8_thing 26 = .ok (.bipush 9, 2) := by decide +kernel
theorem dX8_thing_28 : decode cX8_thing 28 = .ok (.invokestatic 34, 3) := by decide +kernel
theorem dX8_thing_31 : decode cX8_thing 31 = .ok (.ifCond .ne 9, 3) := by decide +kernel
theorem dX8_thing_34 : decode cX8_thing 34 = .ok (.aload_n 0, 1) := by decide +kernel
theorem dX8_thing_35 : decode cX8_thing 35 = .ok (.iconst 2, 1) := by decide +kernel
theorem dX8_thing_36 : decode cX8_thing 36 = .ok (.invokevirtual 41, 3) := by decide +kernel
theorem dX8_thing_39 : decode cX8_thing 39 = .ok (.ireturn, 1) := by decide +kernel
theorem dX8_thing_40 : decode cX8_thing 40 = .ok (.aload_n 0, 1) := by decide +kernel
theorem dX8_thing_41 : decode cX8_thing 41 = .ok (.getfield 10, 3) := by decide +kernel
theorem dX8_thing_44 : decode cX8_thing 44 = .ok (.getfield 38, 3) := by decide +kernel
theorem dX8_thing_47 : decode cX8_thing 47 = .ok (.invokevirtual 28, 3) := by decide +kernel
theorem dX8_thing_50 : decode cX8_thing 50 = .ok (.bipush 12, 2) := by decide +kernel
theorem dX8_thing_52 : decode cX8_thing 52 = .ok (.if_icmp .eq 13, 3) := by decide +kernel
theorem dX8_thing_55 : decode cX8_thing 55 = .ok (.aload_n 0, 1) := by decide +kernel
theorem dX8_thing_56 : decode cX8_thing 56 = .ok (.getfield 10, 3) := by decide +kernel
theorem dX8_thing_59 : decode cX8_thing 59 = .ok (.getfield 45, 3) := by decide +kernel
theorem dX8_thing_62 : decode cX8_thing 62 = .ok (.ifCond .eq 9, 3) := by decide +kernel
theorem dX8_thing_65 : decode cX8_thing 65 = .ok (.aload_n 0, 1) := by decide +kernel
theorem dX8_thing_66 : decode cX8_thing 66 = .ok (.iconst 3, 1) := by decide +kernel
theorem dX8_thing_67 : decode cX8_thing 67 = .ok (.invokevirtual 41, 3) := by decide +kernel
theorem dX8_thing_70 : decode cX8_thing 70 = .ok (.ireturn, 1) := by decide +kernel
theorem dX8_thing_71 : decode cX8_thing 71 = .ok (.iconst 5, 1) := by decide +kernel
theorem dX8_thing_72 : decode cX8_thing 72 = .ok (.newarray .int, 2) := by decide +kernel
theorem dX8_thing_74 : decode cX8_thing 74 = .ok (.astore_n 3, 1) := by decide +kernel
theorem dX8_thing_75 : decode cX8_thing 75 = .ok (.aload_n 3, 1) := by decide +kernel
theorem dX8_thing_76 : decode cX8_thing 76 = .ok (.iconst 0, 1) := by decide +kernel
theorem dX8_thing_77 : decode cX8_thing 77 = .ok (.iload_n 1, 1) := by decide +kernel
theorem dX8_thing_78 : decode cX8_thing 78 = .ok (.iastore, 1) := by decide +kernel
theorem dX8_thing_79 : decode cX8_thing 79 = .ok (.aload_n 3, 1) := by decide +kernel
theorem dX8_thing_80 : decode cX8_thing 80 = .ok (.iconst 1, 1) := by decide +kernel
theorem dX8_thing_81 : decode cX8_thing 81 = .ok (.iload_n 2, 1) := by decide +kernel
theorem dX8_thing_82 : decode cX8_thing 82 = .ok (.iastore, 1) := by decide +kernel
theorem dX8_thing_83 : decode cX8_thing 83 = .ok (.aload_n 0, 1) := by decide +kernel
theorem dX8_thing_84 : decode cX8_thing 84 = .ok (.getfield 10, 3) := by decide +kernel
theorem dX8_thing_87 : decode cX8_thing 87 = .ok (.getfield 38, 3) := by decide +kernel
theorem dX8_thing_90 : decode cX8_thing 90 = .ok (.aload_n 3, 1) := by decide +kernel
theorem dX8_thing_91 : decode cX8_thing 91 = .ok (.invokevirtual 48, 3) := by decide +kernel
theorem dX8_thing_94 : decode cX8_thing 94 = .ok (.pop, 1) := by decide +kernel
theorem dX8_thing_95 : decode cX8_thing 95 = .ok (.aload_n 0, 1) := by decide +kernel
theorem dX8_thing_96 : decode cX8_thing 96 = .ok (.getfield 10, 3) := by decide +kernel
theorem dX8_thing_99 : decode cX8_thing 99 = .ok (.getfield 38, 3) := by decide +kernel
theorem dX8_thing_102 : decode cX8_thing 102 = .ok (.invokevirtual 28, 3) := by decide +kernel
theorem dX8_thing_105 : decode cX8_thing 105 = .ok (.iconst 1, 1) := by decide +kernel
theorem dX8_thing_106 : decode cX8_thing 106 = .ok (.isub, 1) := by decide +kernel
theorem dX8_thing_107 : decode cX8_thing 107 = .ok (.ireturn, 1) := by decide +kernel
set_option maxRecDepth 20000 in
theorem ggX8_player_X8_is : GoodIn wsX8_player wsX8_is := goodIn_r _ [7] (by decide +kernel) (by decide +kernel)
set_option maxRecDepth 20000 in
theorem gX8_player_X8_is : GoodIn wsX8_player (va_wsS RX8 34 yX8_is wsX8_is) := goodIn_app (goodIn_of _ (by decide +kernel)) ggX8_player_X8_is
set_option maxRecDepth 20000 in
theorem ggX8_player_X8_refuse : GoodIn wsX8_player wsX8_refuse := goodIn_r _ [11, 1, 72, 73, 74, 75] (by decide +kernel) (by decide +kernel)
set_option maxRecDepth 20000 in
theorem gX8_player_X8_refuse : GoodIn wsX8_player (wsV RX8 41 RX8 yX8_refuse wsX8_refuse) := goodIn_app (goodIn_of _ (by decide +kernel)) ggX8_player_X8_refuse
set_option maxRecDepth 20000 in
theorem ggX8_player_Jx4a65c_size_8abf5 : GoodIn wsX8_player wsJx4a65c_size_8abf5 := goodIn_r _ [16, 17, 90, 91, 92] (by decide +kernel) (by decide +kernel)
set_option maxRecDepth 20000 in
theorem gX8_player_Jx4a65c_size_8abf5 : GoodIn wsX8_player (wsV RX8 28 RJx4a65c yJx4a65c_size_8abf5 wsJx4a65c_size_8abf5) := goodIn_app (goodIn_of _ (by decide +kernel)) ggX8_player_Jx4a65c_size_8abf5
set_option maxRecDepth 20000 in
theorem ggX8_player_Jx4a65c_add_9ea2d : GoodIn wsX8_player wsJx4a65c_add_9ea2d := goodIn_r _ [21, 22, 23, 24, 17, 25, 26, 27, 15, 28, 29, 30, 31, 32, 33, 34, 35, 36, 37, 38, 39, 40, 41, 42, 43, 44, 45, 46, 47, 48, 49, 50, 51, 52, 53, 54, 55, 56, 57, 58, 59, 60, 61, 62, 63, 64, 65, 66, 67, 68, 69, 70, 71, 90, 91, 92] (by decide +kernel) (by decide +kernel)
set_option maxRecDepth 20000 in
theorem gX8_player_Jx4a65c_add_9ea2d : GoodIn wsX8_player (wsV RX8 48 RJx4a65c yJx4a65c_add_9ea2d wsJx4a65c_add_9ea2d) := goodIn_app (goodIn_of _ (by decide +kernel)) ggX8_player_Jx4a65c_add_9ea2d
theorem dX8_player_0 : decode cX8_player 0 = .ok (.aload_n 0, 1) := by decide +kernel
theorem dX8_player_1 : decode cX8_player 1 = .ok (.iconst 0, 1) := by decide +kernel
theorem dX8_player_2 : decode cX8_player 2 = .ok (.putfield 20, 3) := by decide +kernel
theorem dX8_player_5 : decode cX8_player 5 = .ok (.iload_n 1, 1) := by decide +kernel
theorem dX8_player_6 : decode cX8_player 6 = .ok (.iconst 1, 1) := by decide +kernel
theorem dX8_player_7 : decode cX8_player 7 = .ok (.bipush 9, 2) := by decide +kernel
theorem dX8_player_9 : decode cX8_player 9 = .ok (.invokestatic 34, 3) := by decide +kernel
theorem dX8_player_12 : decode cX8_player 12 = .ok (.ifCond .ne 9, 3) := by decide +kernel
theorem dX8_player_15 : decode cX8_player 15 = .ok (.aload_n 0, 1) := by decide +kernel
theorem dX8_player_16 : decode cX8_player 16 = .ok (.iconst 1, 1) := by decide +kernel
theorem dX8_player_17 : decode cX8_player 17 = .ok (.invokevirtual 41, 3) := by decide +kernel
theorem dX8_player_20 : decode cX8_player 20 = .ok (.ireturn, 1) := by decide +kernel
theorem dX8_player_21 : decode cX8_player 21 = .ok (.aload_n 0, 1) := by decide +kernel
theorem dX8_player_22 : decode cX8_player 22 = .ok (.getfield 10, 3) := by decide +kernel
theorem dX8_player_25 : decode cX8_player 25 = .ok (.getfield 59, 3) := by decide +kernel
theorem dX8_player_28 : decode cX8_player 28 = .ok (.invokevirtual 28, 3) := by decide +kernel
theorem dX8_player_31 : decode cX8_player 31 = .ok (.bipush 6, 2) := by decide +kernel
theorem dX8_player_33 : decode cX8_player 33 = .ok (.if_icmp .eq 13, 3) := by decide +kernel
theorem dX8_player_36 : decode cX8_player 36 = .ok (.aload_n 0, 1) := by decide +kernel
theorem dX8_player_37 : decode cX8_player 37 = .ok (.getfield 10, 3) := by decide +kernel
theorem dX8_player_40 : decode cX8_player 40 = .ok (.getfield 45, 3) := by decide +kernel
theorem dX8_player_43 : decode cX8_player 43 = .ok (.ifCond .eq 9, 3) := by decide +kernel
theorem dX8_player_46 : decode cX8_player 46 = .ok (.aload_n 0, 1) := by decide +kernel
theorem dX8_player_47 : decode cX8_player 47 = .ok (.iconst 2, 1) := by decide +kernel
theorem dX8_player_48 : decode cX8_player 48 = .ok (.invokevirtual 41, 3) := by decide +kernel
theorem dX8_player_51 : decode cX8_player 51 = .ok (.ireturn, 1) := by decide +kernel
theorem dX8_player_52 : decode cX8_player 52 = .ok (.iconst 4, 1) := by decide +kernel
theorem dX8_player_53 : decode cX8_player 53 = .ok (.newarray .int, 2) := by decide +kernel
theorem dX8_player_55 : decode cX8_player 55 = .ok (.astore_n 2, 1) := by decide +kernel
theorem dX8_player_56 : decode cX8_player 56 = .ok (.aload_n 2, 1) := by decide +kernel
theorem dX8_player_57 : decode cX8_player 57 = .ok (.iconst 0, 1) := by decide +kernel
theorem dX8_player_58 : decode cX8_player 58 = .ok (.iload_n 1, 1) := by decide +kernel
theorem dX8_player_59 : decode cX8_player 59 = .ok (.iastore, 1) := by decide +kernel
theorem dX8_player_60 : decode cX8_player 60 = .ok (.aload_n 2, 1) := by decide +kernel
theorem dX8_player_61 : decode cX8_player 61 = .ok (.iconst 1, 1) := by decide +kernel
theorem dX8_player_62 : decode cX8_player 62 = .ok (.iconst (-1), 1) := by decide +kernel
theorem dX8_player_63 : decode cX8_player 63 = .ok (.iastore, 1) := by decide +kernel
theorem dX8_player_64 : decode cX8_player 64 = .ok (.aload_n 2, 1) := by decide +kernel
theorem dX8_player_65 : decode cX8_player 65 = .ok (.iconst 2, 1) := by decide +kernel
theorem dX8_player_66 : decode cX8_player 66 = .ok (.iconst (-1), 1) := by decide +kernel
theorem dX8_player_67 : decode cX8_player 67 = .ok (.iastore, 1) := by decide +kernel
theorem dX8_player_68 : decode cX8_player 68 = .ok (.aload_n 0, 1) := by decide +kernel
theorem dX8_player_69 : decode cX8_player 69 = .ok (.getfield 10, 3) := by decide +kernel
theorem dX8_player_72 : decode cX8_player 72 = .ok (.getfield 59, 3) := by decide +kernel
theorem dX8_player_75 : decode cX8_player 75 = .ok (.aload_n 2, 1) := by decide +kernel
theorem dX8_player_76 : decode cX8_player 76 = .ok (.invokevirtual 48, 3) := by decide +kernel
theorem dX8_player_79 : decode cX8_player 79 = .ok (.pop, 1) := by decide +kernel
theorem dX8_player_80 : decode cX8_player 80 = .ok (.aload_n 0, 1) := by decide +kernel
theorem dX8_player_81 : decode cX8_player 81 = .ok (.getfield 10, 3) := by decide +kernel
theorem dX8_player_84 : decode cX8_player 84 = .ok (.getfield 59, 3) := by decide +kernel
theorem dX8_player_87 : decode cX8_player 87 = .ok (.invokevirtual 28, 3) := by decide +kernel
theorem dX8_player_90 : decode cX8_player 90 = .ok (.iconst 1, 1) := by decide +kernel
theorem dX8_player_91 : decode cX8_player 91 = .ok (.isub, 1) := by decide +kernel
theorem dX8_player_92 : decode cX8_player 92 = .ok (.ireturn, 1) := by decide +kernel
set_option maxRecDepth 20000 in
theorem ggX8_begin_Jx4a65c_isEmpty_aae02 : GoodIn wsX8_begin wsJx4a65c_isEmpty_aae02 := goodIn_r _ [7, 8, 61, 62, 63] (by decide +kernel) (by decide +kernel)
set_option maxRecDepth 20000 in
theorem gX8_begin_Jx4a65c_isEmpty_aae02 : GoodIn wsX8_begin (wsV RX8 62 RJx4a65c yJx4a65c_isEmpty_aae02 wsJx4a65c_isEmpty_aae02) := goodIn_app (goodIn_of _ (by decide +kernel)) ggX8_begin_Jx4a65c_isEmpty_aae02
set_option maxRecDepth 20000 in
theorem ggX8_begin_X7_isOut : GoodIn wsX8_begin wsX7_isOut := goodIn_r _ [13, 14, 15, 16, 17, 18, 19, 6, 20, 8, 21, 22, 23, 24, 25, 26, 27, 28, 29, 30, 31, 32, 33, 47, 48, 49, 50, 51, 52, 53, 54, 55, 56, 57, 58, 59, 60, 61, 62, 63] (by decide +kernel) (by decide +kernel)
set_option maxRecDepth 20000 in
theorem gX8_begin_X7_isOut : GoodIn wsX8_begin (wsV RX8 66 RX7 yX7_isOut wsX7_isOut) := goodIn_app (goodIn_of _ (by decide +kernel)) ggX8_begin_X7_isOut
set_option maxRecDepth 20000 in
theorem ggX8_begin_X8_refuse : GoodIn wsX8_begin wsX8_refuse := goodIn_r _ [38, 1, 43, 44, 45, 46] (by decide +kernel) (by decide +kernel)
set_option maxRecDepth 20000 in
theorem gX8_begin_X8_refuse : GoodIn wsX8_begin (wsV RX8 41 RX8 yX8_refuse wsX8_refuse) := goodIn_app (goodIn_of _ (by decide +kernel)) ggX8_begin_X8_refuse
set_option maxRecDepth 20000 in
theorem ggX8_begin_Jx4a65c_size_8abf5 : GoodIn wsX8_begin wsJx4a65c_size_8abf5 := goodIn_r _ [42, 8, 61, 62, 63] (by decide +kernel) (by decide +kernel)
set_option maxRecDepth 20000 in
theorem gX8_begin_Jx4a65c_size_8abf5 : GoodIn wsX8_begin (wsV RX8 28 RJx4a65c yJx4a65c_size_8abf5 wsJx4a65c_size_8abf5) := goodIn_app (goodIn_of _ (by decide +kernel)) ggX8_begin_Jx4a65c_size_8abf5
theorem dX8_begin_0 : decode cX8_begin 0 = .ok (.aload_n 0, 1) := by decide +kernel
theorem dX8_begin_1 : decode cX8_begin 1 = .ok (.iconst 0, 1) := by decide +kernel
theorem dX8_begin_2 : decode cX8_begin 2 = .ok (.putfield 20, 3) := by decide +kernel
theorem dX8_begin_5 : decode cX8_begin 5 = .ok (.aload_n 0, 1) := by decide +kernel
theorem dX8_begin_6 : decode cX8_begin 6 = .ok (.getfield 10, 3) := by decide +kernel
theorem dX8_begin_9 : decode cX8_begin 9 = .ok (.getfield 45, 3) := by decide +kernel
theorem dX8_begin_12 : decode cX8_begin 12 = .ok (.ifCond .ne 26, 3) := by decide +kernel
theorem dX8_begin_15 : decode cX8_begin 15 = .ok (.aload_n 0, 1) := by decide +kernel
theorem dX8_begin_16 : decode cX8_begin 16 = .ok (.getfield 10, 3) := by decide +kernel
theorem dX8_begin_19 : decode cX8_begin 19 = .ok (.getfield 59, 3) := by decide +kernel
theorem dX8_begin_22 : decode cX8_begin 22 = .ok (.invokevirtual 62, 3) := by decide +kernel
theorem dX8_begin_25 : decode cX8_begin 25 = .ok (.ifCond .ne 13, 3) := by decide +kernel
theorem dX8_begin_28 : decode cX8_begin 28 = .ok (.aload_n 0, 1) := by decide +kernel
theorem dX8_begin_29 : decode cX8_begin 29 = .ok (.getfield 10, 3) := by decide +kernel
theorem dX8_begin_32 : decode cX8_begin 32 = .ok (.invokevirtual 66, 3) := by decide +kernel
theorem dX8_begin_35 : decode cX8_begin 35 = .ok (.ifCond .eq 9, 3) := by decide +kernel
theorem dX8_begin_38 : decode cX8_begin 38 = .ok (.aload_n 0, 1) := by decide +kernel
theorem dX8_begin_39 : decode cX8_begin 39 = .ok (.iconst 1, 1) := by decide +kernel
theorem dX8_begin_40 : decode cX8_begin 40 = .ok (.invokevirtual 41, 3) := by decide +kernel
theorem dX8_begin_43 : decode cX8_begin 43 = .ok (.ireturn, 1) := by decide +kernel
theorem dX8_begin_44 : decode cX8_begin 44 = .ok (.aload_n 0, 1) := by decide +kernel
theorem dX8_begin_45 : decode cX8_begin 45 = .ok (.getfield 10, 3) := by decide +kernel
theorem dX8_begin_48 : decode cX8_begin 48 = .ok (.iconst 1, 1) := by decide +kernel
theorem dX8_begin_49 : decode cX8_begin 49 = .ok (.putfield 45, 3) := by decide +kernel
theorem dX8_begin_52 : decode cX8_begin 52 = .ok (.aload_n 0, 1) := by decide +kernel
theorem dX8_begin_53 : decode cX8_begin 53 = .ok (.getfield 10, 3) := by decide +kernel
theorem dX8_begin_56 : decode cX8_begin 56 = .ok (.iconst 0, 1) := by decide +kernel
theorem dX8_begin_57 : decode cX8_begin 57 = .ok (.putfield 69, 3) := by decide +kernel
theorem dX8_begin_60 : decode cX8_begin 60 = .ok (.aload_n 0, 1) := by decide +kernel
theorem dX8_begin_61 : decode cX8_begin 61 = .ok (.getfield 10, 3) := by decide +kernel
theorem dX8_begin_64 : decode cX8_begin 64 = .ok (.iconst 0, 1) := by decide +kernel
theorem dX8_begin_65 : decode cX8_begin 65 = .ok (.putfield 72, 3) := by decide +kernel
theorem dX8_begin_68 : decode cX8_begin 68 = .ok (.aload_n 0, 1) := by decide +kernel
theorem dX8_begin_69 : decode cX8_begin 69 = .ok (.getfield 10, 3) := by decide +kernel
theorem dX8_begin_72 : decode cX8_begin 72 = .ok (.dup, 1) := by decide +kernel
theorem dX8_begin_73 : decode cX8_begin 73 = .ok (.getfield 75, 3) := by decide +kernel
theorem dX8_begin_76 : decode cX8_begin 76 = .ok (.bipush 18, 2) := by decide +kernel
theorem dX8_begin_78 : decode cX8_begin 78 = .ok (.aload_n 0, 1) := by decide +kernel
theorem dX8_begin_79 : decode cX8_begin 79 = .ok (.getfield 10, 3) := by decide +kernel
theorem dX8_begin_82 : decode cX8_begin 82 = .ok (.getfield 59, 3) := by decide +kernel
theorem dX8_begin_85 : decode cX8_begin 85 = .ok (.invokevirtual 28, 3) := by decide +kernel
theorem dX8_begin_88 : decode cX8_begin 88 = .ok (.imul, 1) := by decide +kernel
theorem dX8_begin_89 : decode cX8_begin 89 = .ok (.iadd, 1) := by decide +kernel
theorem dX8_begin_90 : decode cX8_begin 90 = .ok (.putfield 75, 3) := by decide +kernel
theorem dX8_begin_93 : decode cX8_begin 93 = .ok (.aload_n 0, 1) := by decide +kernel
theorem dX8_begin_94 : decode cX8_begin 94 = .ok (.getfield 10, 3) := by decide +kernel
theorem dX8_begin_97 : decode cX8_begin 97 = .ok (.getfield 59, 3) := by decide +kernel
theorem dX8_begin_100 : decode cX8_begin 100 = .ok (.invokevirtual 28, 3) := by decide +kernel
theorem dX8_begin_103 : decode cX8_begin 103 = .ok (.ireturn, 1) := by decide +kernel
set_option maxRecDepth 20000 in
theorem ggX8_pass_X8_is : GoodIn wsX8_pass wsX8_is := goodIn_r _ [6] (by decide +kernel) (by decide +kernel)
set_option maxRecDepth 20000 in
theorem gX8_pass_X8_is : GoodIn wsX8_pass (va_wsS RX8 34 yX8_is wsX8_is) := goodIn_app (goodIn_of _ (by decide +kernel)) ggX8_pass_X8_is
set_option maxRecDepth 20000 in
theorem ggX8_pass_X8_refuse : GoodIn wsX8_pass wsX8_refuse := goodIn_r _ [10, 1, 122, 123, 124, 125] (by decide +kernel) (by decide +kernel)
set_option maxRecDepth 20000 in
theorem gX8_pass_X8_refuse : GoodIn wsX8_pass (wsV RX8 41 RX8 yX8_refuse wsX8_refuse) := goodIn_app (goodIn_of _ (by decide +kernel)) ggX8_pass_X8_refuse
set_option maxRecDepth 20000 in
theorem ggX8_pass_X7_pass : GoodIn wsX8_pass wsX7_pass := goodIn_r _ [15, 16, 17, 18, 19, 20, 21, 22, 23, 24, 25, 26, 27, 28, 29, 30, 31, 32, 33, 34, 35, 36, 37, 38, 39, 40, 41, 42, 43, 44, 45, 46, 47, 48, 49, 50, 51, 52, 53, 54, 55, 56, 57, 58, 59, 60, 61, 62, 63, 64, 65, 66, 67, 68, 69, 70, 71, 72, 73, 74, 75, 76, 77, 78, 79, 80, 14, 81, 82, 83, 84, 85, 86, 87, 88, 89, 90, 91, 92, 93, 94, 95, 96, 97, 98, 99, 100, 101, 102, 103, 104, 105, 106, 107, 108, 109, 110, 111, 112, 113, 114, 115, 116, 117, 118, 119, 120, 121, 126, 127, 128, 129, 130, 131, 132, 133, 134, 135, 136, 137, 138, 139, 140, 141, 142, 143, 144, 145, 146] (by decide +kernel) (by decide +kernel)
set_option maxRecDepth 20000 in
theorem gX8_pass_X7_pass : GoodIn wsX8_pass (wsV RX8 81 RX7 yX7_pass wsX7_pass) := goodIn_app (goodIn_of _ (by decide +kernel)) ggX8_pass_X7_pass
theorem dX8_pass_0 : decode cX8_pass 0 = .ok (.aload_n 0, 1) := by decide +kernel
theorem dX8_pass_1 : decode cX8_pass 1 = .ok (.iconst 0, 1) := by decide +kernel
theorem dX8_pass_2 : decode cX8_pass 2 = .ok (.putfield 20, 3) := by decide +kernel
theorem dX8_pass_5 : decode cX8_pass 5 = .ok (.iload_n 1, 1) := by decide +kernel
theorem dX8_pass_6 : decode cX8_pass 6 = .ok (.iconst 1, 1) := by decide +kernel
theorem dX8_pass_7 : decode cX8_pass 7 = .ok (.bipush 90, 2) := by decide +kernel
theorem dX8_pass_9 : decode cX8_pass 9 = .ok (.invokestatic 34, 3) := by decide +kernel
theorem dX8_pass_12 : decode cX8_pass 12 = .ok (.ifCond .ne 9, 3) := by decide +kernel
theorem dX8_pass_15 : decode cX8_pass 15 = .ok (.aload_n 0, 1) := by decide +kernel
theorem dX8_pass_16 : decode cX8_pass 16 = .ok (.iconst 1, 1) := by decide +kernel
theorem dX8_pass_17 : decode cX8_pass 17 = .ok (.invokevirtual 41, 3) := by decide +kernel
theorem dX8_pass_20 : decode cX8_pass 20 = .ok (.ireturn, 1) := by decide +kernel
theorem dX8_pass_21 : decode cX8_pass 21 = .ok (.aload_n 0, 1) := by decide +kernel
theorem dX8_pass_22 : decode cX8_pass 22 = .ok (.getfield 10, 3) := by decide +kernel
theorem dX8_pass_25 : decode cX8_pass 25 = .ok (.getfield 78, 3) := by decide +kernel
theorem dX8_pass_28 : decode cX8_pass 28 = .ok (.iload_n 1, 1) := by decide +kernel
theorem dX8_pass_29 : decode cX8_pass 29 = .ok (.iadd, 1) := by decide +kernel
theorem dX8_pass_30 : decode cX8_pass 30 = .ok (.sipush 9999, 3) := by decide +kernel
theorem dX8_pass_33 : decode cX8_pass 33 = .ok (.if_icmp .le 9, 3) := by decide +kernel
theorem dX8_pass_36 : decode cX8_pass 36 = .ok (.aload_n 0, 1) := by decide +kernel
theorem dX8_pass_37 : decode cX8_pass 37 = .ok (.iconst 2, 1) := by decide +kernel
theorem dX8_pass_38 : decode cX8_pass 38 = .ok (.invokevirtual 41, 3) := by decide +kernel
theorem dX8_pass_41 : decode cX8_pass 41 = .ok (.ireturn, 1) := by decide +kernel
theorem dX8_pass_42 : decode cX8_pass 42 = .ok (.iconst 0, 1) := by decide +kernel
theorem dX8_pass_43 : decode cX8_pass 43 = .ok (.istore_n 2, 1) := by decide +kernel
theorem dX8_pass_44 : decode cX8_pass 44 = .ok (.iconst 0, 1) := by decide +kernel
theorem dX8_pass_45 : decode cX8_pass 45 = .ok (.istore_n 3, 1) := by decide +kernel
theorem dX8_pass_46 : decode cX8_pass 46 = .ok (.iload_n 3, 1) := by decide +kernel
theorem dX8_pass_47 : decode cX8_pass 47 = .ok (.iload_n 1, 1) := by decide +kernel
theorem dX8_pass_48 : decode cX8_pass 48 = .ok (.if_icmp .ge 19, 3) := by decide +kernel
theorem dX8_pass_51 : decode cX8_pass 51 = .ok (.iload_n 2, 1) := by decide +kernel
theorem dX8_pass_52 : decode cX8_pass 52 = .ok (.aload_n 0, 1) := by decide +kernel
theorem dX8_pass_53 : decode cX8_pass 53 = .ok (.getfield 10, 3) := by decide +kernel
theorem dX8_pass_56 : decode cX8_pass 56 = .ok (.invokevirtual 81, 3) := by decide +kernel
theorem dX8_pass_59 : decode cX8_pass 59 = .ok (.iadd, 1) := by decide +kernel
theorem dX8_pass_60 : decode cX8_pass 60 = .ok (.istore_n 2, 1) := by decide +kernel
theorem dX8_pass_61 : decode cX8_pass 61 = .ok (.iinc 3 1, 3) := by decide +kernel
theorem dX8_pass_64 : decode cX8_pass 64 = .ok (.goto (-18), 3) := by decide +kernel
theorem dX8_pass_67 : decode cX8_pass 67 = .ok (.iload_n 2, 1) := by decide +kernel
theorem dX8_pass_68 : decode cX8_pass 68 = .ok (.ireturn, 1) := by decide +kernel
set_option maxRecDepth 20000 in
theorem ggX8_hint_X8_isLock : GoodIn wsX8_hint wsX8_isLock := goodIn_r _ [8, 2, 9, 10, 11, 12, 13, 14, 15, 16, 7, 17, 53, 54, 55, 56, 57, 58, 59, 60, 61, 62, 63, 64, 65, 66, 67, 68, 69, 70, 71, 72, 73] (by decide +kernel) (by decide +kernel)
set_option maxRecDepth 20000 in
theorem gX8_hint_X8_isLock : GoodIn wsX8_hint (wsV RX8 55 RX8 yX8_isLock wsX8_isLock) := goodIn_app (goodIn_of _ (by decide +kernel)) ggX8_hint_X8_isLock
set_option maxRecDepth 20000 in
theorem ggX8_hint_X8_refuse : GoodIn wsX8_hint wsX8_refuse := goodIn_r _ [21, 1, 53, 54, 55, 56] (by decide +kernel) (by decide +kernel)
set_option maxRecDepth 20000 in
theorem gX8_hint_X8_refuse : GoodIn wsX8_hint (wsV RX8 41 RX8 yX8_refuse wsX8_refuse) := goodIn_app (goodIn_of _ (by decide +kernel)) ggX8_hint_X8_refuse
set_option maxRecDepth 20000 in
theorem ggX8_hint_Jx4a65c_get_915e3 : GoodIn wsX8_hint wsJx4a65c_get_915e3 := goodIn_r _ [25, 14, 26, 27, 28, 29, 30, 31, 32, 33, 34, 35, 36, 12, 37, 38, 71, 72, 73] (by decide +kernel) (by decide +kernel)
set_option maxRecDepth 20000 in
theorem gX8_hint_Jx4a65c_get_915e3 : GoodIn wsX8_hint (wsV RX8 84 RJx4a65c yJx4a65c_get_915e3 wsJx4a65c_get_915e3) := goodIn_app (goodIn_of _ (by decide +kernel)) ggX8_hint_Jx4a65c_get_915e3
set_option maxRecDepth 20000 in
theorem ggX8_hint_X7_isReady : GoodIn wsX8_hint wsX7_isReady := goodIn_r _ [43, 44, 45, 46, 23, 24, 12, 25, 14, 26, 27, 28, 29, 30, 31, 32, 33, 34, 35, 36, 37, 38, 47, 48, 49, 42, 50, 51, 52, 10, 11, 13, 57, 58, 59, 60, 61, 62, 63, 64, 65, 66, 67, 68, 69, 70, 71, 72, 73] (by decide +kernel) (by decide +kernel)
set_option maxRecDepth 20000 in
theorem gX8_hint_X7_isReady : GoodIn wsX8_hint (wsV RX8 90 RX7 yX7_isReady wsX7_isReady) := goodIn_app (goodIn_of _ (by decide +kernel)) ggX8_hint_X7_isReady
theorem dX8_hint_0 : decode cX8_hint 0 = .ok (.aload_n 0, 1) := by decide +kernel
theorem dX8_hint_1 : decode cX8_hint 1 = .ok (.iconst 0, 1) := by decide +kernel
theorem dX8_hint_2 : decode cX8_hint 2 = .ok (.putfield 20, 3) := by decide +kernel
theorem dX8_hint_5 : decode cX8_hint 5 = .ok (.aload_n 0, 1) := by decide +kernel
theorem dX8_hint_6 : decode cX8_hint 6 = .ok (.iload_n 1, 1) := by decide +kernel
theorem dX8_hint_7 : decode cX8_hint 7 = .ok (.invokevirtual 55, 3) := by decide +kernel
theorem dX8_hint_10 : decode cX8_hint 10 = .ok (.ifCond .ne 9, 3) := by decide +kernel
theorem dX8_hint_13 : decode cX8_hint 13 = .ok (.aload_n 0, 1) := by decide +kernel
theorem dX8_hint_14 : decode cX8_hint 14 = .ok (.iconst 1, 1) := by decide +kernel
theorem dX8_hint_15 : decode cX8_hint 15 = .ok (.invokevirtual 41, 3) := by decide +kernel
theorem dX8_hint_18 : decode cX8_hint 18 = .ok (.ireturn, 1) := by decide +kernel
theorem dX8_hint_19 : decode cX8_hint 19 = .ok (.aload_n 0, 1) := by decide +kernel
theorem dX8_hint_20 : decode cX8_hint 20 = .ok (.getfield 10, 3) := by decide +kernel
theorem dX8_hint_23 : decode cX8_hint 23 = .ok (.getfield 24, 3) := by decide +kernel
theorem dX8_hint_26 : decode cX8_hint 26 = .ok (.iload_n 1, 1) := by decide +kernel
theorem dX8_hint_27 : decode cX8_hint 27 = .ok (.invokevirtual 84, 3) := by decide +kernel
theorem dX8_hint_30 : decode cX8_hint 30 = .ok (.checkcast 88, 3) := by decide +kernel
theorem dX8_hint_33 : decode cX8_hint 33 = .ok (.astore_n 2, 1) := by decide +kernel
theorem dX8_hint_34 : decode cX8_hint 34 = .ok (.aload_n 0, 1) := by decide +kernel
theorem dX8_hint_35 : decode cX8_hint 35 = .ok (.getfield 10, 3) := by decide +kernel
theorem dX8_hint_38 : decode cX8_hint 38 = .ok (.getfield 45, 3) := by decide +kernel
theorem dX8_hint_41 : decode cX8_hint 41 = .ok (.ifCond .eq 22, 3) := by decide +kernel
theorem dX8_hint_44 : decode cX8_hint 44 = .ok (.aload_n 0, 1) := by decide +kernel
theorem dX8_hint_45 : decode cX8_hint 45 = .ok (.getfield 10, 3) := by decide +kernel
theorem dX8_hint_48 : decode cX8_hint 48 = .ok (.iload_n 1, 1) := by decide +kernel
theorem dX8_hint_49 : decode cX8_hint 49 = .ok (.invokevirtual 90, 3) := by decide +kernel
theorem dX8_hint_52 : decode cX8_hint 52 = .ok (.ifCond .eq 11, 3) := by decide +kernel
theorem dX8_hint_55 : decode cX8_hint 55 = .ok (.aload_n 2, 1) := by decide +kernel
theorem dX8_hint_56 : decode cX8_hint 56 = .ok (.bipush 6, 2) := by decide +kernel
theorem dX8_hint_58 : decode cX8_hint 58 = .ok (.iaload, 1) := by decide +kernel
theorem dX8_hint_59 : decode cX8_hint 59 = .ok (.iconst 3, 1) := by decide +kernel
theorem dX8_hint_60 : decode cX8_hint 60 = .ok (.if_icmp .ne 9, 3) := by decide +kernel
theorem dX8_hint_63 : decode cX8_hint 63 = .ok (.aload_n 0, 1) := by decide +kernel
theorem dX8_hint_64 : decode cX8_hint 64 = .ok (.iconst 2, 1) := by decide +kernel
theorem dX8_hint_65 : decode cX8_hint 65 = .ok (.invokevirtual 41, 3) := by decide +kernel
theorem dX8_hint_68 : decode cX8_hint 68 = .ok (.ireturn, 1) := by decide +kernel
theorem dX8_hint_69 : decode cX8_hint 69 = .ok (.aload_n 2, 1) := by decide +kernel
theorem dX8_hint_70 : decode cX8_hint 70 = .ok (.bipush 6, 2) := by decide +kernel
theorem dX8_hint_72 : decode cX8_hint 72 = .ok (.dup2, 1) := by decide +kernel
theorem dX8_hint_73 : decode cX8_hint 73 = .ok (.iaload, 1) := by decide +kernel
theorem dX8_hint_74 : decode cX8_hint 74 = .ok (.iconst 1, 1) := by decide +kernel
theorem dX8_hint_75 : decode cX8_hint 75 = .ok (.iadd, 1) := by decide +kernel
theorem dX8_hint_76 : decode cX8_hint 76 = .ok (.iastore, 1) := by decide +kernel
theorem dX8_hint_77 : decode cX8_hint 77 = .ok (.aload_n 0, 1) := by decide +kernel
theorem dX8_hint_78 : decode cX8_hint 78 = .ok (.getfield 10, 3) := by decide +kernel
theorem dX8_hint_81 : decode cX8_hint 81 = .ok (.dup, 1) := by decide +kernel
theorem dX8_hint_82 : decode cX8_hint 82 = .ok (.getfield 72, 3) := by decide +kernel
theorem dX8_hint_85 : decode cX8_hint 85 = .ok (.iconst 1, 1) := by decide +kernel
theorem dX8_hint_86 : decode cX8_hint 86 = .ok (.iadd, 1) := by decide +kernel
theorem dX8_hint_87 : decode cX8_hint 87 = .ok (.putfield 72, 3) := by decide +kernel
theorem dX8_hint_90 : decode cX8_hint 90 = .ok (.aload_n 2, 1) := by decide +kernel
theorem dX8_hint_91 : decode cX8_hint 91 = .ok (.iconst 5, 1) := by decide +kernel
theorem dX8_hint_92 : decode cX8_hint 92 = .ok (.dup2, 1) := by decide +kernel
theorem dX8_hint_93 : decode cX8_hint 93 = .ok (.iaload, 1) := by decide +kernel
theorem dX8_hint_94 : decode cX8_hint 94 = .ok (.aload_n 2, 1) := by decide +kernel
theorem dX8_hint_95 : decode cX8_hint 95 = .ok (.iconst 2, 1) := by decide +kernel
theorem dX8_hint_96 : decode cX8_hint 96 = .ok (.iaload, 1) := by decide +kernel
theorem dX8_hint_97 : decode cX8_hint 97 = .ok (.aload_n 2, 1) := by decide +kernel
theorem dX8_hint_98 : decode cX8_hint 98 = .ok (.iconst 5, 1) := by decide +kernel
theorem dX8_hint_99 : decode cX8_hint 99 = .ok (.iaload, 1) := by decide +kernel
theorem dX8_hint_100 : decode cX8_hint 100 = .ok (.isub, 1) := by decide +kernel
theorem dX8_hint_101 : decode cX8_hint 101 = .ok (.iconst 2, 1) := by decide +kernel
theorem dX8_hint_102 : decode cX8_hint 102 = .ok (.idiv, 1) := by decide +kernel
theorem dX8_hint_103 : decode cX8_hint 103 = .ok (.iadd, 1) := by decide +kernel
theorem dX8_hint_104 : decode cX8_hint 104 = .ok (.iastore, 1) := by decide +kernel
theorem dX8_hint_105 : decode cX8_hint 105 = .ok (.aload_n 2, 1) := by decide +kernel
theorem dX8_hint_106 : decode cX8_hint 106 = .ok (.iconst 5, 1) := by decide +kernel
theorem dX8_hint_107 : decode cX8_hint 107 = .ok (.iaload, 1) := by decide +kernel
theorem dX8_hint_108 : decode cX8_hint 108 = .ok (.ireturn, 1) := by decide +kernel
set_option maxRecDepth 20000 in
theorem ggX8_stop_X8_refuse : GoodIn wsX8_stop wsX8_refuse := goodIn_r _ [7, 1, 34, 35, 36, 37] (by decide +kernel) (by decide +kernel)
set_option maxRecDepth 20000 in
theorem gX8_stop_X8_refuse : GoodIn wsX8_stop (wsV RX8 41 RX8 yX8_refuse wsX8_refuse) := goodIn_app (goodIn_of _ (by decide +kernel)) ggX8_stop_X8_refuse
set_option maxRecDepth 20000 in
theorem ggX8_stop_X7_end : GoodIn wsX8_stop wsX7_end := goodIn_r _ [12, 13, 14, 15, 16, 17, 18, 19, 20, 21, 22, 23, 24, 25, 26, 27, 28, 29, 30, 31, 32, 33, 38, 39, 40, 41, 42, 43, 44, 45, 46, 47, 48, 49, 50, 51, 52, 53, 54] (by decide +kernel) (by decide +kernel)
set_option maxRecDepth 20000 in
theorem gX8_stop_X7_end : GoodIn wsX8_stop (wsV RX8 93 RX7 yX7_end wsX7_end) := goodIn_app (goodIn_of _ (by decide +kernel)) ggX8_stop_X7_end
theorem dX8_stop_0 : decode cX8_stop 0 = .ok (.aload_n 0, 1) := by decide +kernel
theorem dX8_stop_1 : decode cX8_stop 1 = .ok (.iconst 0, 1) := by decide +kernel
theorem dX8_stop_2 : decode cX8_stop 2 = .ok (.putfield 20, 3) := by decide +kernel
theorem dX8_stop_5 : decode cX8_stop 5 = .ok (.aload_n 0, 1) := by decide +kernel
theorem dX8_stop_6 : decode cX8_stop 6 = .ok (.getfield 10, 3) := by decide +kernel
theorem dX8_stop_9 : decode cX8_stop 9 = .ok (.getfield 45, 3) := by decide +kernel
theorem dX8_stop_12 : decode cX8_stop 12 = .ok (.ifCond .ne 9, 3) := by decide +kernel
theorem dX8_stop_15 : decode cX8_stop 15 = .ok (.aload_n 0, 1) := by decide +kernel
theorem dX8_stop_16 : decode cX8_stop 16 = .ok (.iconst 1, 1) := by decide +kernel
theorem dX8_stop_17 : decode cX8_stop 17 = .ok (.invokevirtual 41, 3) := by decide +kernel
theorem dX8_stop_20 : decode cX8_stop 20 = .ok (.ireturn, 1) := by decide +kernel
theorem dX8_stop_21 : decode cX8_stop 21 = .ok (.aload_n 0, 1) := by decide +kernel
theorem dX8_stop_22 : decode cX8_stop 22 = .ok (.getfield 10, 3) := by decide +kernel
theorem dX8_stop_25 : decode cX8_stop 25 = .ok (.iconst 0, 1) := by decide +kernel
theorem dX8_stop_26 : decode cX8_stop 26 = .ok (.invokevirtual 93, 3) := by decide +kernel
theorem dX8_stop_29 : decode cX8_stop 29 = .ok (.aload_n 0, 1) := by decide +kernel
theorem dX8_stop_30 : decode cX8_stop 30 = .ok (.getfield 10, 3) := by decide +kernel
theorem dX8_stop_33 : decode cX8_stop 33 = .ok (.getfield 69, 3) := by decide +kernel
theorem dX8_stop_36 : decode cX8_stop 36 = .ok (.ireturn, 1) := by decide +kernel
set_option maxRecDepth 20000 in
theorem ggX8_steal_X8_isThing : GoodIn wsX8_steal wsX8_isThing := goodIn_r _ [8, 2, 9, 10, 11, 12, 13, 14, 15, 16, 7, 17, 55, 56, 57, 58, 59, 60, 61, 62, 63, 64, 65, 66, 67, 68, 69, 70, 71, 72, 73, 74, 75] (by decide +kernel) (by decide +kernel)
set_option maxRecDepth 20000 in
theorem gX8_steal_X8_isThing : GoodIn wsX8_steal (wsV RX8 97 RX8 yX8_isThing wsX8_isThing) := goodIn_app (goodIn_of _ (by decide +kernel)) ggX8_steal_X8_isThing
set_option maxRecDepth 20000 in
theorem ggX8_steal_X8_refuse : GoodIn wsX8_steal wsX8_refuse := goodIn_r _ [21, 1, 55, 56, 57, 58] (by decide +kernel) (by decide +kernel)
set_option maxRecDepth 20000 in
theorem gX8_steal_X8_refuse : GoodIn wsX8_steal (wsV RX8 41 RX8 yX8_refuse wsX8_refuse) := goodIn_app (goodIn_of _ (by decide +kernel)) ggX8_steal_X8_refuse
set_option maxRecDepth 20000 in
theorem ggX8_steal_Jx4a65c_get_915e3 : GoodIn wsX8_steal wsJx4a65c_get_915e3 := goodIn_r _ [25, 14, 26, 27, 28, 29, 30, 31, 32, 33, 34, 35, 36, 12, 37, 38, 73, 74, 75] (by decide +kernel) (by decide +kernel)
set_option maxRecDepth 20000 in
theorem gX8_steal_Jx4a65c_get_915e3 : GoodIn wsX8_steal (wsV RX8 84 RJx4a65c yJx4a65c_get_915e3 wsJx4a65c_get_915e3) := goodIn_app (goodIn_of _ (by decide +kernel)) ggX8_steal_Jx4a65c_get_915e3
set_option maxRecDepth 20000 in
theorem ggX8_steal_X7_inState : GoodIn wsX8_steal wsX7_inState := goodIn_r _ [43, 44, 45, 46, 10, 11, 12, 13, 14, 47, 23, 24, 25, 26, 27, 28, 29, 30, 31, 32, 33, 34, 35, 36, 37, 38, 59, 60, 61, 62, 63, 64, 65, 66, 67, 68, 69, 70, 71, 72, 73, 74, 75] (by decide +kernel) (by decide +kernel)
set_option maxRecDepth 20000 in
theorem gX8_steal_X7_inState : GoodIn wsX8_steal (wsV RX8 100 RX7 yX7_inState wsX7_inState) := goodIn_app (goodIn_of _ (by decide +kernel)) ggX8_steal_X7_inState
set_option maxRecDepth 20000 in
theorem ggX8_steal_J6_bitCount_0f7a4 : GoodIn wsX8_steal wsJ6_bitCount_0f7a4 := goodIn_r _ [51, 52, 53, 54] (by decide +kernel) (by decide +kernel)
set_option maxRecDepth 20000 in
theorem gX8_steal_J6_bitCount_0f7a4 : GoodIn wsX8_steal (va_wsS RX8 103 yJ6_bitCount_0f7a4 wsJ6_bitCount_0f7a4) := goodIn_app (goodIn_of _ (by decide +kernel)) ggX8_steal_J6_bitCount_0f7a4
theorem dX8_steal_0 : decode cX8_steal 0 = .ok (.aload_n 0, 1) := by decide +kernel
theorem dX8_steal_1 : decode cX8_steal 1 = .ok (.iconst 0, 1) := by decide +kernel
theorem dX8_steal_2 : decode cX8_steal 2 = .ok (.putfield 20, 3) := by decide +kernel
theorem dX8_steal_5 : decode cX8_steal 5 = .ok (.aload_n 0, 1) := by decide +kernel
theorem dX8_steal_6 : decode cX8_steal 6 = .ok (.iload_n 1, 1) := by decide +kernel
theorem dX8_steal_7 : decode cX8_steal 7 = .ok (.invokevirtual 97, 3) := by decide +kernel
theorem dX8_steal_10 : decode cX8_steal 10 = .ok (.ifCond .ne 9, 3) := by decide +kernel
theorem dX8_steal_13 : decode cX8_steal 13 = .ok (.aload_n 0, 1) := by decide +kernel
theorem dX8_steal_14 : decode cX8_steal 14 = .ok (.iconst 1, 1) := by decide +kernel
theorem dX8_steal_15 : decode cX8_steal 15 = .ok (.invokevirtual 41, 3) := by decide +kernel
theorem dX8_steal_18 : decode cX8_steal 18 = .ok (.ireturn, 1) := by decide +kernel
theorem dX8_steal_19 : decode cX8_steal 19 = .ok (.aload_n 0, 1) := by decide +kernel
theorem dX8_steal_20 : decode cX8_steal 20 = .ok (.getfield 10, 3) := by decide +kernel
theorem dX8_steal_23 : decode cX8_steal 23 = .ok (.getfield 38, 3) := by decide +kernel
theorem dX8_steal_26 : decode cX8_steal 26 = .ok (.iload_n 1, 1) := by decide +kernel
theorem dX8_steal_27 : decode cX8_steal 27 = .ok (.invokevirtual 84, 3) := by decide +kernel
theorem dX8_steal_30 : decode cX8_steal 30 = .ok (.checkcast 88, 3) := by decide +kernel
theorem dX8_steal_33 : decode cX8_steal 33 = .ok (.iconst 3, 1) := by decide +kernel
theorem dX8_steal_34 : decode cX8_steal 34 = .ok (.iaload, 1) := by decide +kernel
theorem dX8_steal_35 : decode cX8_steal 35 = .ok (.iconst 1, 1) := by decide +kernel
theorem dX8_steal_36 : decode cX8_steal 36 = .ok (.if_icmp .eq 9, 3) := by decide +kernel
theorem dX8_steal_39 : decode cX8_steal 39 = .ok (.aload_n 0, 1) := by decide +kernel
theorem dX8_steal_40 : decode cX8_steal 40 = .ok (.iconst 2, 1) := by decide +kernel
theorem dX8_steal_41 : decode cX8_steal 41 = .ok (.invokevirtual 41, 3) := by decide +kernel
theorem dX8_steal_44 : decode cX8_steal 44 = .ok (.ireturn, 1) := by decide +kernel
theorem dX8_steal_45 : decode cX8_steal 45 = .ok (.aload_n 0, 1) := by decide +kernel
theorem dX8_steal_46 : decode cX8_steal 46 = .ok (.getfield 10, 3) := by decide +kernel
theorem dX8_steal_49 : decode cX8_steal 49 = .ok (.getfield 38, 3) := by decide +kernel
theorem dX8_steal_52 : decode cX8_steal 52 = .ok (.iload_n 1, 1) := by decide +kernel
theorem dX8_steal_53 : decode cX8_steal 53 = .ok (.invokevirtual 84, 3) := by decide +kernel
theorem dX8_steal_56 : decode cX8_steal 56 = .ok (.checkcast 88, 3) := by decide +kernel
theorem dX8_steal_59 : decode cX8_steal 59 = .ok (.iconst 3, 1) := by decide +kernel
theorem dX8_steal_60 : decode cX8_steal 60 = .ok (.iconst 3, 1) := by decide +kernel
theorem dX8_steal_61 : decode cX8_steal 61 = .ok (.iastore, 1) := by decide +kernel
theorem dX8_steal_62 : decode cX8_steal 62 = .ok (.aload_n 0, 1) := by decide +kernel
theorem dX8_steal_63 : decode cX8_steal 63 = .ok (.getfield 10, 3) := by decide +kernel
theorem dX8_steal_66 : decode cX8_steal 66 = .ok (.iconst 3, 1) := by decide +kernel
theorem dX8_steal_67 : decode cX8_steal 67 = .ok (.invokevirtual 100, 3) := by decide +kernel
theorem dX8_steal_70 : decode cX8_steal 70 = .ok (.invokestatic 103, 3) := by decide +kernel
theorem dX8_steal_73 : decode cX8_steal 73 = .ok (.ireturn, 1) := by decide +kernel
set_option maxRecDepth 20000 in
theorem ggX8_lay_Jx4a65c_get_915e3 : GoodIn wsX8_lay wsJx4a65c_get_915e3 := goodIn_r _ [7, 8, 9, 10, 11, 12, 13, 14, 15, 16, 17, 18, 19, 6, 20, 21, 40, 41, 42] (by decide +kernel) (by decide +kernel)
set_option maxRecDepth 20000 in
theorem gX8_lay_Jx4a65c_get_915e3 : GoodIn wsX8_lay (wsV RX8 84 RJx4a65c yJx4a65c_get_915e3 wsJx4a65c_get_915e3) := goodIn_app (goodIn_of _ (by decide +kernel)) ggX8_lay_Jx4a65c_get_915e3
theorem dX8_lay_0 : decode cX8_lay 0 = .ok (.aload_n 0, 1) := by decide +kernel
theorem dX8_lay_1 : decode cX8_lay 1 = .ok (.getfield 10, 3) := by decide +kernel
theorem dX8_lay_4 : decode cX8_lay 4 = .ok (.getfield 38, 3) := by decide +kernel
theorem dX8_lay_7 : decode cX8_lay 7 = .ok (.iload_n 1, 1) := by decide +kernel
theorem dX8_lay_8 : decode cX8_lay 8 = .ok (.invokevirtual 84, 3) := by decide +kernel
theorem dX8_lay_11 : decode cX8_lay 11 = .ok (.checkcast 88, 3) := by decide +kernel
theorem dX8_lay_14 : decode cX8_lay 14 = .ok (.iconst 3, 1) := by decide +kernel
theorem dX8_lay_15 : decode cX8_lay 15 = .ok (.iconst 0, 1) := by decide +kernel
theorem dX8_lay_16 : decode cX8_lay 16 = .ok (.iastore, 1) := by decide +kernel
theorem dX8_lay_17 : decode cX8_lay 17 = .ok (.aload_n 0, 1) := by decide +kernel
theorem dX8_lay_18 : decode cX8_lay 18 = .ok (.getfield 10, 3) := by decide +kernel
theorem dX8_lay_21 : decode cX8_lay 21 = .ok (.getfield 38, 3) := by decide +kernel
theorem dX8_lay_24 : decode cX8_lay 24 = .ok (.iload_n 1, 1) := by decide +kernel
theorem dX8_lay_25 : decode cX8_lay 25 = .ok (.invokevirtual 84, 3) := by decide +kernel
theorem dX8_lay_28 : decode cX8_lay 28 = .ok (.checkcast 88, 3) := by decide +kernel
theorem dX8_lay_31 : decode cX8_lay 31 = .ok (.iconst 2, 1) := by decide +kernel
theorem dX8_lay_32 : decode cX8_lay 32 = .ok (.iconst 0, 1) := by decide +kernel
theorem dX8_lay_33 : decode cX8_lay 33 = .ok (.iastore, 1) := by decide +kernel
theorem dX8_lay_34 : decode cX8_lay 34 = .ok (.return_, 1) := by decide +kernel
set_option maxRecDepth 20000 in
theorem ggX8_spare_X8_isThing : GoodIn wsX8_spare wsX8_isThing := goodIn_r _ [8, 2, 9, 10, 11, 12, 13, 14, 15, 16, 7, 17, 43, 44, 45, 46, 47, 48, 49, 50, 51, 52, 53, 54, 55, 56, 57, 58, 59, 60, 61, 62, 63] (by decide +kernel) (by decide +kernel)
set_option maxRecDepth 20000 in
theorem gX8_spare_X8_isThing : GoodIn wsX8_spare (wsV RX8 97 RX8 yX8_isThing wsX8_isThing) := goodIn_app (goodIn_of _ (by decide +kernel)) ggX8_spare_X8_isThing
set_option maxRecDepth 20000 in
theorem ggX8_spare_X8_refuse : GoodIn wsX8_spare wsX8_refuse := goodIn_r _ [21, 1, 43, 44, 45, 46] (by decide +kernel) (by decide +kernel)
set_option maxRecDepth 20000 in
theorem gX8_spare_X8_refuse : GoodIn wsX8_spare (wsV RX8 41 RX8 yX8_refuse wsX8_refuse) := goodIn_app (goodIn_of _ (by decide +kernel)) ggX8_spare_X8_refuse
set_option maxRecDepth 20000 in
theorem ggX8_spare_Jx4a65c_get_915e3 : GoodIn wsX8_spare wsJx4a65c_get_915e3 := goodIn_r _ [25, 14, 26, 27, 28, 29, 30, 31, 32, 33, 34, 35, 36, 12, 37, 38, 61, 62, 63] (by decide +kernel) (by decide +kernel)
set_option maxRecDepth 20000 in
theorem gX8_spare_Jx4a65c_get_915e3 : GoodIn wsX8_spare (wsV RX8 84 RJx4a65c yJx4a65c_get_915e3 wsJx4a65c_get_915e3) := goodIn_app (goodIn_of _ (by decide +kernel)) ggX8_spare_Jx4a65c_get_915e3
set_option maxRecDepth 20000 in
theorem ggX8_spare_X8_lay : GoodIn wsX8_spare wsX8_lay := goodIn_r _ [42, 2, 3, 22, 23, 24, 12, 25, 14, 26, 27, 28, 29, 30, 31, 32, 33, 34, 35, 36, 37, 38, 43, 44, 45, 46, 47, 48, 49, 50, 51, 52, 53, 54, 55, 56, 57, 58, 59, 60, 61, 62, 63] (by decide +kernel) (by decide +kernel)
set_option maxRecDepth 20000 in
theorem gX8_spare_X8_lay : GoodIn wsX8_spare (wsV RX8 108 RX8 yX8_lay wsX8_lay) := goodIn_app (goodIn_of _ (by decide +kernel)) ggX8_spare_X8_lay
theorem dX8_spare_0 : decode cX8_spare 0 = .ok (.aload_n 0, 1) := by decide +kernel
theorem dX8_spare_1 : decode cX8_spare 1 = .ok (.iconst 0, 1) := by decide +kernel
theorem dX8_spare_2 : decode cX8_spare 2 = .ok (.putfield 20, 3) := by decide +kernel
theorem dX8_spare_5 : decode cX8_spare 5 = .ok (.aload_n 0, 1) := by decide +kernel
theorem dX8_spare_6 : decode cX8_spare 6 = .ok (.iload_n 1, 1) := by decide +kernel
theorem dX8_spare_7 : decode cX8_spare 7 = .ok (.invokevirtual 97, 3) := by decide +kernel
theorem dX8_spare_10 : decode cX8_spare 10 = .ok (.ifCond .ne 9, 3) := by decide +kernel
theorem dX8_spare_13 : decode cX8_spare 13 = .ok (.aload_n 0, 1) := by decide +kernel
theorem dX8_spare_14 : decode cX8_spare 14 = .ok (.iconst 1, 1) := by decide +kernel
theorem dX8_spare_15 : decode cX8_spare 15 = .ok (.invokevirtual 41, 3) := by decide +kernel
theorem dX8_spare_18 : decode cX8_spare 18 = .ok (.ireturn, 1) := by decide +kernel
theorem dX8_spare_19 : decode cX8_spare 19 = .ok (.aload_n 0, 1) := by decide +kernel
theorem dX8_spare_20 : decode cX8_spare 20 = .ok (.getfield 10, 3) := by decide +kernel
theorem dX8_spare_23 : decode cX8_spare 23 = .ok (.getfield 38, 3) := by decide +kernel
theorem dX8_spare_26 : decode cX8_spare 26 = .ok (.iload_n 1, 1) := by decide +kernel
theorem dX8_spare_27 : decode cX8_spare 27 = .ok (.invokevirtual 84, 3) := by decide +kernel
theorem dX8_spare_30 : decode cX8_spare 30 = .ok (.checkcast 88, 3) := by decide +kernel
theorem dX8_spare_33 : decode cX8_spare 33 = .ok (.iconst 3, 1) := by decide +kernel
theorem dX8_spare_34 : decode cX8_spare 34 = .ok (.iaload, 1) := by decide +kernel
theorem dX8_spare_35 : decode cX8_spare 35 = .ok (.iconst 3, 1) := by decide +kernel
theorem dX8_spare_36 : decode cX8_spare 36 = .ok (.if_icmp .eq 9, 3) := by decide +kernel
theorem dX8_spare_39 : decode cX8_spare 39 = .ok (.aload_n 0, 1) := by decide +kernel
theorem dX8_spare_40 : decode cX8_spare 40 = .ok (.iconst 2, 1) := by decide +kernel
theorem dX8_spare_41 : decode cX8_spare 41 = .ok (.invokevirtual 41, 3) := by decide +kernel
theorem dX8_spare_44 : decode cX8_spare 44 = .ok (.ireturn, 1) := by decide +kernel
theorem dX8_spare_45 : decode cX8_spare 45 = .ok (.aload_n 0, 1) := by decide +kernel
theorem dX8_spare_46 : decode cX8_spare 46 = .ok (.iload_n 1, 1) := by decide +kernel
theorem dX8_spare_47 : decode cX8_spare 47 = .ok (.invokevirtual 108, 3) := by decide +kernel
theorem dX8_spare_50 : decode cX8_spare 50 = .ok (.aload_n 0, 1) := by decide +kernel
theorem dX8_spare_51 : decode cX8_spare 51 = .ok (.getfield 10, 3) := by decide +kernel
theorem dX8_spare_54 : decode cX8_spare 54 = .ok (.dup, 1) := by decide +kernel
theorem dX8_spare_55 : decode cX8_spare 55 = .ok (.getfield 75, 3) := by decide +kernel
theorem dX8_spare_58 : decode cX8_spare 58 = .ok (.bipush 15, 2) := by decide +kernel
theorem dX8_spare_60 : decode cX8_spare 60 = .ok (.isub, 1) := by decide +kernel
theorem dX8_spare_61 : decode cX8_spare 61 = .ok (.putfield 75, 3) := by decide +kernel
theorem dX8_spare_64 : decode cX8_spare 64 = .ok (.aload_n 0, 1) := by decide +kernel
theorem dX8_spare_65 : decode cX8_spare 65 = .ok (.getfield 10, 3) := by decide +kernel
theorem dX8_spare_68 : decode cX8_spare 68 = .ok (.getfield 75, 3) := by decide +kernel
theorem dX8_spare_71 : decode cX8_spare 71 = .ok (.ireturn, 1) := by decide +kernel
set_option maxRecDepth 20000 in
theorem ggX8_breaks_X8_isLock : GoodIn wsX8_breaks wsX8_isLock := goodIn_r _ [8, 2, 9, 10, 11, 12, 13, 14, 15, 16, 7, 17, 39, 40, 41, 42, 43, 44, 45, 46, 47, 48, 49, 50, 51, 52, 53, 54, 55, 56, 57, 58, 59] (by decide +kernel) (by decide +kernel)
set_option maxRecDepth 20000 in
theorem gX8_breaks_X8_isLock : GoodIn wsX8_breaks (wsV RX8 55 RX8 yX8_isLock wsX8_isLock) := goodIn_app (goodIn_of _ (by decide +kernel)) ggX8_breaks_X8_isLock
set_option maxRecDepth 20000 in
theorem ggX8_breaks_X8_refuse : GoodIn wsX8_breaks wsX8_refuse := goodIn_r _ [21, 1, 39, 40, 41, 42] (by decide +kernel) (by decide +kernel)
set_option maxRecDepth 20000 in
theorem gX8_breaks_X8_refuse : GoodIn wsX8_breaks (wsV RX8 41 RX8 yX8_refuse wsX8_refuse) := goodIn_app (goodIn_of _ (by decide +kernel)) ggX8_breaks_X8_refuse
set_option maxRecDepth 20000 in
theorem ggX8_breaks_Jx4a65c_get_915e3 : GoodIn wsX8_breaks wsJx4a65c_get_915e3 := goodIn_r _ [25, 14, 26, 27, 28, 29, 30, 31, 32, 33, 34, 35, 36, 12, 37, 38, 57, 58, 59] (by decide +kernel) (by decide +kernel)
set_option maxRecDepth 20000 in
theorem gX8_breaks_Jx4a65c_get_915e3 : GoodIn wsX8_breaks (wsV RX8 84 RJx4a65c yJx4a65c_get_915e3 wsJx4a65c_get_915e3) := goodIn_app (goodIn_of _ (by decide +kernel)) ggX8_breaks_Jx4a65c_get_915e3
theorem dX8_breaks_0 : decode cX8_breaks 0 = .ok (.aload_n 0, 1) := by decide +kernel
theorem dX8_breaks_1 : decode cX8_breaks 1 = .ok (.iconst 0, 1) := by decide +kernel
theorem dX8_breaks_2 : decode cX8_breaks 2 = .ok (.putfield 20, 3) := by decide +kernel
theorem dX8_breaks_5 : decode cX8_breaks 5 = .ok (.aload_n 0, 1) := by decide +kernel
theorem dX8_breaks_6 : decode cX8_breaks 6 = .ok (.iload_n 1, 1) := by decide +kernel
theorem dX8_breaks_7 : decode cX8_breaks 7 = .ok (.invokevirtual 55, 3) := by decide +kernel
theorem dX8_breaks_10 : decode cX8_breaks 10 = .ok (.ifCond .ne 9, 3) := by decide +kernel
theorem dX8_breaks_13 : decode cX8_breaks 13 = .ok (.aload_n 0, 1) := by decide +kernel
theorem dX8_breaks_14 : decode cX8_breaks 14 = .ok (.iconst 1, 1) := by decide +kernel
theorem dX8_breaks_15 : decode cX8_breaks 15 = .ok (.invokevirtual 41, 3) := by decide +kernel
theorem dX8_breaks_18 : decode cX8_breaks 18 = .ok (.ireturn, 1) := by decide +kernel
theorem dX8_breaks_19 : decode cX8_breaks 19 = .ok (.aload_n 0, 1) := by decide +kernel
theorem dX8_breaks_20 : decode cX8_breaks 20 = .ok (.getfield 10, 3) := by decide +kernel
theorem dX8_breaks_23 : decode cX8_breaks 23 = .ok (.getfield 24, 3) := by decide +kernel
theorem dX8_breaks_26 : decode cX8_breaks 26 = .ok (.iload_n 1, 1) := by decide +kernel
theorem dX8_breaks_27 : decode cX8_breaks 27 = .ok (.invokevirtual 84, 3) := by decide +kernel
theorem dX8_breaks_30 : decode cX8_breaks 30 = .ok (.checkcast 88, 3) := by decide +kernel
theorem dX8_breaks_33 : decode cX8_breaks 33 = .ok (.astore_n 2, 1) := by decide +kernel
theorem dX8_breaks_34 : decode cX8_breaks 34 = .ok (.aload_n 2, 1) := by decide +kernel
theorem dX8_breaks_35 : decode cX8_breaks 35 = .ok (.bipush 8, 2) := by decide +kernel
theorem dX8_breaks_37 : decode cX8_breaks 37 = .ok (.iaload, 1) := by decide +kernel
theorem dX8_breaks_38 : decode cX8_breaks 38 = .ok (.iconst 1, 1) := by decide +kernel
theorem dX8_breaks_39 : decode cX8_breaks 39 = .ok (.if_icmp .ne 9, 3) := by decide +kernel
theorem dX8_breaks_42 : decode cX8_breaks 42 = .ok (.aload_n 0, 1) := by decide +kernel
theorem dX8_breaks_43 : decode cX8_breaks 43 = .ok (.iconst 2, 1) := by decide +kernel
theorem dX8_breaks_44 : decode cX8_breaks 44 = .ok (.invokevirtual 41, 3) := by decide +kernel
theorem dX8_breaks_47 : decode cX8_breaks 47 = .ok (.ireturn, 1) := by decide +kernel
theorem dX8_breaks_48 : decode cX8_breaks 48 = .ok (.aload_n 2, 1) := by decide +kernel
theorem dX8_breaks_49 : decode cX8_breaks 49 = .ok (.bipush 8, 2) := by decide +kernel
theorem dX8_breaks_51 : decode cX8_breaks 51 = .ok (.iconst 1, 1) := by decide +kernel
theorem dX8_breaks_52 : decode cX8_breaks 52 = .ok (.iastore, 1) := by decide +kernel
theorem dX8_breaks_53 : decode cX8_breaks 53 = .ok (.aload_n 2, 1) := by decide +kernel
theorem dX8_breaks_54 : decode cX8_breaks 54 = .ok (.bipush 7, 2) := by decide +kernel
theorem dX8_breaks_56 : decode cX8_breaks 56 = .ok (.iaload, 1) := by decide +kernel
theorem dX8_breaks_57 : decode cX8_breaks 57 = .ok (.ireturn, 1) := by decide +kernel
set_option maxRecDepth 20000 in
theorem ggX8_repair_X8_isLock : GoodIn wsX8_repair wsX8_isLock := goodIn_r _ [8, 2, 9, 10, 11, 12, 13, 14, 15, 16, 7, 17, 39, 40, 41, 42, 43, 44, 45, 46, 47, 48, 49, 50, 51, 52, 53, 54, 55, 56, 57, 58, 59] (by decide +kernel) (by decide +kernel)
set_option maxRecDepth 20000 in
theorem gX8_repair_X8_isLock : GoodIn wsX8_repair (wsV RX8 55 RX8 yX8_isLock wsX8_isLock) := goodIn_app (goodIn_of _ (by decide +kernel)) ggX8_repair_X8_isLock
set_option maxRecDepth 20000 in
theorem ggX8_repair_X8_refuse : GoodIn wsX8_repair wsX8_refuse := goodIn_r _ [21, 1, 39, 40, 41, 42] (by decide +kernel) (by decide +kernel)
set_option maxRecDepth 20000 in
theorem gX8_repair_X8_refuse : GoodIn wsX8_repair (wsV RX8 41 RX8 yX8_refuse wsX8_refuse) := goodIn_app (goodIn_of _ (by decide +kernel)) ggX8_repair_X8_refuse
set_option maxRecDepth 20000 in
theorem ggX8_repair_Jx4a65c_get_915e3 : GoodIn wsX8_repair wsJx4a65c_get_915e3 := goodIn_r _ [25, 14, 26, 27, 28, 29, 30, 31, 32, 33, 34, 35, 36, 12, 37, 38, 57, 58, 59] (by decide +kernel) (by decide +kernel)
set_option maxRecDepth 20000 in
theorem gX8_repair_Jx4a65c_get_915e3 : GoodIn wsX8_repair (wsV RX8 84 RJx4a65c yJx4a65c_get_915e3 wsJx4a65c_get_915e3) := goodIn_app (goodIn_of _ (by decide +kernel)) ggX8_repair_Jx4a65c_get_915e3
theorem dX8_repair_0 : decode cX8_repair 0 = .ok (.aload_n 0, 1) := by decide +kernel
theorem dX8_repair_1 : decode cX8_repair 1 = .ok (.iconst 0, 1) := by decide +kernel
theorem dX8_repair_2 : decode cX8_repair 2 = .ok (.putfield 20, 3) := by decide +kernel
theorem dX8_repair_5 : decode cX8_repair 5 = .ok (.aload_n 0, 1) := by decide +kernel
theorem dX8_repair_6 : decode cX8_repair 6 = .ok (.iload_n 1, 1) := by decide +kernel
theorem dX8_repair_7 : decode cX8_repair 7 = .ok (.invokevirtual 55, 3) := by decide +kernel
theorem dX8_repair_10 : decode cX8_repair 10 = .ok (.ifCond .ne 9, 3) := by decide +kernel
theorem dX8_repair_13 : decode cX8_repair 13 = .ok (.aload_n 0, 1) := by decide +kernel
theorem dX8_repair_14 : decode cX8_repair 14 = .ok (.iconst 1, 1) := by decide +kernel
theorem dX8_repair_15 : decode cX8_repair 15 = .ok (.invokevirtual 41, 3) := by decide +kernel
theorem dX8_repair_18 : decode cX8_repair 18 = .ok (.ireturn, 1) := by decide +kernel
theorem dX8_repair_19 : decode cX8_repair 19 = .ok (.aload_n 0, 1) := by decide +kernel
theorem dX8_repair_20 : decode cX8_repair 20 = .ok (.getfield 10, 3) := by decide +kernel
theorem dX8_repair_23 : decode cX8_repair 23 = .ok (.getfield 24, 3) := by decide +kernel
theorem dX8_repair_26 : decode cX8_repair 26 = .ok (.iload_n 1, 1) := by decide +kernel
theorem dX8_repair_27 : decode cX8_repair 27 = .ok (.invokevirtual 84, 3) := by decide +kernel
theorem dX8_repair_30 : decode cX8_repair 30 = .ok (.checkcast 88, 3) := by decide +kernel
theorem dX8_repair_33 : decode cX8_repair 33 = .ok (.astore_n 2, 1) := by decide +kernel
theorem dX8_repair_34 : decode cX8_repair 34 = .ok (.aload_n 2, 1) := by decide +kernel
theorem dX8_repair_35 : decode cX8_repair 35 = .ok (.bipush 8, 2) := by decide +kernel
theorem dX8_repair_37 : decode cX8_repair 37 = .ok (.iaload, 1) := by decide +kernel
theorem dX8_repair_38 : decode cX8_repair 38 = .ok (.ifCond .ne 9, 3) := by decide +kernel
theorem dX8_repair_41 : decode cX8_repair 41 = .ok (.aload_n 0, 1) := by decide +kernel
theorem dX8_repair_42 : decode cX8_repair 42 = .ok (.iconst 2, 1) := by decide +kernel
theorem dX8_repair_43 : decode cX8_repair 43 = .ok (.invokevirtual 41, 3) := by decide +kernel
theorem dX8_repair_46 : decode cX8_repair 46 = .ok (.ireturn, 1) := by decide +kernel
theorem dX8_repair_47 : decode cX8_repair 47 = .ok (.aload_n 2, 1) := by decide +kernel
theorem dX8_repair_48 : decode cX8_repair 48 = .ok (.bipush 8, 2) := by decide +kernel
theorem dX8_repair_50 : decode cX8_repair 50 = .ok (.iconst 0, 1) := by decide +kernel
theorem dX8_repair_51 : decode cX8_repair 51 = .ok (.iastore, 1) := by decide +kernel
theorem dX8_repair_52 : decode cX8_repair 52 = .ok (.aload_n 2, 1) := by decide +kernel
theorem dX8_repair_53 : decode cX8_repair 53 = .ok (.bipush 7, 2) := by decide +kernel
theorem dX8_repair_55 : decode cX8_repair 55 = .ok (.iconst 0, 1) := by decide +kernel
theorem dX8_repair_56 : decode cX8_repair 56 = .ok (.iastore, 1) := by decide +kernel
theorem dX8_repair_57 : decode cX8_repair 57 = .ok (.aload_n 0, 1) := by decide +kernel
theorem dX8_repair_58 : decode cX8_repair 58 = .ok (.getfield 10, 3) := by decide +kernel
theorem dX8_repair_61 : decode cX8_repair 61 = .ok (.dup, 1) := by decide +kernel
theorem dX8_repair_62 : decode cX8_repair 62 = .ok (.getfield 75, 3) := by decide +kernel
theorem dX8_repair_65 : decode cX8_repair 65 = .ok (.aload_n 2, 1) := by decide +kernel
theorem dX8_repair_66 : decode cX8_repair 66 = .ok (.iconst 2, 1) := by decide +kernel
theorem dX8_repair_67 : decode cX8_repair 67 = .ok (.iaload, 1) := by decide +kernel
theorem dX8_repair_68 : decode cX8_repair 68 = .ok (.isub, 1) := by decide +kernel
theorem dX8_repair_69 : decode cX8_repair 69 = .ok (.putfield 75, 3) := by decide +kernel
theorem dX8_repair_72 : decode cX8_repair 72 = .ok (.aload_n 0, 1) := by decide +kernel
theorem dX8_repair_73 : decode cX8_repair 73 = .ok (.getfield 10, 3) := by decide +kernel
theorem dX8_repair_76 : decode cX8_repair 76 = .ok (.getfield 75, 3) := by decide +kernel
theorem dX8_repair_79 : decode cX8_repair 79 = .ok (.ireturn, 1) := by decide +kernel
set_option maxRecDepth 20000 in
theorem ggX8_power_Jx4a65c_size_8abf5 : GoodIn wsX8_power wsJx4a65c_size_8abf5 := goodIn_r _ [9, 10, 77, 78, 79] (by decide +kernel) (by decide +kernel)
set_option maxRecDepth 20000 in
theorem gX8_power_Jx4a65c_size_8abf5 : GoodIn wsX8_power (wsV RX8 28 RJx4a65c yJx4a65c_size_8abf5 wsJx4a65c_size_8abf5) := goodIn_app (goodIn_of _ (by decide +kernel)) ggX8_power_Jx4a65c_size_8abf5
set_option maxRecDepth 20000 in
theorem ggX8_power_Jx4a65c_get_915e3 : GoodIn wsX8_power wsJx4a65c_get_915e3 := goodIn_r _ [14, 10, 15, 16, 17, 18, 19, 20, 21, 22, 23, 24, 25, 8, 26, 27, 77, 78, 79] (by decide +kernel) (by decide +kernel)
set_option maxRecDepth 20000 in
theorem gX8_power_Jx4a65c_get_915e3 : GoodIn wsX8_power (wsV RX8 84 RJx4a65c yJx4a65c_get_915e3 wsJx4a65c_get_915e3) := goodIn_app (goodIn_of _ (by decide +kernel)) ggX8_power_Jx4a65c_get_915e3
set_option maxRecDepth 20000 in
theorem ggX8_power_X7_isOut : GoodIn wsX8_power wsX7_isOut := goodIn_r _ [32, 33, 34, 35, 36, 12, 13, 8, 14, 10, 15, 16, 17, 18, 19, 20, 21, 22, 23, 24, 25, 26, 27, 63, 64, 65, 66, 67, 68, 69, 70, 71, 72, 73, 74, 75, 76, 77, 78, 79] (by decide +kernel) (by decide +kernel)
set_option maxRecDepth 20000 in
theorem gX8_power_X7_isOut : GoodIn wsX8_power (wsV RX8 66 RX7 yX7_isOut wsX7_isOut) := goodIn_app (goodIn_of _ (by decide +kernel)) ggX8_power_X7_isOut
set_option maxRecDepth 20000 in
theorem ggX8_power_X7_end : GoodIn wsX8_power wsX7_end := goodIn_r _ [40, 41, 42, 43, 44, 45, 46, 47, 48, 49, 50, 51, 52, 53, 54, 55, 8, 56, 57, 58, 27, 10, 63, 64, 65, 66, 67, 68, 69, 70, 71, 72, 73, 74, 75, 76, 77, 78, 79] (by decide +kernel) (by decide +kernel)
set_option maxRecDepth 20000 in
theorem gX8_power_X7_end : GoodIn wsX8_power (wsV RX8 93 RX7 yX7_end wsX7_end) := goodIn_app (goodIn_of _ (by decide +kernel)) ggX8_power_X7_end
theorem dX8_power_0 : decode cX8_power 0 = .ok (.aload_n 0, 1) := by decide +kernel
theorem dX8_power_1 : decode cX8_power 1 = .ok (.iconst 0, 1) := by decide +kernel
theorem dX8_power_2 : decode cX8_power 2 = .ok (.putfield 20, 3) := by decide +kernel
theorem dX8_power_5 : decode cX8_power 5 = .ok (.aload_n 0, 1) := by decide +kernel
theorem dX8_power_6 : decode cX8_power 6 = .ok (.getfield 16, 3) := by decide +kernel
theorem dX8_power_9 : decode cX8_power 9 = .ok (.ifCond .eq 11, 3) := by decide +kernel
theorem dX8_power_12 : decode cX8_power 12 = .ok (.iload_n 1, 1) := by decide +kernel
theorem dX8_power_13 : decode cX8_power 13 = .ok (.ifCond .ne 7, 3) := by decide +kernel
theorem dX8_power_16 : decode cX8_power 16 = .ok (.iconst 1, 1) := by decide +kernel
theorem dX8_power_17 : decode cX8_power 17 = .ok (.goto 4, 3) := by decide +kernel
theorem dX8_power_20 : decode cX8_power 20 = .ok (.iconst 0, 1) := by decide +kernel
theorem dX8_power_21 : decode cX8_power 21 = .ok (.istore_n 2, 1) := by decide +kernel
theorem dX8_power_22 : decode cX8_power 22 = .ok (.aload_n 0, 1) := by decide +kernel
theorem dX8_power_23 : decode cX8_power 23 = .ok (.iload_n 1, 1) := by decide +kernel
theorem dX8_power_24 : decode cX8_power 24 = .ok (.putfield 16, 3) := by decide +kernel
theorem dX8_power_27 : decode cX8_power 27 = .ok (.iconst 0, 1) := by decide +kernel
theorem dX8_power_28 : decode cX8_power 28 = .ok (.istore_n 3, 1) := by decide +kernel
theorem dX8_power_29 : decode cX8_power 29 = .ok (.iconst 0, 1) := by decide +kernel
theorem dX8_power_30 : decode cX8_power 30 = .ok (.istore 4, 2) := by decide +kernel
theorem dX8_power_32 : decode cX8_power 32 = .ok (.iload_n 2, 1) := by decide +kernel
theorem dX8_power_33 : decode cX8_power 33 = .ok (.ifCond .eq 71, 3) := by decide +kernel
theorem dX8_power_36 : decode cX8_power 36 = .ok (.iload 4, 2) := by decide +kernel
theorem dX8_power_38 : decode cX8_power 38 = .ok (.aload_n 0, 1) := by decide +kernel
theorem dX8_power_39 : decode cX8_power 39 = .ok (.getfield 10, 3) := by decide +kernel
theorem dX8_power_42 : decode cX8_power 42 = .ok (.getfield 24, 3) := by decide +kernel
theorem dX8_power_45 : decode cX8_power 45 = .ok (.invokevirtual 28, 3) := by decide +kernel
theorem dX8_power_48 : decode cX8_power 48 = .ok (.if_icmp .ge 56, 3) := by decide +kernel
theorem dX8_power_51 : decode cX8_power 51 = .ok (.aload_n 0, 1) := by decide +kernel
theorem dX8_power_52 : decode cX8_power 52 = .ok (.getfield 10, 3) := by decide +kernel
theorem dX8_power_55 : decode cX8_power 55 = .ok (.getfield 24, 3) := by decide +kernel
theorem dX8_power_58 : decode cX8_power 58 = .ok (.iload 4, 2) := by decide +kernel
theorem dX8_power_60 : decode cX8_power 60 = .ok (.invokevirtual 84, 3) := by decide +kernel
theorem dX8_power_63 : decode cX8_power 63 = .ok (.checkcast 88, 3) := by decide +kernel
theorem dX8_power_66 : decode cX8_power 66 = .ok (.astore 5, 2) := by decide +kernel
theorem dX8_power_68 : decode cX8_power 68 = .ok (.aload 5, 2) := by decide +kernel
theorem dX8_power_70 : decode cX8_power 70 = .ok (.iconst 3, 1) := by decide +kernel
theorem dX8_power_71 : decode cX8_power 71 = .ok (.iaload, 1) := by decide +kernel
theorem dX8_power_72 : decode cX8_power 72 = .ok (.ifCond .eq 26, 3) := by decide +kernel
theorem dX8_power_75 : decode cX8_power 75 = .ok (.aload 5, 2) := by decide +kernel
theorem dX8_power_77 : decode cX8_power 77 = .ok (.iconst 4, 1) := by decide +kernel
theorem dX8_power_78 : decode cX8_power 78 = .ok (.iaload, 1) := by decide +kernel
theorem dX8_power_79 : decode cX8_power 79 = .ok (.iconst 1, 1) := by decide +kernel
theorem dX8_power_80 : decode cX8_power 80 = .ok (.if_icmp .ne 6, 3) := by decide +kernel
theorem dX8_power_83 : decode cX8_power 83 = .ok (.goto 15, 3) := by decide +kernel
theorem dX8_power_86 : decode cX8_power 86 = .ok (.aload 5, 2) := by decide +kernel
theorem dX8_power_88 : decode cX8_power 88 = .ok (.iconst 4, 1) := by decide +kernel
theorem dX8_power_89 : decode cX8_power 89 = .ok (.iconst 1, 1) := by decide +kernel
theorem dX8_power_90 : decode cX8_power 90 = .ok (.iastore, 1) := by decide +kernel
theorem dX8_power_91 : decode cX8_power 91 = .ok (.iload_n 3, 1) := by decide +kernel
theorem dX8_power_92 : decode cX8_power 92 = .ok (.iconst 1, 1) := by decide +kernel
theorem dX8_power_93 : decode cX8_power 93 = .ok (.iload 4, 2) := by decide +kernel
theorem dX8_power_95 : decode cX8_power 95 = .ok (.ishl, 1) := by decide +kernel
theorem dX8_power_96 : decode cX8_power 96 = .ok (.ior, 1) := by decide +kernel
theorem dX8_power_97 : decode cX8_power 97 = .ok (.istore_n 3, 1) := by decide +kernel
theorem dX8_power_98 : decode cX8_power 98 = .ok (.iinc 4 1, 3) := by decide +kernel
theorem dX8_power_101 : decode cX8_power 101 = .ok (.goto (-69), 3) := by decide +kernel
theorem dX8_power_104 : decode cX8_power 104 = .ok (.aload_n 0, 1) := by decide +kernel
theorem dX8_power_105 : decode cX8_power 105 = .ok (.getfield 10, 3) := by decide +kernel
theorem dX8_power_108 : decode cX8_power 108 = .ok (.getfield 45, 3) := by decide +kernel
theorem dX8_power_111 : decode cX8_power 111 = .ok (.ifCond .eq 21, 3) := by decide +kernel
theorem dX8_power_114 : decode cX8_power 114 = .ok (.aload_n 0, 1) := by decide +kernel
theorem dX8_power_115 : decode cX8_power 115 = .ok (.getfield 10, 3) := by decide +kernel
theorem dX8_power_118 : decode cX8_power 118 = .ok (.invokevirtual 66, 3) := by decide +kernel
theorem dX8_power_121 : decode cX8_power 121 = .ok (.ifCond .eq 11, 3) := by decide +kernel
theorem dX8_power_124 : decode cX8_power 124 = .ok (.aload_n 0, 1) := by decide +kernel
theorem dX8_power_125 : decode cX8_power 125 = .ok (.getfield 10, 3) := by decide +kernel
theorem dX8_power_128 : decode cX8_power 128 = .ok (.iconst 0, 1) := by decide +kernel
theorem dX8_power_129 : decode cX8_power 129 = .ok (.invokevirtual 93, 3) := by decide +kernel
theorem dX8_power_132 : decode cX8_power 132 = .ok (.iload_n 3, 1) := by decide +kernel
theorem dX8_power_133 : decode cX8_power 133 = .ok (.ireturn, 1) := by decide +kernel
set_option maxRecDepth 20000 in
theorem ggX8_put_X8_isThing : GoodIn wsX8_put wsX8_isThing := goodIn_r _ [8, 2, 9, 10, 11, 12, 13, 14, 15, 16, 7, 17, 43, 44, 45, 46, 47, 48, 49, 50, 51, 52, 53, 54, 55, 56, 57, 58, 59, 60, 61, 62, 63] (by decide +kernel) (by decide +kernel)
set_option maxRecDepth 20000 in
theorem gX8_put_X8_isThing : GoodIn wsX8_put (wsV RX8 97 RX8 yX8_isThing wsX8_isThing) := goodIn_app (goodIn_of _ (by decide +kernel)) ggX8_put_X8_isThing
set_option maxRecDepth 20000 in
theorem ggX8_put_X8_refuse : GoodIn wsX8_put wsX8_refuse := goodIn_r _ [21, 1, 43, 44, 45, 46] (by decide +kernel) (by decide +kernel)
set_option maxRecDepth 20000 in
theorem gX8_put_X8_refuse : GoodIn wsX8_put (wsV RX8 41 RX8 yX8_refuse wsX8_refuse) := goodIn_app (goodIn_of _ (by decide +kernel)) ggX8_put_X8_refuse
set_option maxRecDepth 20000 in
theorem ggX8_put_Jx4a65c_get_915e3 : GoodIn wsX8_put wsJx4a65c_get_915e3 := goodIn_r _ [25, 14, 26, 27, 28, 29, 30, 31, 32, 33, 34, 35, 36, 12, 37, 38, 61, 62, 63] (by decide +kernel) (by decide +kernel)
set_option maxRecDepth 20000 in
theorem gX8_put_Jx4a65c_get_915e3 : GoodIn wsX8_put (wsV RX8 84 RJx4a65c yJx4a65c_get_915e3 wsJx4a65c_get_915e3) := goodIn_app (goodIn_of _ (by decide +kernel)) ggX8_put_Jx4a65c_get_915e3
set_option maxRecDepth 20000 in
theorem ggX8_put_X8_lay : GoodIn wsX8_put wsX8_lay := goodIn_r _ [42, 2, 3, 22, 23, 24, 12, 25, 14, 26, 27, 28, 29, 30, 31, 32, 33, 34, 35, 36, 37, 38, 43, 44, 45, 46, 47, 48, 49, 50, 51, 52, 53, 54, 55, 56, 57, 58, 59, 60, 61, 62, 63] (by decide +kernel) (by decide +kernel)
set_option maxRecDepth 20000 in
theorem gX8_put_X8_lay : GoodIn wsX8_put (wsV RX8 108 RX8 yX8_lay wsX8_lay) := goodIn_app (goodIn_of _ (by decide +kernel)) ggX8_put_X8_lay
theorem dX8_put_0 : decode cX8_put 0 = .ok (.aload_n 0, 1) := by decide +kernel
theorem dX8_put_1 : decode cX8_put 1 = .ok (.iconst 0, 1) := by decide +kernel
theorem dX8_put_2 : decode cX8_put 2 = .ok (.putfield 20, 3) := by decide +kernel
theorem dX8_put_5 : decode cX8_put 5 = .ok (.aload_n 0, 1) := by decide +kernel
theorem dX8_put_6 : decode cX8_put 6 = .ok (.iload_n 1, 1) := by decide +kernel
theorem dX8_put_7 : decode cX8_put 7 = .ok (.invokevirtual 97, 3) := by decide +kernel
theorem dX8_put_10 : decode cX8_put 10 = .ok (.ifCond .ne 9, 3) := by decide +kernel
theorem dX8_put_13 : decode cX8_put 13 = .ok (.aload_n 0, 1) := by decide +kernel
theorem dX8_put_14 : decode cX8_put 14 = .ok (.iconst 1, 1) := by decide +kernel
theorem dX8_put_15 : decode cX8_put 15 = .ok (.invokevirtual 41, 3) := by decide +kernel
theorem dX8_put_18 : decode cX8_put 18 = .ok (.ireturn, 1) := by decide +kernel
theorem dX8_put_19 : decode cX8_put 19 = .ok (.aload_n 0, 1) := by decide +kernel
theorem dX8_put_20 : decode cX8_put 20 = .ok (.getfield 10, 3) := by decide +kernel
theorem dX8_put_23 : decode cX8_put 23 = .ok (.getfield 38, 3) := by decide +kernel
theorem dX8_put_26 : decode cX8_put 26 = .ok (.iload_n 1, 1) := by decide +kernel
theorem dX8_put_27 : decode cX8_put 27 = .ok (.invokevirtual 84, 3) := by decide +kernel
theorem dX8_put_30 : decode cX8_put 30 = .ok (.checkcast 88, 3) := by decide +kernel
theorem dX8_put_33 : decode cX8_put 33 = .ok (.iconst 3, 1) := by decide +kernel
theorem dX8_put_34 : decode cX8_put 34 = .ok (.iaload, 1) := by decide +kernel
theorem dX8_put_35 : decode cX8_put 35 = .ok (.istore_n 2, 1) := by decide +kernel
theorem dX8_put_36 : decode cX8_put 36 = .ok (.aload_n 0, 1) := by decide +kernel
theorem dX8_put_37 : decode cX8_put 37 = .ok (.getfield 10, 3) := by decide +kernel
theorem dX8_put_40 : decode cX8_put 40 = .ok (.getfield 45, 3) := by decide +kernel
theorem dX8_put_43 : decode cX8_put 43 = .ok (.ifCond .ne 26, 3) := by decide +kernel
theorem dX8_put_46 : decode cX8_put 46 = .ok (.iload_n 2, 1) := by decide +kernel
theorem dX8_put_47 : decode cX8_put 47 = .ok (.iconst 1, 1) := by decide +kernel
theorem dX8_put_48 : decode cX8_put 48 = .ok (.if_icmp .eq 8, 3) := by decide +kernel
theorem dX8_put_51 : decode cX8_put 51 = .ok (.iload_n 2, 1) := by decide +kernel
theorem dX8_put_52 : decode cX8_put 52 = .ok (.iconst 2, 1) := by decide +kernel
theorem dX8_put_53 : decode cX8_put 53 = .ok (.if_icmp .ne 16, 3) := by decide +kernel
theorem dX8_put_56 : decode cX8_put 56 = .ok (.aload_n 0, 1) := by decide +kernel
theorem dX8_put_57 : decode cX8_put 57 = .ok (.getfield 10, 3) := by decide +kernel
theorem dX8_put_60 : decode cX8_put 60 = .ok (.getfield 78, 3) := by decide +kernel
theorem dX8_put_63 : decode cX8_put 63 = .ok (.sipush 9999, 3) := by decide +kernel
theorem dX8_put_66 : decode cX8_put 66 = .ok (.if_icmp .ne 9, 3) := by decide +kernel
theorem dX8_put_69 : decode cX8_put 69 = .ok (.aload_n 0, 1) := by decide +kernel
theorem dX8_put_70 : decode cX8_put 70 = .ok (.iconst 2, 1) := by decide +kernel
theorem dX8_put_71 : decode cX8_put 71 = .ok (.invokevirtual 41, 3) := by decide +kernel
theorem dX8_put_74 : decode cX8_put 74 = .ok (.ireturn, 1) := by decide +kernel
theorem dX8_put_75 : decode cX8_put 75 = .ok (.aload_n 0, 1) := by decide +kernel
theorem dX8_put_76 : decode cX8_put 76 = .ok (.iload_n 1, 1) := by decide +kernel
theorem dX8_put_77 : decode cX8_put 77 = .ok (.invokevirtual 108, 3) := by decide +kernel
theorem dX8_put_80 : decode cX8_put 80 = .ok (.aload_n 0, 1) := by decide +kernel
theorem dX8_put_81 : decode cX8_put 81 = .ok (.getfield 10, 3) := by decide +kernel
theorem dX8_put_84 : decode cX8_put 84 = .ok (.dup, 1) := by decide +kernel
theorem dX8_put_85 : decode cX8_put 85 = .ok (.getfield 78, 3) := by decide +kernel
theorem dX8_put_88 : decode cX8_put 88 = .ok (.iconst 1, 1) := by decide +kernel
theorem dX8_put_89 : decode cX8_put 89 = .ok (.iadd, 1) := by decide +kernel
theorem dX8_put_90 : decode cX8_put 90 = .ok (.putfield 78, 3) := by decide +kernel
theorem dX8_put_93 : decode cX8_put 93 = .ok (.iload_n 2, 1) := by decide +kernel
theorem dX8_put_94 : decode cX8_put 94 = .ok (.ireturn, 1) := by decide +kernel
set_option maxRecDepth 20000 in
theorem ggX8_shut_X8_isLock : GoodIn wsX8_shut wsX8_isLock := goodIn_r _ [9, 2, 10, 11, 12, 13, 14, 15, 16, 17, 8, 18, 40, 41, 42, 43, 44, 45, 46, 47, 48, 49, 50, 51, 52, 53, 54, 55, 56, 57, 58, 59, 60] (by decide +kernel) (by decide +kernel)
set_option maxRecDepth 20000 in
theorem gX8_shut_X8_isLock : GoodIn wsX8_shut (wsV RX8 55 RX8 yX8_isLock wsX8_isLock) := goodIn_app (goodIn_of _ (by decide +kernel)) ggX8_shut_X8_isLock
set_option maxRecDepth 20000 in
theorem ggX8_shut_X8_refuse : GoodIn wsX8_shut wsX8_refuse := goodIn_r _ [22, 1, 40, 41, 42, 43] (by decide +kernel) (by decide +kernel)
set_option maxRecDepth 20000 in
theorem gX8_shut_X8_refuse : GoodIn wsX8_shut (wsV RX8 41 RX8 yX8_refuse wsX8_refuse) := goodIn_app (goodIn_of _ (by decide +kernel)) ggX8_shut_X8_refuse
set_option maxRecDepth 20000 in
theorem ggX8_shut_Jx4a65c_get_915e3 : GoodIn wsX8_shut wsJx4a65c_get_915e3 := goodIn_r _ [26, 15, 27, 28, 29, 30, 31, 32, 33, 34, 35, 36, 37, 13, 38, 39, 58, 59, 60] (by decide +kernel) (by decide +kernel)
set_option maxRecDepth 20000 in
theorem gX8_shut_Jx4a65c_get_915e3 : GoodIn wsX8_shut (wsV RX8 84 RJx4a65c yJx4a65c_get_915e3 wsJx4a65c_get_915e3) := goodIn_app (goodIn_of _ (by decide +kernel)) ggX8_shut_Jx4a65c_get_915e3
theorem dX8_shut_0 : decode cX8_shut 0 = .ok (.aload_n 0, 1) := by decide +kernel
theorem dX8_shut_1 : decode cX8_shut 1 = .ok (.iconst 0, 1) := by decide +kernel
theorem dX8_shut_2 : decode cX8_shut 2 = .ok (.putfield 20, 3) := by decide +kernel
theorem dX8_shut_5 : decode cX8_shut 5 = .ok (.aload_n 0, 1) := by decide +kernel
theorem dX8_shut_6 : decode cX8_shut 6 = .ok (.iload_n 1, 1) := by decide +kernel
theorem dX8_shut_7 : decode cX8_shut 7 = .ok (.invokevirtual 55, 3) := by decide +kernel
theorem dX8_shut_10 : decode cX8_shut 10 = .ok (.ifCond .ne 9, 3) := by decide +kernel
theorem dX8_shut_13 : decode cX8_shut 13 = .ok (.aload_n 0, 1) := by decide +kernel
theorem dX8_shut_14 : decode cX8_shut 14 = .ok (.iconst 1, 1) := by decide +kernel
theorem dX8_shut_15 : decode cX8_shut 15 = .ok (.invokevirtual 41, 3) := by decide +kernel
theorem dX8_shut_18 : decode cX8_shut 18 = .ok (.ireturn, 1) := by decide +kernel
theorem dX8_shut_19 : decode cX8_shut 19 = .ok (.aload_n 0, 1) := by decide +kernel
theorem dX8_shut_20 : decode cX8_shut 20 = .ok (.getfield 10, 3) := by decide +kernel
theorem dX8_shut_23 : decode cX8_shut 23 = .ok (.getfield 24, 3) := by decide +kernel
theorem dX8_shut_26 : decode cX8_shut 26 = .ok (.iload_n 1, 1) := by decide +kernel
theorem dX8_shut_27 : decode cX8_shut 27 = .ok (.invokevirtual 84, 3) := by decide +kernel
theorem dX8_shut_30 : decode cX8_shut 30 = .ok (.checkcast 88, 3) := by decide +kernel
theorem dX8_shut_33 : decode cX8_shut 33 = .ok (.astore_n 2, 1) := by decide +kernel
theorem dX8_shut_34 : decode cX8_shut 34 = .ok (.aload_n 0, 1) := by decide +kernel
theorem dX8_shut_35 : decode cX8_shut 35 = .ok (.getfield 10, 3) := by decide +kernel
theorem dX8_shut_38 : decode cX8_shut 38 = .ok (.getfield 45, 3) := by decide +kernel
theorem dX8_shut_41 : decode cX8_shut 41 = .ok (.ifCond .ne 36, 3) := by decide +kernel
theorem dX8_shut_44 : decode cX8_shut 44 = .ok (.aload_n 2, 1) := by decide +kernel
theorem dX8_shut_45 : decode cX8_shut 45 = .ok (.iconst 4, 1) := by decide +kernel
theorem dX8_shut_46 : decode cX8_shut 46 = .ok (.iaload, 1) := by decide +kernel
theorem dX8_shut_47 : decode cX8_shut 47 = .ok (.ifCond .eq 30, 3) := by decide +kernel
theorem dX8_shut_50 : decode cX8_shut 50 = .ok (.aload_n 2, 1) := by decide +kernel
theorem dX8_shut_51 : decode cX8_shut 51 = .ok (.iconst 3, 1) := by decide +kernel
theorem dX8_shut_52 : decode cX8_shut 52 = .ok (.iaload, 1) := by decide +kernel
theorem dX8_shut_53 : decode cX8_shut 53 = .ok (.iconst 1, 1) := by decide +kernel
theorem dX8_shut_54 : decode cX8_shut 54 = .ok (.if_icmp .ne 10, 3) := by decide +kernel
theorem dX8_shut_57 : decode cX8_shut 57 = .ok (.aload_n 0, 1) := by decide +kernel
theorem dX8_shut_58 : decode cX8_shut 58 = .ok (.getfield 16, 3) := by decide +kernel
theorem dX8_shut_61 : decode cX8_shut 61 = .ok (.ifCond .eq 16, 3) := by decide +kernel
theorem dX8_shut_64 : decode cX8_shut 64 = .ok (.aload_n 0, 1) := by decide +kernel
theorem dX8_shut_65 : decode cX8_shut 65 = .ok (.getfield 10, 3) := by decide +kernel
theorem dX8_shut_68 : decode cX8_shut 68 = .ok (.getfield 78, 3) := by decide +kernel
theorem dX8_shut_71 : decode cX8_shut 71 = .ok (.sipush 9999, 3) := by decide +kernel
theorem dX8_shut_74 : decode cX8_shut 74 = .ok (.if_icmp .ne 9, 3) := by decide +kernel
theorem dX8_shut_77 : decode cX8_shut 77 = .ok (.aload_n 0, 1) := by decide +kernel
theorem dX8_shut_78 : decode cX8_shut 78 = .ok (.iconst 2, 1) := by decide +kernel
theorem dX8_shut_79 : decode cX8_shut 79 = .ok (.invokevirtual 41, 3) := by decide +kernel
theorem dX8_shut_82 : decode cX8_shut 82 = .ok (.ireturn, 1) := by decide +kernel
theorem dX8_shut_83 : decode cX8_shut 83 = .ok (.aload_n 2, 1) := by decide +kernel
theorem dX8_shut_84 : decode cX8_shut 84 = .ok (.iconst 5, 1) := by decide +kernel
theorem dX8_shut_85 : decode cX8_shut 85 = .ok (.iaload, 1) := by decide +kernel
theorem dX8_shut_86 : decode cX8_shut 86 = .ok (.istore_n 3, 1) := by decide +kernel
theorem dX8_shut_87 : decode cX8_shut 87 = .ok (.aload_n 2, 1) := by decide +kernel
theorem dX8_shut_88 : decode cX8_shut 88 = .ok (.iconst 4, 1) := by decide +kernel
theorem dX8_shut_89 : decode cX8_shut 89 = .ok (.iconst 0, 1) := by decide +kernel
theorem dX8_shut_90 : decode cX8_shut 90 = .ok (.iastore, 1) := by decide +kernel
theorem dX8_shut_91 : decode cX8_shut 91 = .ok (.aload_n 2, 1) := by decide +kernel
theorem dX8_shut_92 : decode cX8_shut 92 = .ok (.iconst 5, 1) := by decide +kernel
theorem dX8_shut_93 : decode cX8_shut 93 = .ok (.iconst 0, 1) := by decide +kernel
theorem dX8_shut_94 : decode cX8_shut 94 = .ok (.iastore, 1) := by decide +kernel
theorem dX8_shut_95 : decode cX8_shut 95 = .ok (.aload_n 2, 1) := by decide +kernel
theorem dX8_shut_96 : decode cX8_shut 96 = .ok (.bipush 6, 2) := by decide +kernel
theorem dX8_shut_98 : decode cX8_shut 98 = .ok (.iconst 0, 1) := by decide +kernel
theorem dX8_shut_99 : decode cX8_shut 99 = .ok (.iastore, 1) := by decide +kernel
theorem dX8_shut_100 : decode cX8_shut 100 = .ok (.aload_n 0, 1) := by decide +kernel
theorem dX8_shut_101 : decode cX8_shut 101 = .ok (.getfield 10, 3) := by decide +kernel
theorem dX8_shut_104 : decode cX8_shut 104 = .ok (.dup, 1) := by decide +kernel
theorem dX8_shut_105 : decode cX8_shut 105 = .ok (.getfield 78, 3) := by decide +kernel
theorem dX8_shut_108 : decode cX8_shut 108 = .ok (.iconst 1, 1) := by decide +kernel
theorem dX8_shut_109 : decode cX8_shut 109 = .ok (.iadd, 1) := by decide +kernel
theorem dX8_shut_110 : decode cX8_shut 110 = .ok (.putfield 78, 3) := by decide +kernel
theorem dX8_shut_113 : decode cX8_shut 113 = .ok (.iload_n 3, 1) := by decide +kernel
theorem dX8_shut_114 : decode cX8_shut 114 = .ok (.ireturn, 1) := by decide +kernel
set_option maxRecDepth 20000 in
theorem ggX8_ofLockNow_Jx4a65c_get_915e3 : GoodIn wsX8_ofLockNow wsJx4a65c_get_915e3 := goodIn_r _ [7, 8, 9, 10, 11, 12, 13, 14, 15, 16, 17, 18, 19, 6, 20, 21, 57, 58, 59] (by decide +kernel) (by decide +kernel)
set_option maxRecDepth 20000 in
theorem gX8_ofLockNow_Jx4a65c_get_915e3 : GoodIn wsX8_ofLockNow (wsV RX8 84 RJx4a65c yJx4a65c_get_915e3 wsJx4a65c_get_915e3) := goodIn_app (goodIn_of _ (by decide +kernel)) ggX8_ofLockNow_Jx4a65c_get_915e3
set_option maxRecDepth 20000 in
theorem ggX8_ofLockNow_X7_isReady : GoodIn wsX8_ofLockNow wsX7_isReady := goodIn_r _ [26, 27, 28, 29, 4, 5, 6, 7, 8, 9, 10, 11, 12, 13, 14, 15, 16, 17, 18, 19, 20, 21, 30, 31, 32, 25, 33, 34, 35, 36, 37, 38, 43, 44, 45, 46, 47, 48, 49, 50, 51, 52, 53, 54, 55, 56, 57, 58, 59] (by decide +kernel) (by decide +kernel)
set_option maxRecDepth 20000 in
theorem gX8_ofLockNow_X7_isReady : GoodIn wsX8_ofLockNow (wsV RX8 90 RX7 yX7_isReady wsX7_isReady) := goodIn_app (goodIn_of _ (by decide +kernel)) ggX8_ofLockNow_X7_isReady
theorem dX8_ofLockNow_0 : decode cX8_ofLockNow 0 = .ok (.iload_n 2, 1) := by decide +kernel
theorem dX8_ofLockNow_1 : decode cX8_ofLockNow 1 = .ok (.bipush 9, 2) := by decide +kernel
theorem dX8_ofLockNow_3 : decode cX8_ofLockNow 3 = .ok (.if_icmp .ge 22, 3) := by decide +kernel
theorem dX8_ofLockNow_6 : decode cX8_ofLockNow 6 = .ok (.aload_n 0, 1) := by decide +kernel
theorem dX8_ofLockNow_7 : decode cX8_ofLockNow 7 = .ok (.getfield 10, 3) := by decide +kernel
theorem dX8_ofLockNow_10 : decode cX8_ofLockNow 10 = .ok (.getfield 24, 3) := by decide +kernel
theorem dX8_ofLockNow_13 : decode cX8_ofLockNow 13 = .ok (.iload_n 1, 1) := by decide +kernel
theorem dX8_ofLockNow_14 : decode cX8_ofLockNow 14 = .ok (.invokevirtual 84, 3) := by decide +kernel
theorem dX8_ofLockNow_17 : decode cX8_ofLockNow 17 = .ok (.checkcast 88, 3) := by decide +kernel
theorem dX8_ofLockNow_20 : decode cX8_ofLockNow 20 = .ok (.iload_n 2, 1) := by decide +kernel
theorem dX8_ofLockNow_21 : decode cX8_ofLockNow 21 = .ok (.iaload, 1) := by decide +kernel
theorem dX8_ofLockNow_22 : decode cX8_ofLockNow 22 = .ok (.goto 19, 3) := by decide +kernel
theorem dX8_ofLockNow_25 : decode cX8_ofLockNow 25 = .ok (.aload_n 0, 1) := by decide +kernel
theorem dX8_ofLockNow_26 : decode cX8_ofLockNow 26 = .ok (.getfield 10, 3) := by decide +kernel
theorem dX8_ofLockNow_29 : decode cX8_ofLockNow 29 = .ok (.iload_n 1, 1) := by decide +kernel
theorem dX8_ofLockNow_30 : decode cX8_ofLockNow 30 = .ok (.invokevirtual 90, 3) := by decide +kernel
theorem dX8_ofLockNow_33 : decode cX8_ofLockNow 33 = .ok (.ifCond .eq 7, 3) := by decide +kernel
theorem dX8_ofLockNow_36 : decode cX8_ofLockNow 36 = .ok (.iconst 1, 1) := by decide +kernel
theorem dX8_ofLockNow_37 : decode cX8_ofLockNow 37 = .ok (.goto 4, 3) := by decide +kernel
theorem dX8_ofLockNow_40 : decode cX8_ofLockNow 40 = .ok (.iconst 0, 1) := by decide +kernel
theorem dX8_ofLockNow_41 : decode cX8_ofLockNow 41 = .ok (.ireturn, 1) := by decide +kernel
set_option maxRecDepth 20000 in
theorem ggX8_ofLock_X8_isLock : GoodIn wsX8_ofLock wsX8_isLock := goodIn_r _ [6, 7, 8, 9, 10, 11, 12, 13, 14, 15, 5, 16, 57, 58, 59, 60, 61, 62, 63, 64, 65, 66, 67, 68, 69, 70, 71, 72, 73, 74, 75, 76, 77] (by decide +kernel) (by decide +kernel)
set_option maxRecDepth 20000 in
theorem gX8_ofLock_X8_isLock : GoodIn wsX8_ofLock (wsV RX8 55 RX8 yX8_isLock wsX8_isLock) := goodIn_app (goodIn_of _ (by decide +kernel)) ggX8_ofLock_X8_isLock
set_option maxRecDepth 20000 in
theorem ggX8_ofLock_X8_refuse : GoodIn wsX8_ofLock wsX8_refuse := goodIn_r _ [20, 1, 57, 58, 59, 60] (by decide +kernel) (by decide +kernel)
set_option maxRecDepth 20000 in
theorem gX8_ofLock_X8_refuse : GoodIn wsX8_ofLock (wsV RX8 41 RX8 yX8_refuse wsX8_refuse) := goodIn_app (goodIn_of _ (by decide +kernel)) ggX8_ofLock_X8_refuse
set_option maxRecDepth 20000 in
theorem ggX8_ofLock_X8_is : GoodIn wsX8_ofLock wsX8_is := goodIn_r _ [16] (by decide +kernel) (by decide +kernel)
set_option maxRecDepth 20000 in
theorem gX8_ofLock_X8_is : GoodIn wsX8_ofLock (va_wsS RX8 34 yX8_is wsX8_is) := goodIn_app (goodIn_of _ (by decide +kernel)) ggX8_ofLock_X8_is
set_option maxRecDepth 20000 in
theorem ggX8_ofLock_X8_ofLockNow : GoodIn wsX8_ofLock wsX8_ofLockNow := goodIn_r _ [24, 7, 25, 26, 27, 28, 11, 29, 13, 30, 31, 32, 33, 34, 35, 36, 37, 38, 39, 40, 41, 42, 43, 44, 45, 46, 47, 48, 49, 50, 51, 52, 53, 54, 55, 56, 9, 10, 12, 57, 58, 59, 60, 61, 62, 63, 64, 65, 66, 67, 68, 69, 70, 71, 72, 73, 74, 75, 76, 77] (by decide +kernel) (by decide +kernel)
set_option maxRecDepth 20000 in
theorem gX8_ofLock_X8_ofLockNow : GoodIn wsX8_ofLock (wsV RX8 112 RX8 yX8_ofLockNow wsX8_ofLockNow) := goodIn_app (goodIn_of _ (by decide +kernel)) ggX8_ofLock_X8_ofLockNow
theorem dX8_ofLock_0 : decode cX8_ofLock 0 = .ok (.aload_n 0, 1) := by decide +kernel
theorem dX8_ofLock_1 : decode cX8_ofLock 1 = .ok (.iconst 0, 1) := by decide +kernel
theorem dX8_ofLock_2 : decode cX8_ofLock 2 = .ok (.putfield 20, 3) := by decide +kernel
theorem dX8_ofLock_5 : decode cX8_ofLock 5 = .ok (.aload_n 0, 1) := by decide +kernel
theorem dX8_ofLock_6 : decode cX8_ofLock 6 = .ok (.iload_n 1, 1) := by decide +kernel
theorem dX8_ofLock_7 : decode cX8_ofLock 7 = .ok (.invokevirtual 55, 3) := by decide +kernel
theorem dX8_ofLock_10 : decode cX8_ofLock 10 = .ok (.ifCond .ne 9, 3) := by decide +kernel
theorem dX8_ofLock_13 : decode cX8_ofLock 13 = .ok (.aload_n 0, 1) := by decide +kernel
theorem dX8_ofLock_14 : decode cX8_ofLock 14 = .ok (.iconst 1, 1) := by decide +kernel
theorem dX8_ofLock_15 : decode cX8_ofLock 15 = .ok (.invokevirtual 41, 3) := by decide +kernel
theorem dX8_ofLock_18 : decode cX8_ofLock 18 = .ok (.ireturn, 1) := by decide +kernel
theorem dX8_ofLock_19 : decode cX8_ofLock 19 = .ok (.iload_n 2, 1) := by decide +kernel
theorem dX8_ofLock_20 : decode cX8_ofLock 20 = .ok (.iconst 0, 1) := by decide +kernel
theorem dX8_ofLock_21 : decode cX8_ofLock 21 = .ok (.bipush 9, 2) := by decide +kernel
theorem dX8_ofLock_23 : decode cX8_ofLock 23 = .ok (.invokestatic 34, 3) := by decide +kernel
theorem dX8_ofLock_26 : decode cX8_ofLock 26 = .ok (.ifCond .eq 12, 3) := by decide +kernel
theorem dX8_ofLock_29 : decode cX8_ofLock 29 = .ok (.aload_n 0, 1) := by decide +kernel
theorem dX8_ofLock_30 : decode cX8_ofLock 30 = .ok (.iload_n 1, 1) := by decide +kernel
theorem dX8_ofLock_31 : decode cX8_ofLock 31 = .ok (.iload_n 2, 1) := by decide +kernel
theorem dX8_ofLock_32 : decode cX8_ofLock 32 = .ok (.invokevirtual 112, 3) := by decide +kernel
theorem dX8_ofLock_35 : decode cX8_ofLock 35 = .ok (.goto 8, 3) := by decide +kernel
theorem dX8_ofLock_38 : decode cX8_ofLock 38 = .ok (.aload_n 0, 1) := by decide +kernel
theorem dX8_ofLock_39 : decode cX8_ofLock 39 = .ok (.iconst 2, 1) := by decide +kernel
theorem dX8_ofLock_40 : decode cX8_ofLock 40 = .ok (.invokevirtual 41, 3) := by decide +kernel
theorem dX8_ofLock_43 : decode cX8_ofLock 43 = .ok (.ireturn, 1) := by decide +kernel
set_option maxRecDepth 20000 in
theorem ggX8_ofThingNow_Jx4a65c_get_915e3 : GoodIn wsX8_ofThingNow wsJx4a65c_get_915e3 := goodIn_r _ [7, 8, 9, 10, 11, 12, 13, 14, 15, 16, 17, 18, 19, 6, 20, 21, 53, 54, 55] (by decide +kernel) (by decide +kernel)
set_option maxRecDepth 20000 in
theorem gX8_ofThingNow_Jx4a65c_get_915e3 : GoodIn wsX8_ofThingNow (wsV RX8 84 RJx4a65c yJx4a65c_get_915e3 wsJx4a65c_get_915e3) := goodIn_app (goodIn_of _ (by decide +kernel)) ggX8_ofThingNow_Jx4a65c_get_915e3
set_option maxRecDepth 20000 in
theorem ggX8_ofThingNow_X7_isReached : GoodIn wsX8_ofThingNow wsX7_isReached := goodIn_r _ [26, 27, 28, 29, 30, 4, 5, 6, 7, 8, 9, 10, 11, 12, 13, 14, 15, 16, 17, 18, 19, 20, 21, 39, 40, 41, 42, 43, 44, 45, 46, 47, 48, 49, 50, 51, 52, 53, 54, 55] (by decide +kernel) (by decide +kernel)
set_option maxRecDepth 20000 in
theorem gX8_ofThingNow_X7_isReached : GoodIn wsX8_ofThingNow (wsV RX8 116 RX7 yX7_isReached wsX7_isReached) := goodIn_app (goodIn_of _ (by decide +kernel)) ggX8_ofThingNow_X7_isReached
set_option maxRecDepth 20000 in
theorem ggX8_ofThingNow_Jx4a65c_size_8abf5 : GoodIn wsX8_ofThingNow wsJx4a65c_size_8abf5 := goodIn_r _ [34, 8, 53, 54, 55] (by decide +kernel) (by decide +kernel)
set_option maxRecDepth 20000 in
theorem gX8_ofThingNow_Jx4a65c_size_8abf5 : GoodIn wsX8_ofThingNow (wsV RX8 28 RJx4a65c yJx4a65c_size_8abf5 wsJx4a65c_size_8abf5) := goodIn_app (goodIn_of _ (by decide +kernel)) ggX8_ofThingNow_Jx4a65c_size_8abf5
theorem dX8_ofThingNow_0 : decode cX8_ofThingNow 0 = .ok (.iload_n 2, 1) := by decide +kernel
theorem dX8_ofThingNow_1 : decode cX8_ofThingNow 1 = .ok (.iconst 4, 1) := by decide +kernel
theorem dX8_ofThingNow_2 : decode cX8_ofThingNow 2 = .ok (.if_icmp .ge 20, 3) := by decide +kernel
theorem dX8_ofThingNow_5 : decode cX8_ofThingNow 5 = .ok (.aload_n 0, 1) := by decide +kernel
theorem dX8_ofThingNow_6 : decode cX8_ofThingNow 6 = .ok (.getfield 10, 3) := by decide +kernel
theorem dX8_ofThingNow_9 : decode cX8_ofThingNow 9 = .ok (.getfield 38, 3) := by decide +kernel
theorem dX8_ofThingNow_12 : decode cX8_ofThingNow 12 = .ok (.iload_n 1, 1) := by decide +kernel
theorem dX8_ofThingNow_13 : decode cX8_ofThingNow 13 = .ok (.invokevirtual 84, 3) := by decide +kernel
theorem dX8_ofThingNow_16 : decode cX8_ofThingNow 16 = .ok (.checkcast 88, 3) := by decide +kernel
theorem dX8_ofThingNow_19 : decode cX8_ofThingNow 19 = .ok (.iload_n 2, 1) := by decide +kernel
theorem dX8_ofThingNow_20 : decode cX8_ofThingNow 20 = .ok (.iaload, 1) := by decide +kernel
theorem dX8_ofThingNow_21 : decode cX8_ofThingNow 21 = .ok (.ireturn, 1) := by decide +kernel
theorem dX8_ofThingNow_22 : decode cX8_ofThingNow 22 = .ok (.iload_n 2, 1) := by decide +kernel
theorem dX8_ofThingNow_23 : decode cX8_ofThingNow 23 = .ok (.iconst 4, 1) := by decide +kernel
theorem dX8_ofThingNow_24 : decode cX8_ofThingNow 24 = .ok (.if_icmp .ne 20, 3) := by decide +kernel
theorem dX8_ofThingNow_27 : decode cX8_ofThingNow 27 = .ok (.aload_n 0, 1) := by decide +kernel
theorem dX8_ofThingNow_28 : decode cX8_ofThingNow 28 = .ok (.getfield 10, 3) := by decide +kernel
theorem dX8_ofThingNow_31 : decode cX8_ofThingNow 31 = .ok (.iload_n 1, 1) := by decide +kernel
theorem dX8_ofThingNow_32 : decode cX8_ofThingNow 32 = .ok (.invokevirtual 116, 3) := by decide +kernel
theorem dX8_ofThingNow_35 : decode cX8_ofThingNow 35 = .ok (.ifCond .eq 7, 3) := by decide +kernel
theorem dX8_ofThingNow_38 : decode cX8_ofThingNow 38 = .ok (.iconst 1, 1) := by decide +kernel
theorem dX8_ofThingNow_39 : decode cX8_ofThingNow 39 = .ok (.goto 4, 3) := by decide +kernel
theorem dX8_ofThingNow_42 : decode cX8_ofThingNow 42 = .ok (.iconst 0, 1) := by decide +kernel
theorem dX8_ofThingNow_43 : decode cX8_ofThingNow 43 = .ok (.ireturn, 1) := by decide +kernel
theorem dX8_ofThingNow_44 : decode cX8_ofThingNow 44 = .ok (.iconst 0, 1) := by decide +kernel
theorem dX8_ofThingNow_45 : decode cX8_ofThingNow 45 = .ok (.istore_n 3, 1) := by decide +kernel
theorem dX8_ofThingNow_46 : decode cX8_ofThingNow 46 = .ok (.iconst 0, 1) := by decide +kernel
theorem dX8_ofThingNow_47 : decode cX8_ofThingNow 47 = .ok (.istore 4, 2) := by decide +kernel
theorem dX8_ofThingNow_49 : decode cX8_ofThingNow 49 = .ok (.iload 4, 2) := by decide +kernel
theorem dX8_ofThingNow_51 : decode cX8_ofThingNow 51 = .ok (.aload_n 0, 1) := by decide +kernel
theorem dX8_ofThingNow_52 : decode cX8_ofThingNow 52 = .ok (.getfield 10, 3) := by decide +kernel
theorem dX8_ofThingNow_55 : decode cX8_ofThingNow 55 = .ok (.getfield 24, 3) := by decide +kernel
theorem dX8_ofThingNow_58 : decode cX8_ofThingNow 58 = .ok (.invokevirtual 28, 3) := by decide +kernel
theorem dX8_ofThingNow_61 : decode cX8_ofThingNow 61 = .ok (.if_icmp .ge 36, 3) := by decide +kernel
theorem dX8_ofThingNow_64 : decode cX8_ofThingNow 64 = .ok (.iload_n 3, 1) := by decide +kernel
theorem dX8_ofThingNow_65 : decode cX8_ofThingNow 65 = .ok (.aload_n 0, 1) := by decide +kernel
theorem dX8_ofThingNow_66 : decode cX8_ofThingNow 66 = .ok (.getfield 10, 3) := by decide +kernel
theorem dX8_ofThingNow_69 : decode cX8_ofThingNow 69 = .ok (.getfield 24, 3) := by decide +kernel
theorem dX8_ofThingNow_72 : decode cX8_ofThingNow 72 = .ok (.iload 4, 2) := by decide +kernel
theorem dX8_ofThingNow_74 : decode cX8_ofThingNow 74 = .ok (.invokevirtual 84, 3) := by decide +kernel
theorem dX8_ofThingNow_77 : decode cX8_ofThingNow 77 = .ok (.checkcast 88, 3) := by decide +kernel
theorem dX8_ofThingNow_80 : decode cX8_ofThingNow 80 = .ok (.iconst 0, 1) := by decide +kernel
theorem dX8_ofThingNow_81 : decode cX8_ofThingNow 81 = .ok (.iaload, 1) := by decide +kernel
theorem dX8_ofThingNow_82 : decode cX8_ofThingNow 82 = .ok (.iload_n 1, 1) := by decide +kernel
theorem dX8_ofThingNow_83 : decode cX8_ofThingNow 83 = .ok (.ishr, 1) := by decide +kernel
theorem dX8_ofThingNow_84 : decode cX8_ofThingNow 84 = .ok (.iconst 1, 1) := by decide +kernel
theorem dX8_ofThingNow_85 : decode cX8_ofThingNow 85 = .ok (.iand, 1) := by decide +kernel
theorem dX8_ofThingNow_86 : decode cX8_ofThingNow 86 = .ok (.iload 4, 2) := by decide +kernel
theorem dX8_ofThingNow_88 : decode cX8_ofThingNow 88 = .ok (.ishl, 1) := by decide +kernel
theorem dX8_ofThingNow_89 : decode cX8_ofThingNow 89 = .ok (.ior, 1) := by decide +kernel
theorem dX8_ofThingNow_90 : decode cX8_ofThingNow 90 = .ok (.istore_n 3, 1) := by decide +kernel
theorem dX8_ofThingNow_91 : decode cX8_ofThingNow 91 = .ok (.iinc 4 1, 3) := by decide +kernel
theorem dX8_ofThingNow_94 : decode cX8_ofThingNow 94 = .ok (.goto (-45), 3) := by decide +kernel
theorem dX8_ofThingNow_97 : decode cX8_ofThingNow 97 = .ok (.iload_n 3, 1) := by decide +kernel
theorem dX8_ofThingNow_98 : decode cX8_ofThingNow 98 = .ok (.ireturn, 1) := by decide +kernel
set_option maxRecDepth 20000 in
theorem ggX8_ofThing_X8_isThing : GoodIn wsX8_ofThing wsX8_isThing := goodIn_r _ [6, 7, 8, 9, 10, 11, 12, 13, 14, 15, 5, 16, 52, 53, 54, 55, 56, 57, 58, 59, 60, 61, 62, 63, 64, 65, 66, 67, 68, 69, 70, 71, 72] (by decide +kernel) (by decide +kernel)
set_option maxRecDepth 20000 in
theorem gX8_ofThing_X8_isThing : GoodIn wsX8_ofThing (wsV RX8 97 RX8 yX8_isThing wsX8_isThing) := goodIn_app (goodIn_of _ (by decide +kernel)) ggX8_ofThing_X8_isThing
set_option maxRecDepth 20000 in
theorem ggX8_ofThing_X8_refuse : GoodIn wsX8_ofThing wsX8_refuse := goodIn_r _ [20, 1, 52, 53, 54, 55] (by decide +kernel) (by decide +kernel)
set_option maxRecDepth 20000 in
theorem gX8_ofThing_X8_refuse : GoodIn wsX8_ofThing (wsV RX8 41 RX8 yX8_refuse wsX8_refuse) := goodIn_app (goodIn_of _ (by decide +kernel)) ggX8_ofThing_X8_refuse
set_option maxRecDepth 20000 in
theorem ggX8_ofThing_X8_is : GoodIn wsX8_ofThing wsX8_is := goodIn_r _ [16] (by decide +kernel) (by decide +kernel)
set_option maxRecDepth 20000 in
theorem gX8_ofThing_X8_is : GoodIn wsX8_ofThing (va_wsS RX8 34 yX8_is wsX8_is) := goodIn_app (goodIn_of _ (by decide +kernel)) ggX8_ofThing_X8_is
set_option maxRecDepth 20000 in
theorem ggX8_ofThing_X8_ofThingNow : GoodIn wsX8_ofThing wsX8_ofThingNow := goodIn_r _ [24, 7, 25, 26, 27, 28, 11, 29, 13, 30, 31, 32, 33, 34, 35, 36, 37, 38, 39, 40, 41, 42, 43, 44, 45, 46, 47, 48, 49, 50, 51, 8, 9, 10, 12, 52, 53, 54, 55, 56, 57, 58, 59, 60, 61, 62, 63, 64, 65, 66, 67, 68, 69, 70, 71, 72] (by decide +kernel) (by decide +kernel)
set_option maxRecDepth 20000 in
theorem gX8_ofThing_X8_ofThingNow : GoodIn wsX8_ofThing (wsV RX8 119 RX8 yX8_ofThingNow wsX8_ofThingNow) := goodIn_app (goodIn_of _ (by decide +kernel)) ggX8_ofThing_X8_ofThingNow
theorem dX8_ofThing_0 : decode cX8_ofThing 0 = .ok (.aload_n 0, 1) := by decide +kernel
theorem dX8_ofThing_1 : decode cX8_ofThing 1 = .ok (.iconst 0, 1) := by decide +kernel
theorem dX8_ofThing_2 : decode cX8_ofThing 2 = .ok (.putfield 20, 3) := by decide +kernel
theorem dX8_ofThing_5 : decode cX8_ofThing 5 = .ok (.aload_n 0, 1) := by decide +kernel
theorem dX8_ofThing_6 : decode cX8_ofThing 6 = .ok (.iload_n 1, 1) := by decide +kernel
theorem dX8_ofThing_7 : decode cX8_ofThing 7 = .ok (.invokevirtual 97, 3) := by decide +kernel
theorem dX8_ofThing_10 : decode cX8_ofThing 10 = .ok (.ifCond .ne 9, 3) := by decide +kernel
theorem dX8_ofThing_13 : decode cX8_ofThing 13 = .ok (.aload_n 0, 1) := by decide +kernel
theorem dX8_ofThing_14 : decode cX8_ofThing 14 = .ok (.iconst 1, 1) := by decide +kernel
theorem dX8_ofThing_15 : decode cX8_ofThing 15 = .ok (.invokevirtual 41, 3) := by decide +kernel
theorem dX8_ofThing_18 : decode cX8_ofThing 18 = .ok (.ireturn, 1) := by decide +kernel
theorem dX8_ofThing_19 : decode cX8_ofThing 19 = .ok (.iload_n 2, 1) := by decide +kernel
theorem dX8_ofThing_20 : decode cX8_ofThing 20 = .ok (.iconst 0, 1) := by decide +kernel
theorem dX8_ofThing_21 : decode cX8_ofThing 21 = .ok (.iconst 5, 1) := by decide +kernel
theorem dX8_ofThing_22 : decode cX8_ofThing 22 = .ok (.invokestatic 34, 3) := by decide +kernel
theorem dX8_ofThing_25 : decode cX8_ofThing 25 = .ok (.ifCond .eq 12, 3) := by decide +kernel
theorem dX8_ofThing_28 : decode cX8_ofThing 28 = .ok (.aload_n 0, 1) := by decide +kernel
theorem dX8_ofThing_29 : decode cX8_ofThing 29 = .ok (.iload_n 1, 1) := by decide +kernel
theorem dX8_ofThing_30 : decode cX8_ofThing 30 = .ok (.iload_n 2, 1) := by decide +kernel
theorem dX8_ofThing_31 : decode cX8_ofThing 31 = .ok (.invokevirtual 119, 3) := by decide +kernel
theorem dX8_ofThing_34 : decode cX8_ofThing 34 = .ok (.goto 8, 3) := by decide +kernel
theorem dX8_ofThing_37 : decode cX8_ofThing 37 = .ok (.aload_n 0, 1) := by decide +kernel
theorem dX8_ofThing_38 : decode cX8_ofThing 38 = .ok (.iconst 2, 1) := by decide +kernel
theorem dX8_ofThing_39 : decode cX8_ofThing 39 = .ok (.invokevirtual 41, 3) := by decide +kernel
theorem dX8_ofThing_42 : decode cX8_ofThing 42 = .ok (.ireturn, 1) := by decide +kernel
set_option maxRecDepth 20000 in
theorem ggX8_ofPlayer_Jx4a65c_size_8abf5 : GoodIn wsX8_ofPlayer wsJx4a65c_size_8abf5 := goodIn_r _ [8, 9, 53, 54, 55] (by decide +kernel) (by decide +kernel)
set_option maxRecDepth 20000 in
theorem gX8_ofPlayer_Jx4a65c_size_8abf5 : GoodIn wsX8_ofPlayer (wsV RX8 28 RJx4a65c yJx4a65c_size_8abf5 wsJx4a65c_size_8abf5) := goodIn_app (goodIn_of _ (by decide +kernel)) ggX8_ofPlayer_Jx4a65c_size_8abf5
set_option maxRecDepth 20000 in
theorem ggX8_ofPlayer_X8_is : GoodIn wsX8_ofPlayer wsX8_is := goodIn_r _ [13] (by decide +kernel) (by decide +kernel)
set_option maxRecDepth 20000 in
theorem gX8_ofPlayer_X8_is : GoodIn wsX8_ofPlayer (va_wsS RX8 34 yX8_is wsX8_is) := goodIn_app (goodIn_of _ (by decide +kernel)) ggX8_ofPlayer_X8_is
set_option maxRecDepth 20000 in
theorem ggX8_ofPlayer_X8_refuse : GoodIn wsX8_ofPlayer wsX8_refuse := goodIn_r _ [17, 1, 35, 36, 37, 38] (by decide +kernel) (by decide +kernel)
set_option maxRecDepth 20000 in
theorem gX8_ofPlayer_X8_refuse : GoodIn wsX8_ofPlayer (wsV RX8 41 RX8 yX8_refuse wsX8_refuse) := goodIn_app (goodIn_of _ (by decide +kernel)) ggX8_ofPlayer_X8_refuse
set_option maxRecDepth 20000 in
theorem ggX8_ofPlayer_Jx4a65c_get_915e3 : GoodIn wsX8_ofPlayer wsJx4a65c_get_915e3 := goodIn_r _ [21, 9, 22, 23, 24, 25, 26, 27, 28, 29, 30, 31, 32, 7, 33, 34, 53, 54, 55] (by decide +kernel) (by decide +kernel)
set_option maxRecDepth 20000 in
theorem gX8_ofPlayer_Jx4a65c_get_915e3 : GoodIn wsX8_ofPlayer (wsV RX8 84 RJx4a65c yJx4a65c_get_915e3 wsJx4a65c_get_915e3) := goodIn_app (goodIn_of _ (by decide +kernel)) ggX8_ofPlayer_Jx4a65c_get_915e3
theorem dX8_ofPlayer_0 : decode cX8_ofPlayer 0 = .ok (.aload_n 0, 1) := by decide +kernel
theorem dX8_ofPlayer_1 : decode cX8_ofPlayer 1 = .ok (.iconst 0, 1) := by decide +kernel
theorem dX8_ofPlayer_2 : decode cX8_ofPlayer 2 = .ok (.putfield 20, 3) := by decide +kernel
theorem dX8_ofPlayer_5 : decode cX8_ofPlayer 5 = .ok (.iload_n 1, 1) := by decide +kernel
theorem dX8_ofPlayer_6 : decode cX8_ofPlayer 6 = .ok (.iconst 0, 1) := by decide +kernel
theorem dX8_ofPlayer_7 : decode cX8_ofPlayer 7 = .ok (.aload_n 0, 1) := by decide +kernel
theorem dX8_ofPlayer_8 : decode cX8_ofPlayer 8 = .ok (.getfield 10, 3) := by decide +kernel
theorem dX8_ofPlayer_11 : decode cX8_ofPlayer 11 = .ok (.getfield 59, 3) := by decide +kernel
theorem dX8_ofPlayer_14 : decode cX8_ofPlayer 14 = .ok (.invokevirtual 28, 3) := by decide +kernel
theorem dX8_ofPlayer_17 : decode cX8_ofPlayer 17 = .ok (.iconst 1, 1) := by decide +kernel
theorem dX8_ofPlayer_18 : decode cX8_ofPlayer 18 = .ok (.isub, 1) := by decide +kernel
theorem dX8_ofPlayer_19 : decode cX8_ofPlayer 19 = .ok (.invokestatic 34, 3) := by decide +kernel
theorem dX8_ofPlayer_22 : decode cX8_ofPlayer 22 = .ok (.ifCond .ne 9, 3) := by decide +kernel
theorem dX8_ofPlayer_25 : decode cX8_ofPlayer 25 = .ok (.aload_n 0, 1) := by decide +kernel
theorem dX8_ofPlayer_26 : decode cX8_ofPlayer 26 = .ok (.iconst 1, 1) := by decide +kernel
theorem dX8_ofPlayer_27 : decode cX8_ofPlayer 27 = .ok (.invokevirtual 41, 3) := by decide +kernel
theorem dX8_ofPlayer_30 : decode cX8_ofPlayer 30 = .ok (.ireturn, 1) := by decide +kernel
theorem dX8_ofPlayer_31 : decode cX8_ofPlayer 31 = .ok (.iload_n 2, 1) := by decide +kernel
theorem dX8_ofPlayer_32 : decode cX8_ofPlayer 32 = .ok (.iconst 0, 1) := by decide +kernel
theorem dX8_ofPlayer_33 : decode cX8_ofPlayer 33 = .ok (.iconst 3, 1) := by decide +kernel
theorem dX8_ofPlayer_34 : decode cX8_ofPlayer 34 = .ok (.invokestatic 34, 3) := by decide +kernel
theorem dX8_ofPlayer_37 : decode cX8_ofPlayer 37 = .ok (.ifCond .eq 22, 3) := by decide +kernel
theorem dX8_ofPlayer_40 : decode cX8_ofPlayer 40 = .ok (.aload_n 0, 1) := by decide +kernel
theorem dX8_ofPlayer_41 : decode cX8_ofPlayer 41 = .ok (.getfield 10, 3) := by decide +kernel
theorem dX8_ofPlayer_44 : decode cX8_ofPlayer 44 = .ok (.getfield 59, 3) := by decide +kernel
theorem dX8_ofPlayer_47 : decode cX8_ofPlayer 47 = .ok (.iload_n 1, 1) := by decide +kernel
theorem dX8_ofPlayer_48 : decode cX8_ofPlayer 48 = .ok (.invokevirtual 84, 3) := by decide +kernel
theorem dX8_ofPlayer_51 : decode cX8_ofPlayer 51 = .ok (.checkcast 88, 3) := by decide +kernel
theorem dX8_ofPlayer_54 : decode cX8_ofPlayer 54 = .ok (.iload_n 2, 1) := by decide +kernel
theorem dX8_ofPlayer_55 : decode cX8_ofPlayer 55 = .ok (.iaload, 1) := by decide +kernel
theorem dX8_ofPlayer_56 : decode cX8_ofPlayer 56 = .ok (.goto 8, 3) := by decide +kernel
theorem dX8_ofPlayer_59 : decode cX8_ofPlayer 59 = .ok (.aload_n 0, 1) := by decide +kernel
theorem dX8_ofPlayer_60 : decode cX8_ofPlayer 60 = .ok (.iconst 2, 1) := by decide +kernel
theorem dX8_ofPlayer_61 : decode cX8_ofPlayer 61 = .ok (.invokevirtual 41, 3) := by decide +kernel
theorem dX8_ofPlayer_64 : decode cX8_ofPlayer 64 = .ok (.ireturn, 1) := by decide +kernel
set_option maxRecDepth 20000 in
theorem ggX8_manyNow_Jx4a65c_size_8abf5 : GoodIn wsX8_manyNow wsJx4a65c_size_8abf5 := goodIn_r _ [8, 9, 67, 68, 69] (by decide +kernel) (by decide +kernel)
set_option maxRecDepth 20000 in
theorem gX8_manyNow_Jx4a65c_size_8abf5 : GoodIn wsX8_manyNow (wsV RX8 28 RJx4a65c yJx4a65c_size_8abf5 wsJx4a65c_size_8abf5) := goodIn_app (goodIn_of _ (by decide +kernel)) ggX8_manyNow_Jx4a65c_size_8abf5
set_option maxRecDepth 20000 in
theorem ggX8_manyNow_X7_opened : GoodIn wsX8_manyNow wsX7_opened := goodIn_r _ [14, 15, 16, 17, 5, 6, 7, 8, 9, 18, 19, 20, 21, 22, 23, 24, 25, 26, 27, 28, 29, 30, 31, 32, 33, 34, 53, 54, 55, 56, 57, 58, 59, 60, 61, 62, 63, 64, 65, 66, 67, 68, 69] (by decide +kernel) (by decide +kernel)
set_option maxRecDepth 20000 in
theorem gX8_manyNow_X7_opened : GoodIn wsX8_manyNow (wsV RX8 131 RX7 yX7_opened wsX7_opened) := goodIn_app (goodIn_of _ (by decide +kernel)) ggX8_manyNow_X7_opened
set_option maxRecDepth 20000 in
theorem ggX8_manyNow_X7_ready : GoodIn wsX8_manyNow wsX7_ready := goodIn_r _ [38, 15, 17, 5, 6, 7, 8, 9, 39, 40, 41, 13, 42, 16, 18, 19, 20, 21, 22, 23, 24, 25, 26, 27, 28, 29, 30, 31, 32, 33, 34, 43, 44, 45, 46, 47, 53, 54, 55, 56, 57, 58, 59, 60, 61, 62, 63, 64, 65, 66, 67, 68, 69] (by decide +kernel) (by decide +kernel)
set_option maxRecDepth 20000 in
theorem gX8_manyNow_X7_ready : GoodIn wsX8_manyNow (wsV RX8 134 RX7 yX7_ready wsX7_ready) := goodIn_app (goodIn_of _ (by decide +kernel)) ggX8_manyNow_X7_ready
set_option maxRecDepth 20000 in
theorem ggX8_manyNow_X7_inState : GoodIn wsX8_manyNow wsX7_inState := goodIn_r _ [46, 47, 16, 17, 5, 6, 7, 8, 9, 18, 19, 20, 21, 22, 23, 24, 25, 26, 27, 28, 29, 30, 31, 32, 33, 34, 53, 54, 55, 56, 57, 58, 59, 60, 61, 62, 63, 64, 65, 66, 67, 68, 69] (by decide +kernel) (by decide +kernel)
set_option maxRecDepth 20000 in
theorem gX8_manyNow_X7_inState : GoodIn wsX8_manyNow (wsV RX8 100 RX7 yX7_inState wsX7_inState) := goodIn_app (goodIn_of _ (by decide +kernel)) ggX8_manyNow_X7_inState
theorem dX8_manyNow_0 : decode cX8_manyNow 0 = .ok (.bipush 19, 2) := by decide +kernel
theorem dX8_manyNow_2 : decode cX8_manyNow 2 = .ok (.newarray .int, 2) := by decide +kernel
theorem dX8_manyNow_4 : decode cX8_manyNow 4 = .ok (.dup, 1) := by decide +kernel
theorem dX8_manyNow_5 : decode cX8_manyNow 5 = .ok (.iconst 0, 1) := by decide +kernel
theorem dX8_manyNow_6 : decode cX8_manyNow 6 = .ok (.aload_n 0, 1) := by decide +kernel
theorem dX8_manyNow_7 : decode cX8_manyNow 7 = .ok (.getfield 10, 3) := by decide +kernel
theorem dX8_manyNow_10 : decode cX8_manyNow 10 = .ok (.getfield 78, 3) := by decide +kernel
theorem dX8_manyNow_13 : decode cX8_manyNow 13 = .ok (.iastore, 1) := by decide +kernel
theorem dX8_manyNow_14 : decode cX8_manyNow 14 = .ok (.dup, 1) := by decide +kernel
theorem dX8_manyNow_15 : decode cX8_manyNow 15 = .ok (.iconst 1, 1) := by decide +kernel
theorem dX8_manyNow_16 : decode cX8_manyNow 16 = .ok (.aload_n 0, 1) := by decide +kernel
theorem dX8_manyNow_17 : decode cX8_manyNow 17 = .ok (.getfield 10, 3) := by decide +kernel
theorem dX8_manyNow_20 : decode cX8_manyNow 20 = .ok (.getfield 24, 3) := by decide +kernel
theorem dX8_manyNow_23 : decode cX8_manyNow 23 = .ok (.invokevirtual 28, 3) := by decide +kernel
theorem dX8_manyNow_26 : decode cX8_manyNow 26 = .ok (.iastore, 1) := by decide +kernel
theorem dX8_manyNow_27 : decode cX8_manyNow 27 = .ok (.dup, 1) := by decide +kernel
theorem dX8_manyNow_28 : decode cX8_manyNow 28 = .ok (.iconst 2, 1) := by decide +kernel
theorem dX8_manyNow_29 : decode cX8_manyNow 29 = .ok (.aload_n 0, 1) := by decide +kernel
theorem dX8_manyNow_30 : decode cX8_manyNow 30 = .ok (.getfield 10, 3) := by decide +kernel
theorem dX8_manyNow_33 : decode cX8_manyNow 33 = .ok (.getfield 38, 3) := by decide +kernel
theorem dX8_manyNow_36 : decode cX8_manyNow 36 = .ok (.invokevirtual 28, 3) := by decide +kernel
theorem dX8_manyNow_39 : decode cX8_manyNow 39 = .ok (.iastore, 1) := by decide +kernel
theorem dX8_manyNow_40 : decode cX8_manyNow 40 = .ok (.dup, 1) := by decide +kernel
theorem dX8_manyNow_41 : decode cX8_manyNow 41 = .ok (.iconst 3, 1) := by decide +kernel
theorem dX8_manyNow_42 : decode cX8_manyNow 42 = .ok (.aload_n 0, 1) := by decide +kernel
theorem dX8_manyNow_43 : decode cX8_manyNow 43 = .ok (.getfield 10, 3) := by decide +kernel
theorem dX8_manyNow_46 : decode cX8_manyNow 46 = .ok (.getfield 59, 3) := by decide +kernel
theorem dX8_manyNow_49 : decode cX8_manyNow 49 = .ok (.invokevirtual 28, 3) := by decide +kernel
theorem dX8_manyNow_52 : decode cX8_manyNow 52 = .ok (.iastore, 1) := by decide +kernel
theorem dX8_manyNow_53 : decode cX8_manyNow 53 = .ok (.dup, 1) := by decide +kernel
theorem dX8_manyNow_54 : decode cX8_manyNow 54 = .ok (.iconst 4, 1) := by decide +kernel
theorem dX8_manyNow_55 : decode cX8_manyNow 55 = .ok (.aload_n 0, 1) := by decide +kernel
theorem dX8_manyNow_56 : decode cX8_manyNow 56 = .ok (.getfield 10, 3) := by decide +kernel
theorem dX8_manyNow_59 : decode cX8_manyNow 59 = .ok (.getfield 45, 3) := by decide +kernel
theorem dX8_manyNow_62 : decode cX8_manyNow 62 = .ok (.ifCond .eq 7, 3) := by decide +kernel
theorem dX8_manyNow_65 : decode cX8_manyNow 65 = .ok (.iconst 1, 1) := by decide +kernel
theorem dX8_manyNow_66 : decode cX8_manyNow 66 = .ok (.goto 4, 3) := by decide +kernel
theorem dX8_manyNow_69 : decode cX8_manyNow 69 = .ok (.iconst 0, 1) := by decide +kernel
theorem dX8_manyNow_70 : decode cX8_manyNow 70 = .ok (.iastore, 1) := by decide +kernel
theorem dX8_manyNow_71 : decode cX8_manyNow 71 = .ok (.dup, 1) := by decide +kernel
theorem dX8_manyNow_72 : decode cX8_manyNow 72 = .ok (.iconst 5, 1) := by decide +kernel
theorem dX8_manyNow_73 : decode cX8_manyNow 73 = .ok (.aload_n 0, 1) := by decide +kernel
theorem dX8_manyNow_74 : decode cX8_manyNow 74 = .ok (.getfield 10, 3) := by decide +kernel
theorem dX8_manyNow_77 : decode cX8_manyNow 77 = .ok (.getfield 69, 3) := by decide +kernel
theorem dX8_manyNow_80 : decode cX8_manyNow 80 = .ok (.iastore, 1) := by decide +kernel
theorem dX8_manyNow_81 : decode cX8_manyNow 81 = .ok (.dup, 1) := by decide +kernel
theorem dX8_manyNow_82 : decode cX8_manyNow 82 = .ok (.bipush 6, 2) := by decide +kernel
theorem dX8_manyNow_84 : decode cX8_manyNow 84 = .ok (.aload_n 0, 1) := by decide +kernel
theorem dX8_manyNow_85 : decode cX8_manyNow 85 = .ok (.getfield 10, 3) := by decide +kernel
theorem dX8_manyNow_88 : decode cX8_manyNow 88 = .ok (.getfield 122, 3) := by decide +kernel
theorem dX8_manyNow_91 : decode cX8_manyNow 91 = .ok (.iastore, 1) := by decide +kernel
theorem dX8_manyNow_92 : decode cX8_manyNow 92 = .ok (.dup, 1) := by decide +kernel
theorem dX8_manyNow_93 : decode cX8_manyNow 93 = .ok (.bipush 7, 2) := by decide +kernel
theorem dX8_manyNow_95 : decode cX8_manyNow 95 = .ok (.aload_n 0, 1) := by decide +kernel
theorem dX8_manyNow_96 : decode cX8_manyNow 96 = .ok (.getfield 10, 3) := by decide +kernel
theorem dX8_manyNow_99 : decode cX8_manyNow 99 = .ok (.getfield 125, 3) := by decide +kernel
theorem dX8_manyNow_102 : decode cX8_manyNow 102 = .ok (.iastore, 1) := by decide +kernel
theorem dX8_manyNow_103 : decode cX8_manyNow 103 = .ok (.dup, 1) := by decide +kernel
theorem dX8_manyNow_104 : decode cX8_manyNow 104 = .ok (.bipush 8, 2) := by decide +kernel
theorem dX8_manyNow_106 : decode cX8_manyNow 106 = .ok (.aload_n 0, 1) := by decide +kernel
theorem dX8_manyNow_107 : decode cX8_manyNow 107 = .ok (.getfield 10, 3) := by decide +kernel
theorem dX8_manyNow_110 : decode cX8_manyNow 110 = .ok (.getfield 128, 3) := by decide +kernel
theorem dX8_manyNow_113 : decode cX8_manyNow 113 = .ok (.iastore, 1) := by decide +kernel
theorem dX8_manyNow_114 : decode cX8_manyNow 114 = .ok (.dup, 1) := by decide +kernel
theorem dX8_manyNow_115 : decode cX8_manyNow 115 = .ok (.bipush 9, 2) := by decide +kernel
theorem dX8_manyNow_117 : decode cX8_manyNow 117 = .ok (.aload_n 0, 1) := by decide +kernel
theorem dX8_manyNow_118 : decode cX8_manyNow 118 = .ok (.getfield 10, 3) := by decide +kernel
theorem dX8_manyNow_121 : decode cX8_manyNow 121 = .ok (.getfield 75, 3) := by decide +kernel
theorem dX8_manyNow_124 : decode cX8_manyNow 124 = .ok (.iastore, 1) := by decide +kernel
theorem dX8_manyNow_125 : decode cX8_manyNow 125 = .ok (.dup, 1) := by decide +kernel
theorem dX8_manyNow_126 : decode cX8_manyNow 126 = .ok (.bipush 10, 2) := by decide +kernel
theorem dX8_manyNow_128 : decode cX8_manyNow 128 = .ok (.aload_n 0, 1) := by decide +kernel
theorem dX8_manyNow_129 : decode cX8_manyNow 129 = .ok (.getfield 10, 3) := by decide +kernel
theorem dX8_manyNow_132 : decode cX8_manyNow 132 = .ok (.getfield 72, 3) := by decide +kernel
theorem dX8_manyNow_135 : decode cX8_manyNow 135 = .ok (.iastore, 1) := by decide +kernel
theorem dX8_manyNow_136 : decode cX8_manyNow 136 = .ok (.dup, 1) := by decide +kernel
theorem dX8_manyNow_137 : decode cX8_manyNow 137 = .ok (.bipush 11, 2) := by decide +kernel
theorem dX8_manyNow_139 : decode cX8_manyNow 139 = .ok (.aload_n 0, 1) := by decide +kernel
theorem dX8_manyNow_140 : decode cX8_manyNow 140 = .ok (.getfield 10, 3) := by decide +kernel
theorem dX8_manyNow_143 : decode cX8_manyNow 143 = .ok (.getfield 52, 3) := by decide +kernel
theorem dX8_manyNow_146 : decode cX8_manyNow 146 = .ok (.iastore, 1) := by decide +kernel
theorem dX8_manyNow_147 : decode cX8_manyNow 147 = .ok (.dup, 1) := by decide +kernel
theorem dX8_manyNow_148 : decode cX8_manyNow 148 = .ok (.bipush 12, 2) := by decide +kernel
theorem dX8_manyNow_150 : decode cX8_manyNow 150 = .ok (.aload_n 0, 1) := by decide +kernel
theorem dX8_manyNow_151 : decode cX8_manyNow 151 = .ok (.getfield 10, 3) := by decide +kernel
theorem dX8_manyNow_154 : decode cX8_manyNow 154 = .ok (.invokevirtual 131, 3) := by decide +kernel
theorem dX8_manyNow_157 : decode cX8_manyNow 157 = .ok (.iastore, 1) := by decide +kernel
theorem dX8_manyNow_158 : decode cX8_manyNow 158 = .ok (.dup, 1) := by decide +kernel
theorem dX8_manyNow_159 : decode cX8_manyNow 159 = .ok (.bipush 13, 2) := by decide +kernel
theorem dX8_manyNow_161 : decode cX8_manyNow 161 = .ok (.aload_n 0, 1) := by decide +kernel
theorem dX8_manyNow_162 : decode cX8_manyNow 162 = .ok (.getfield 10, 3) := by decide +kernel
theorem dX8_manyNow_165 : decode cX8_manyNow 165 = .ok (.invokevirtual 134, 3) := by decide +kernel
theorem dX8_manyNow_168 : decode cX8_manyNow 168 = .ok (.iastore, 1) := by decide +kernel
theorem dX8_manyNow_169 : decode cX8_manyNow 169 = .ok (.dup, 1) := by decide +kernel
theorem dX8_manyNow_170 : decode cX8_manyNow 170 = .ok (.bipush 14, 2) := by decide +kernel
theorem dX8_manyNow_172 : decode cX8_manyNow 172 = .ok (.aload_n 0, 1) := by decide +kernel
theorem dX8_manyNow_173 : decode cX8_manyNow 173 = .ok (.getfield 10, 3) := by decide +kernel
theorem dX8_manyNow_176 : decode cX8_manyNow 176 = .ok (.iconst 1, 1) := by decide +kernel
theorem dX8_manyNow_177 : decode cX8_manyNow 177 = .ok (.invokevirtual 100, 3) := by decide +kernel
theorem dX8_manyNow_180 : decode cX8_manyNow 180 = .ok (.iastore, 1) := by decide +kernel
theorem dX8_manyNow_181 : decode cX8_manyNow 181 = .ok (.dup, 1) := by decide +kernel
theorem dX8_manyNow_182 : decode cX8_manyNow 182 = .ok (.bipush 15, 2) := by decide +kernel
theorem dX8_manyNow_184 : decode cX8_manyNow 184 = .ok (.aload_n 0, 1) := by decide +kernel
theorem dX8_manyNow_185 : decode cX8_manyNow 185 = .ok (.getfield 10, 3) := by decide +kernel
theorem dX8_manyNow_188 : decode cX8_manyNow 188 = .ok (.iconst 2, 1) := by decide +kernel
theorem dX8_manyNow_189 : decode cX8_manyNow 189 = .ok (.invokevirtual 100, 3) := by decide +kernel
theorem dX8_manyNow_192 : decode cX8_manyNow 192 = .ok (.iastore, 1) := by decide +kernel
theorem dX8_manyNow_193 : decode cX8_manyNow 193 = .ok (.dup, 1) := by decide +kernel
theorem dX8_manyNow_194 : decode cX8_manyNow 194 = .ok (.bipush 16, 2) := by decide +kernel
theorem dX8_manyNow_196 : decode cX8_manyNow 196 = .ok (.aload_n 0, 1) := by decide +kernel
theorem dX8_manyNow_197 : decode cX8_manyNow 197 = .ok (.getfield 10, 3) := by decide +kernel
theorem dX8_manyNow_200 : decode cX8_manyNow 200 = .ok (.iconst 3, 1) := by decide +kernel
theorem dX8_manyNow_201 : decode cX8_manyNow 201 = .ok (.invokevirtual 100, 3) := by decide +kernel
theorem dX8_manyNow_204 : decode cX8_manyNow 204 = .ok (.iastore, 1) := by decide +kernel
theorem dX8_manyNow_205 : decode cX8_manyNow 205 = .ok (.dup, 1) := by decide +kernel
theorem dX8_manyNow_206 : decode cX8_manyNow 206 = .ok (.bipush 17, 2) := by decide +kernel
theorem dX8_manyNow_208 : decode cX8_manyNow 208 = .ok (.aload_n 0, 1) := by decide +kernel
theorem dX8_manyNow_209 : decode cX8_manyNow 209 = .ok (.getfield 16, 3) := by decide +kernel
theorem dX8_manyNow_212 : decode cX8_manyNow 212 = .ok (.ifCond .eq 7, 3) := by decide +kernel
theorem dX8_manyNow_215 : decode cX8_manyNow 215 = .ok (.iconst 1, 1) := by decide +kernel
theorem dX8_manyNow_216 : decode cX8_manyNow 216 = .ok (.goto 4, 3) := by decide +kernel
theorem dX8_manyNow_219 : decode cX8_manyNow 219 = .ok (.iconst 0, 1) := by decide +kernel
theorem dX8_manyNow_220 : decode cX8_manyNow 220 = .ok (.iastore, 1) := by decide +kernel
theorem dX8_manyNow_221 : decode cX8_manyNow 221 = .ok (.dup, 1) := by decide +kernel
theorem dX8_manyNow_222 : decode cX8_manyNow 222 = .ok (.bipush 18, 2) := by decide +kernel
theorem dX8_manyNow_224 : decode cX8_manyNow 224 = .ok (.aload_n 0, 1) := by decide +kernel
theorem dX8_manyNow_225 : decode cX8_manyNow 225 = .ok (.getfield 10, 3) := by decide +kernel
theorem dX8_manyNow_228 : decode cX8_manyNow 228 = .ok (.getfield 137, 3) := by decide +kernel
theorem dX8_manyNow_231 : decode cX8_manyNow 231 = .ok (.iastore, 1) := by decide +kernel
theorem dX8_manyNow_232 : decode cX8_manyNow 232 = .ok (.astore_n 2, 1) := by decide +kernel
theorem dX8_manyNow_233 : decode cX8_manyNow 233 = .ok (.aload_n 2, 1) := by decide +kernel
theorem dX8_manyNow_234 : decode cX8_manyNow 234 = .ok (.iload_n 1, 1) := by decide +kernel
theorem dX8_manyNow_235 : decode cX8_manyNow 235 = .ok (.iaload, 1) := by decide +kernel
theorem dX8_manyNow_236 : decode cX8_manyNow 236 = .ok (.ireturn, 1) := by decide +kernel
set_option maxRecDepth 20000 in
theorem ggX8_many_X8_is : GoodIn wsX8_many wsX8_is := goodIn_r _ [5] (by decide +kernel) (by decide +kernel)
set_option maxRecDepth 20000 in
theorem gX8_many_X8_is : GoodIn wsX8_many (va_wsS RX8 34 yX8_is wsX8_is) := goodIn_app (goodIn_of _ (by decide +kernel)) ggX8_many_X8_is
set_option maxRecDepth 20000 in
theorem ggX8_many_X8_manyNow : GoodIn wsX8_many wsX8_manyNow := goodIn_r _ [9, 10, 11, 12, 13, 14, 15, 16, 17, 18, 19, 20, 21, 22, 23, 24, 25, 26, 27, 28, 29, 30, 31, 32, 33, 34, 35, 36, 37, 38, 39, 40, 41, 42, 43, 44, 45, 46, 47, 48, 49, 50, 51, 52, 53, 54, 55, 56, 57, 62, 63, 64, 65, 66, 67, 68, 69, 70, 71, 72, 73, 74, 75, 76, 77, 78, 79, 80, 81, 82] (by decide +kernel) (by decide +kernel)
set_option maxRecDepth 20000 in
theorem gX8_many_X8_manyNow : GoodIn wsX8_many (wsV RX8 140 RX8 yX8_manyNow wsX8_manyNow) := goodIn_app (goodIn_of _ (by decide +kernel)) ggX8_many_X8_manyNow
set_option maxRecDepth 20000 in
theorem ggX8_many_X8_refuse : GoodIn wsX8_many wsX8_refuse := goodIn_r _ [61, 1, 62, 63, 64, 65] (by decide +kernel) (by decide +kernel)
set_option maxRecDepth 20000 in
theorem gX8_many_X8_refuse : GoodIn wsX8_many (wsV RX8 41 RX8 yX8_refuse wsX8_refuse) := goodIn_app (goodIn_of _ (by decide +kernel)) ggX8_many_X8_refuse
theorem dX8_many_0 : decode cX8_many 0 = .ok (.aload_n 0, 1) := by decide +kernel
theorem dX8_many_1 : decode cX8_many 1 = .ok (.iconst 0, 1) := by decide +kernel
theorem dX8_many_2 : decode cX8_many 2 = .ok (.putfield 20, 3) := by decide +kernel
theorem dX8_many_5 : decode cX8_many 5 = .ok (.iload_n 1, 1) := by decide +kernel
theorem dX8_many_6 : decode cX8_many 6 = .ok (.iconst 0, 1) := by decide +kernel
theorem dX8_many_7 : decode cX8_many 7 = .ok (.bipush 18, 2) := by decide +kernel
theorem dX8_many_9 : decode cX8_many 9 = .ok (.invokestatic 34, 3) := by decide +kernel
theorem dX8_many_12 : decode cX8_many 12 = .ok (.ifCond .eq 11, 3) := by decide +kernel
theorem dX8_many_15 : decode cX8_many 15 = .ok (.aload_n 0, 1) := by decide +kernel
theorem dX8_many_16 : decode cX8_many 16 = .ok (.iload_n 1, 1) := by decide +kernel
theorem dX8_many_17 : decode cX8_many 17 = .ok (.invokevirtual 140, 3) := by decide +kernel
theorem dX8_many_20 : decode cX8_many 20 = .ok (.goto 8, 3) := by decide +kernel
theorem dX8_many_23 : decode cX8_many 23 = .ok (.aload_n 0, 1) := by decide +kernel
theorem dX8_many_24 : decode cX8_many 24 = .ok (.iconst 1, 1) := by decide +kernel
theorem dX8_many_25 : decode cX8_many 25 = .ok (.invokevirtual 41, 3) := by decide +kernel
theorem dX8_many_28 : decode cX8_many 28 = .ok (.ireturn, 1) := by decide +kernel
theorem dX8_meanScore_0 : decode cX8_meanScore 0 = .ok (.aload_n 0, 1) := by decide +kernel
theorem dX8_meanScore_1 : decode cX8_meanScore 1 = .ok (.iconst 0, 1) := by decide +kernel
theorem dX8_meanScore_2 : decode cX8_meanScore 2 = .ok (.putfield 20, 3) := by decide +kernel
theorem dX8_meanScore_5 : decode cX8_meanScore 5 = .ok (.aload_n 0, 1) := by decide +kernel
theorem dX8_meanScore_6 : decode cX8_meanScore 6 = .ok (.getfield 10, 3) := by decide +kernel
theorem dX8_meanScore_9 : decode cX8_meanScore 9 = .ok (.getfield 122, 3) := by decide +kernel
theorem dX8_meanScore_12 : decode cX8_meanScore 12 = .ok (.ifCond .ne 7, 3) := by decide +kernel
theorem dX8_meanScore_15 : decode cX8_meanScore 15 = .ok (.dconst 0, 1) := by decide +kernel
theorem dX8_meanScore_16 : decode cX8_meanScore 16 = .ok (.goto 20, 3) := by decide +kernel
theorem dX8_meanScore_19 : decode cX8_meanScore 19 = .ok (.aload_n 0, 1) := by decide +kernel
theorem dX8_meanScore_20 : decode cX8_meanScore 20 = .ok (.getfield 10, 3) := by decide +kernel
theorem dX8_meanScore_23 : decode cX8_meanScore 23 = .ok (.getfield 143, 3) := by decide +kernel
theorem dX8_meanScore_26 : decode cX8_meanScore 26 = .ok (.i2d, 1) := by decide +kernel
theorem dX8_meanScore_27 : decode cX8_meanScore 27 = .ok (.aload_n 0, 1) := by decide +kernel
theorem dX8_meanScore_28 : decode cX8_meanScore 28 = .ok (.getfield 10, 3) := by decide +kernel
theorem dX8_meanScore_31 : decode cX8_meanScore 31 = .ok (.getfield 122, 3) := by decide +kernel
theorem dX8_meanScore_34 : decode cX8_meanScore 34 = .ok (.i2d, 1) := by decide +kernel
theorem dX8_meanScore_35 : decode cX8_meanScore 35 = .ok (.ddiv, 1) := by decide +kernel
theorem dX8_meanScore_36 : decode cX8_meanScore 36 = .ok (.dreturn, 1) := by decide +kernel
set_option maxRecDepth 20000 in
theorem ggX8_canEnd_X7_depth_ : GoodIn wsX8_canEnd wsX7_depth_ := goodIn_r _ [7, 8, 9, 10, 6, 11, 12, 13, 14, 15, 16, 17, 18, 19, 20, 21, 22, 23, 24, 25, 26, 27, 28, 29, 30, 31, 32, 33, 34, 35, 36, 37, 38, 39, 40, 41, 42, 43, 44, 45, 46, 47, 48, 49, 50, 51, 52, 53, 54, 55, 56, 57, 58, 59, 64, 65, 66, 67, 68, 69, 70, 71, 72, 73, 74, 75, 76, 77, 78, 79, 80] (by decide +kernel) (by decide +kernel)
set_option maxRecDepth 20000 in
theorem gX8_canEnd_X7_depth_ : GoodIn wsX8_canEnd (wsV RX8 146 RX7 yX7_depth_ wsX7_depth_) := goodIn_app (goodIn_of _ (by decide +kernel)) ggX8_canEnd_X7_depth_
theorem dX8_canEnd_0 : decode cX8_canEnd 0 = .ok (.aload_n 0, 1) := by decide +kernel
theorem dX8_canEnd_1 : decode cX8_canEnd 1 = .ok (.iconst 0, 1) := by decide +kernel
theorem dX8_canEnd_2 : decode cX8_canEnd 2 = .ok (.putfield 20, 3) := by decide +kernel
theorem dX8_canEnd_5 : decode cX8_canEnd 5 = .ok (.aload_n 0, 1) := by decide +kernel
theorem dX8_canEnd_6 : decode cX8_canEnd 6 = .ok (.getfield 10, 3) := by decide +kernel
theorem dX8_canEnd_9 : decode cX8_canEnd 9 = .ok (.invokevirtual 146, 3) := by decide +kernel
theorem dX8_canEnd_12 : decode cX8_canEnd 12 = .ok (.iconst (-1), 1) := by decide +kernel
theorem dX8_canEnd_13 : decode cX8_canEnd 13 = .ok (.if_icmp .eq 7, 3) := by decide +kernel
theorem dX8_canEnd_16 : decode cX8_canEnd 16 = .ok (.iconst 1, 1) := by decide +kernel
theorem dX8_canEnd_17 : decode cX8_canEnd 17 = .ok (.goto 4, 3) := by decide +kernel
theorem dX8_canEnd_20 : decode cX8_canEnd 20 = .ok (.iconst 0, 1) := by decide +kernel
theorem dX8_canEnd_21 : decode cX8_canEnd 21 = .ok (.ireturn, 1) := by decide +kernel
set_option maxRecDepth 20000 in
theorem ggX8_stands_X7_stands : GoodIn wsX8_stands wsX7_stands := goodIn_r _ [7, 8, 9, 10, 6, 11, 12, 13, 14, 15, 16, 17, 18, 19, 20, 21, 22, 23, 24, 25, 26, 27, 28, 29, 30, 31, 32, 33, 34, 35, 36, 37, 38, 39, 40, 41, 42, 43, 44, 45, 46, 47, 48, 49, 50, 55, 56, 57, 58, 59, 60, 61, 62, 63, 64, 65, 66, 67, 68, 69, 70, 71] (by decide +kernel) (by decide +kernel)
set_option maxRecDepth 20000 in
theorem gX8_stands_X7_stands : GoodIn wsX8_stands (wsV RX8 149 RX7 yX7_stands wsX7_stands) := goodIn_app (goodIn_of _ (by decide +kernel)) ggX8_stands_X7_stands
theorem dX8_stands_0 : decode cX8_stands 0 = .ok (.aload_n 0, 1) := by decide +kernel
theorem dX8_stands_1 : decode cX8_stands 1 = .ok (.iconst 0, 1) := by decide +kernel
theorem dX8_stands_2 : decode cX8_stands 2 = .ok (.putfield 20, 3) := by decide +kernel
theorem dX8_stands_5 : decode cX8_stands 5 = .ok (.aload_n 0, 1) := by decide +kernel
theorem dX8_stands_6 : decode cX8_stands 6 = .ok (.getfield 10, 3) := by decide +kernel
theorem dX8_stands_9 : decode cX8_stands 9 = .ok (.invokevirtual 149, 3) := by decide +kernel
theorem dX8_stands_12 : decode cX8_stands 12 = .ok (.ireturn, 1) := by decide +kernel
set_option maxRecDepth 20000 in
theorem ggX8_deadEnds_X7_deadEnds : GoodIn wsX8_deadEnds wsX7_deadEnds := goodIn_r _ [7, 8, 9, 10, 11, 6, 12, 13, 14, 15, 16, 17, 18, 19, 20, 21, 22, 23, 24, 25, 26, 27, 28, 29, 30, 31, 32, 33, 34, 35, 36, 37, 38, 39, 40, 41, 42, 43, 44, 45, 46, 47, 48, 49, 50, 51, 52, 53, 54, 55, 56, 61, 62, 63, 64, 65, 66, 67, 68, 69, 70, 71, 72, 73, 74, 75, 76, 77] (by decide +kernel) (by decide +kernel)
set_option maxRecDepth 20000 in
theorem gX8_deadEnds_X7_deadEnds : GoodIn wsX8_deadEnds (wsV RX8 152 RX7 yX7_deadEnds wsX7_deadEnds) := goodIn_app (goodIn_of _ (by decide +kernel)) ggX8_deadEnds_X7_deadEnds
theorem dX8_deadEnds_0 : decode cX8_deadEnds 0 = .ok (.aload_n 0, 1) := by decide +kernel
theorem dX8_deadEnds_1 : decode cX8_deadEnds 1 = .ok (.iconst 0, 1) := by decide +kernel
theorem dX8_deadEnds_2 : decode cX8_deadEnds 2 = .ok (.putfield 20, 3) := by decide +kernel
theorem dX8_deadEnds_5 : decode cX8_deadEnds 5 = .ok (.aload_n 0, 1) := by decide +kernel
theorem dX8_deadEnds_6 : decode cX8_deadEnds 6 = .ok (.getfield 10, 3) := by decide +kernel
theorem dX8_deadEnds_9 : decode cX8_deadEnds 9 = .ok (.invokevirtual 152, 3) := by decide +kernel
theorem dX8_deadEnds_12 : decode cX8_deadEnds 12 = .ok (.ireturn, 1) := by decide +kernel
set_option maxRecDepth 20000 in
theorem ggX8_depth_X7_depth_ : GoodIn wsX8_depth wsX7_depth_ := goodIn_r _ [7, 8, 9, 10, 6, 11, 12, 13, 14, 15, 16, 17, 18, 19, 20, 21, 22, 23, 24, 25, 26, 27, 28, 29, 30, 31, 32, 33, 34, 35, 36, 37, 38, 39, 40, 41, 42, 43, 44, 45, 46, 47, 48, 49, 50, 51, 52, 53, 54, 55, 56, 57, 58, 59, 64, 65, 66, 67, 68, 69, 70, 71, 72, 73, 74, 75, 76, 77, 78, 79, 80] (by decide +kernel) (by decide +kernel)
set_option maxRecDepth 20000 in
theorem gX8_depth_X7_depth_ : GoodIn wsX8_depth (wsV RX8 146 RX7 yX7_depth_ wsX7_depth_) := goodIn_app (goodIn_of _ (by decide +kernel)) ggX8_depth_X7_depth_
theorem dX8_depth_0 : decode cX8_depth 0 = .ok (.aload_n 0, 1) := by decide +kernel
theorem dX8_depth_1 : decode cX8_depth 1 = .ok (.iconst 0, 1) := by decide +kernel
theorem dX8_depth_2 : decode cX8_depth 2 = .ok (.putfield 20, 3) := by decide +kernel
theorem dX8_depth_5 : decode cX8_depth 5 = .ok (.aload_n 0, 1) := by decide +kernel
theorem dX8_depth_6 : decode cX8_depth 6 = .ok (.getfield 10, 3) := by decide +kernel
theorem dX8_depth_9 : decode cX8_depth 9 = .ok (.invokevirtual 146, 3) := by decide +kernel
theorem dX8_depth_12 : decode cX8_depth 12 = .ok (.ireturn, 1) := by decide +kernel
set_option maxRecDepth 20000 in
theorem ggX8_missNow_X7_depth_ : GoodIn wsX8_missNow wsX7_depth_ := goodIn_r _ [7, 8, 9, 10, 6, 11, 12, 13, 14, 15, 16, 17, 18, 19, 20, 21, 22, 23, 24, 25, 26, 27, 28, 29, 30, 31, 32, 33, 34, 35, 36, 37, 38, 39, 40, 41, 42, 43, 44, 45, 46, 47, 48, 49, 50, 51, 52, 53, 54, 55, 56, 57, 58, 59, 66, 67, 68, 69, 70, 71, 72, 73, 74, 75, 76, 77, 78, 79, 80, 81, 82] (by decide +kernel) (by decide +kernel)
set_option maxRecDepth 20000 in
theorem gX8_missNow_X7_depth_ : GoodIn wsX8_missNow (wsV RX8 146 RX7 yX7_depth_ wsX7_depth_) := goodIn_app (goodIn_of _ (by decide +kernel)) ggX8_missNow_X7_depth_
set_option maxRecDepth 20000 in
theorem ggX8_missNow_Jx4a65c_size_8abf5 : GoodIn wsX8_missNow wsJx4a65c_size_8abf5 := goodIn_r _ [18, 19, 80, 81, 82] (by decide +kernel) (by decide +kernel)
set_option maxRecDepth 20000 in
theorem gX8_missNow_Jx4a65c_size_8abf5 : GoodIn wsX8_missNow (wsV RX8 28 RJx4a65c yJx4a65c_size_8abf5 wsJx4a65c_size_8abf5) := goodIn_app (goodIn_of _ (by decide +kernel)) ggX8_missNow_Jx4a65c_size_8abf5
set_option maxRecDepth 20000 in
theorem ggX8_missNow_Jx4a65c_get_915e3 : GoodIn wsX8_missNow wsJx4a65c_get_915e3 := goodIn_r _ [23, 19, 24, 25, 26, 27, 28, 29, 30, 31, 32, 33, 34, 17, 35, 36, 80, 81, 82] (by decide +kernel) (by decide +kernel)
set_option maxRecDepth 20000 in
theorem gX8_missNow_Jx4a65c_get_915e3 : GoodIn wsX8_missNow (wsV RX8 84 RJx4a65c yJx4a65c_get_915e3 wsJx4a65c_get_915e3) := goodIn_app (goodIn_of _ (by decide +kernel)) ggX8_missNow_Jx4a65c_get_915e3
theorem dX8_missNow_0 : decode cX8_missNow 0 = .ok (.aload_n 0, 1) := by decide +kernel
theorem dX8_missNow_1 : decode cX8_missNow 1 = .ok (.getfield 10, 3) := by decide +kernel
theorem dX8_missNow_4 : decode cX8_missNow 4 = .ok (.invokevirtual 146, 3) := by decide +kernel
theorem dX8_missNow_7 : decode cX8_missNow 7 = .ok (.iconst (-1), 1) := by decide +kernel
theorem dX8_missNow_8 : decode cX8_missNow 8 = .ok (.if_icmp .ne 5, 3) := by decide +kernel
theorem dX8_missNow_11 : decode cX8_missNow 11 = .ok (.iconst 0, 1) := by decide +kernel
theorem dX8_missNow_12 : decode cX8_missNow 12 = .ok (.ireturn, 1) := by decide +kernel
theorem dX8_missNow_13 : decode cX8_missNow 13 = .ok (.iconst 0, 1) := by decide +kernel
theorem dX8_missNow_14 : decode cX8_missNow 14 = .ok (.istore_n 1, 1) := by decide +kernel
theorem dX8_missNow_15 : decode cX8_missNow 15 = .ok (.iconst 0, 1) := by decide +kernel
theorem dX8_missNow_16 : decode cX8_missNow 16 = .ok (.istore_n 2, 1) := by decide +kernel
theorem dX8_missNow_17 : decode cX8_missNow 17 = .ok (.iload_n 2, 1) := by decide +kernel
theorem dX8_missNow_18 : decode cX8_missNow 18 = .ok (.aload_n 0, 1) := by decide +kernel
theorem dX8_missNow_19 : decode cX8_missNow 19 = .ok (.getfield 10, 3) := by decide +kernel
theorem dX8_missNow_22 : decode cX8_missNow 22 = .ok (.getfield 38, 3) := by decide +kernel
theorem dX8_missNow_25 : decode cX8_missNow 25 = .ok (.invokevirtual 28, 3) := by decide +kernel
theorem dX8_missNow_28 : decode cX8_missNow 28 = .ok (.if_icmp .ge 55, 3) := by decide +kernel
theorem dX8_missNow_31 : decode cX8_missNow 31 = .ok (.aload_n 0, 1) := by decide +kernel
theorem dX8_missNow_32 : decode cX8_missNow 32 = .ok (.getfield 10, 3) := by decide +kernel
theorem dX8_missNow_35 : decode cX8_missNow 35 = .ok (.getfield 38, 3) := by decide +kernel
theorem dX8_missNow_38 : decode cX8_missNow 38 = .ok (.iload_n 2, 1) := by decide +kernel
theorem dX8_missNow_39 : decode cX8_missNow 39 = .ok (.invokevirtual 84, 3) := by decide +kernel
theorem dX8_missNow_42 : decode cX8_missNow 42 = .ok (.checkcast 88, 3) := by decide +kernel
theorem dX8_missNow_45 : decode cX8_missNow 45 = .ok (.astore_n 3, 1) := by decide +kernel
theorem dX8_missNow_46 : decode cX8_missNow 46 = .ok (.aload_n 3, 1) := by decide +kernel
theorem dX8_missNow_47 : decode cX8_missNow 47 = .ok (.iconst 3, 1) := by decide +kernel
theorem dX8_missNow_48 : decode cX8_missNow 48 = .ok (.iaload, 1) := by decide +kernel
theorem dX8_missNow_49 : decode cX8_missNow 49 = .ok (.istore 4, 2) := by decide +kernel
theorem dX8_missNow_51 : decode cX8_missNow 51 = .ok (.aload_n 3, 1) := by decide +kernel
theorem dX8_missNow_52 : decode cX8_missNow 52 = .ok (.iconst 3, 1) := by decide +kernel
theorem dX8_missNow_53 : decode cX8_missNow 53 = .ok (.iconst 3, 1) := by decide +kernel
theorem dX8_missNow_54 : decode cX8_missNow 54 = .ok (.iastore, 1) := by decide +kernel
theorem dX8_missNow_55 : decode cX8_missNow 55 = .ok (.aload_n 0, 1) := by decide +kernel
theorem dX8_missNow_56 : decode cX8_missNow 56 = .ok (.getfield 10, 3) := by decide +kernel
theorem dX8_missNow_59 : decode cX8_missNow 59 = .ok (.invokevirtual 146, 3) := by decide +kernel
theorem dX8_missNow_62 : decode cX8_missNow 62 = .ok (.iconst (-1), 1) := by decide +kernel
theorem dX8_missNow_63 : decode cX8_missNow 63 = .ok (.if_icmp .ne 9, 3) := by decide +kernel
theorem dX8_missNow_66 : decode cX8_missNow 66 = .ok (.iload_n 1, 1) := by decide +kernel
theorem dX8_missNow_67 : decode cX8_missNow 67 = .ok (.iconst 1, 1) := by decide +kernel
theorem dX8_missNow_68 : decode cX8_missNow 68 = .ok (.iload_n 2, 1) := by decide +kernel
theorem dX8_missNow_69 : decode cX8_missNow 69 = .ok (.ishl, 1) := by decide +kernel
theorem dX8_missNow_70 : decode cX8_missNow 70 = .ok (.ior, 1) := by decide +kernel
theorem dX8_missNow_71 : decode cX8_missNow 71 = .ok (.istore_n 1, 1) := by decide +kernel
theorem dX8_missNow_72 : decode cX8_missNow 72 = .ok (.aload_n 3, 1) := by decide +kernel
theorem dX8_missNow_73 : decode cX8_missNow 73 = .ok (.iconst 3, 1) := by decide +kernel
theorem dX8_missNow_74 : decode cX8_missNow 74 = .ok (.iload 4, 2) := by decide +kernel
theorem dX8_missNow_76 : decode cX8_missNow 76 = .ok (.iastore, 1) := by decide +kernel
theorem dX8_missNow_77 : decode cX8_missNow 77 = .ok (.iinc 2 1, 3) := by decide +kernel
theorem dX8_missNow_80 : decode cX8_missNow 80 = .ok (.goto (-63), 3) := by decide +kernel
theorem dX8_missNow_83 : decode cX8_missNow 83 = .ok (.iload_n 1, 1) := by decide +kernel
theorem dX8_missNow_84 : decode cX8_missNow 84 = .ok (.ireturn, 1) := by decide +kernel
set_option maxRecDepth 20000 in
theorem ggX8_cannotMiss_X8_missNow : GoodIn wsX8_cannotMiss wsX8_missNow := goodIn_r _ [6, 7, 8, 9, 10, 11, 12, 13, 14, 15, 16, 17, 18, 19, 20, 21, 22, 23, 24, 25, 26, 27, 28, 29, 30, 31, 32, 33, 34, 35, 36, 37, 38, 39, 40, 41, 42, 43, 44, 45, 46, 47, 48, 49, 50, 51, 52, 53, 54, 55, 56, 57, 58, 59, 60, 61, 62, 63, 64, 65, 66, 67, 68, 69, 70, 71, 72, 73, 74, 75, 76, 77, 78, 79, 80, 81, 82, 83, 84, 85, 86, 87, 88] (by decide +kernel) (by decide +kernel)
set_option maxRecDepth 20000 in
theorem gX8_cannotMiss_X8_missNow : GoodIn wsX8_cannotMiss (wsV RX8 155 RX8 yX8_missNow wsX8_missNow) := goodIn_app (goodIn_of _ (by decide +kernel)) ggX8_cannotMiss_X8_missNow
theorem dX8_cannotMiss_0 : decode cX8_cannotMiss 0 = .ok (.aload_n 0, 1) := by decide +kernel
theorem dX8_cannotMiss_1 : decode cX8_cannotMiss 1 = .ok (.iconst 0, 1) := by decide +kernel
theorem dX8_cannotMiss_2 : decode cX8_cannotMiss 2 = .ok (.putfield 20, 3) := by decide +kernel
theorem dX8_cannotMiss_5 : decode cX8_cannotMiss 5 = .ok (.aload_n 0, 1) := by decide +kernel
theorem dX8_cannotMiss_6 : decode cX8_cannotMiss 6 = .ok (.invokevirtual 155, 3) := by decide +kernel
theorem dX8_cannotMiss_9 : decode cX8_cannotMiss 9 = .ok (.ireturn, 1) := by decide +kernel
set_option maxRecDepth 20000 in
theorem ggX8_bestHint_X7_bestHint : GoodIn wsX8_bestHint wsX7_bestHint := goodIn_r _ [7, 8, 9, 10, 11, 12, 13, 14, 15, 16, 17, 6, 18, 19, 20, 21, 22, 23, 24, 25, 26, 27, 28, 29, 30, 31, 32, 33, 34, 35, 36, 37, 38, 39, 40, 41, 42, 43, 44, 45, 46, 47, 48, 49, 50, 51, 52, 53, 54, 55, 56, 57, 58, 59, 60, 61, 62, 63, 64, 65, 66, 67, 72, 73, 74, 75, 76, 77, 78, 79, 80, 81, 82, 83, 84, 85, 86, 87, 88] (by decide +kernel) (by decide +kernel)
set_option maxRecDepth 20000 in
theorem gX8_bestHint_X7_bestHint : GoodIn wsX8_bestHint (wsV RX8 158 RX7 yX7_bestHint wsX7_bestHint) := goodIn_app (goodIn_of _ (by decide +kernel)) ggX8_bestHint_X7_bestHint
theorem dX8_bestHint_0 : decode cX8_bestHint 0 = .ok (.aload_n 0, 1) := by decide +kernel
theorem dX8_bestHint_1 : decode cX8_bestHint 1 = .ok (.iconst 0, 1) := by decide +kernel
theorem dX8_bestHint_2 : decode cX8_bestHint 2 = .ok (.putfield 20, 3) := by decide +kernel
theorem dX8_bestHint_5 : decode cX8_bestHint 5 = .ok (.aload_n 0, 1) := by decide +kernel
theorem dX8_bestHint_6 : decode cX8_bestHint 6 = .ok (.getfield 10, 3) := by decide +kernel
theorem dX8_bestHint_9 : decode cX8_bestHint 9 = .ok (.invokevirtual 158, 3) := by decide +kernel
theorem dX8_bestHint_12 : decode cX8_bestHint 12 = .ok (.ireturn, 1) := by decide +kernel
set_option maxRecDepth 20000 in
theorem ggX8_endsNow_X7_copy : GoodIn wsX8_endsNow wsX7_copy := goodIn_r _ [6, 7, 8, 5, 9, 10, 11, 12, 13, 14, 15, 16, 17, 18, 19, 20, 21, 22, 23, 24, 25, 26, 27, 28, 29, 30, 31, 32, 33, 34, 35, 36, 37, 38, 39, 40, 41, 42, 43, 44, 45, 46, 47, 48, 49, 50, 51, 52, 53, 54, 55, 56, 57, 58, 59, 60, 61, 62, 63, 64, 65, 66, 67, 68, 69, 70, 71, 72, 73, 74, 75, 76, 77, 78, 79, 80, 81, 82, 83, 84, 85, 86, 87, 88, 89, 90, 91, 92, 93, 94, 95, 96, 97, 98, 99, 100, 101, 102, 103, 104, 105, 106, 107, 108, 109, 110, 111, 112, 113, 114, 115, 116, 117, 118, 119, 120, 121, 122, 123, 124, 125, 126, 127, 195, 196, 197, 198, 199, 200, 201, 202, 203, 204, 205, 206, 207, 208, 209, 210, 211, 212, 213, 214, 215] (by decide +kernel) (by decide +kernel)
set_option maxRecDepth 20000 in
theorem gX8_endsNow_X7_copy : GoodIn wsX8_endsNow (wsV RX8 161 RX7 yX7_copy wsX7_copy) := goodIn_app (goodIn_of _ (by decide +kernel)) ggX8_endsNow_X7_copy
set_option maxRecDepth 20000 in
theorem ggX8_endsNow_X7_pass : GoodIn wsX8_endsNow wsX7_pass := goodIn_r _ [131, 132, 19, 20, 9, 10, 16, 17, 46, 47, 48, 29, 49, 50, 51, 52, 53, 54, 55, 56, 57, 25, 26, 58, 59, 60, 61, 62, 63, 64, 65, 66, 67, 68, 69, 70, 71, 72, 73, 74, 75, 133, 134, 135, 136, 81, 137, 138, 139, 140, 141, 142, 143, 144, 145, 146, 147, 148, 149, 150, 151, 152, 35, 153, 154, 155, 5, 156, 157, 158, 159, 160, 161, 162, 163, 164, 165, 166, 167, 168, 169, 170, 171, 172, 173, 174, 175, 176, 177, 18, 178, 179, 180, 181, 182, 183, 184, 185, 30, 186, 122, 96, 123, 187, 188, 189, 190, 80, 195, 196, 197, 198, 199, 200, 201, 202, 203, 204, 205, 206, 207, 208, 212, 213, 214, 215, 209, 210, 211] (by decide +kernel) (by decide +kernel)
set_option maxRecDepth 20000 in
theorem gX8_endsNow_X7_pass : GoodIn wsX8_endsNow (wsV RX8 81 RX7 yX7_pass wsX7_pass) := goodIn_app (goodIn_of _ (by decide +kernel)) ggX8_endsNow_X7_pass
theorem dX8_endsNow_0 : decode cX8_endsNow 0 = .ok (.aload_n 0, 1) := by decide +kernel
theorem dX8_endsNow_1 : decode cX8_endsNow 1 = .ok (.getfield 10, 3) := by decide +kernel
theorem dX8_endsNow_4 : decode cX8_endsNow 4 = .ok (.invokevirtual 161, 3) := by decide +kernel
theorem dX8_endsNow_7 : decode cX8_endsNow 7 = .ok (.astore_n 1, 1) := by decide +kernel
theorem dX8_endsNow_8 : decode cX8_endsNow 8 = .ok (.aload_n 1, 1) := by decide +kernel
theorem dX8_endsNow_9 : decode cX8_endsNow 9 = .ok (.getfield 45, 3) := by decide +kernel
theorem dX8_endsNow_12 : decode cX8_endsNow 12 = .ok (.ifCond .eq 11, 3) := by decide +kernel
theorem dX8_endsNow_15 : decode cX8_endsNow 15 = .ok (.aload_n 1, 1) := by decide +kernel
theorem dX8_endsNow_16 : decode cX8_endsNow 16 = .ok (.invokevirtual 81, 3) := by decide +kernel
theorem dX8_endsNow_19 : decode cX8_endsNow 19 = .ok (.pop, 1) := by decide +kernel
theorem dX8_endsNow_20 : decode cX8_endsNow 20 = .ok (.goto (-12), 3) := by decide +kernel
theorem dX8_endsNow_23 : decode cX8_endsNow 23 = .ok (.aload_n 1, 1) := by decide +kernel
theorem dX8_endsNow_24 : decode cX8_endsNow 24 = .ok (.getfield 122, 3) := by decide +kernel
theorem dX8_endsNow_27 : decode cX8_endsNow 27 = .ok (.ifCond .le 10, 3) := by decide +kernel
theorem dX8_endsNow_30 : decode cX8_endsNow 30 = .ok (.aload_n 1, 1) := by decide +kernel
theorem dX8_endsNow_31 : decode cX8_endsNow 31 = .ok (.getfield 69, 3) := by decide +kernel
theorem dX8_endsNow_34 : decode cX8_endsNow 34 = .ok (.goto 4, 3) := by decide +kernel
theorem dX8_endsNow_37 : decode cX8_endsNow 37 = .ok (.iconst (-1), 1) := by decide +kernel
theorem dX8_endsNow_38 : decode cX8_endsNow 38 = .ok (.ireturn, 1) := by decide +kernel
set_option maxRecDepth 20000 in
theorem ggX8_endsAt_X8_endsNow : GoodIn wsX8_endsAt wsX8_endsNow := goodIn_r _ [6, 7, 8, 9, 10, 11, 12, 13, 14, 15, 16, 17, 18, 19, 20, 21, 22, 23, 24, 25, 26, 27, 28, 29, 30, 31, 32, 33, 34, 35, 36, 37, 38, 39, 40, 41, 42, 43, 44, 45, 46, 47, 48, 49, 50, 51, 52, 53, 54, 55, 56, 57, 58, 59, 60, 61, 62, 63, 64, 65, 66, 67, 68, 69, 70, 71, 72, 73, 74, 75, 76, 77, 78, 79, 80, 81, 82, 83, 84, 85, 86, 87, 88, 89, 90, 91, 92, 93, 94, 95, 96, 97, 98, 99, 100, 101, 102, 103, 104, 105, 106, 107, 108, 109, 110, 111, 112, 113, 114, 115, 116, 117, 118, 119, 120, 121, 122, 123, 124, 125, 126, 127, 128, 129, 130, 131, 132, 133, 134, 135, 136, 137, 138, 139, 140, 141, 142, 143, 144, 145, 146, 147, 148, 149, 150, 151, 152, 153, 154, 155, 156, 157, 158, 159, 160, 161, 162, 163, 164, 165, 166, 167, 168, 169, 170, 171, 172, 173, 174, 175, 176, 177, 178, 179, 180, 181, 182, 183, 184, 185, 186, 187, 188, 189, 190, 191, 192, 193, 194, 195, 196, 197, 198, 199, 200, 201, 202, 203, 204, 205, 206, 207, 208, 209, 210, 211, 212, 213, 214, 215, 216, 217, 218, 219, 220, 221] (by decide +kernel) (by decide +kernel)
set_option maxRecDepth 20000 in
theorem gX8_endsAt_X8_endsNow : GoodIn wsX8_endsAt (wsV RX8 165 RX8 yX8_endsNow wsX8_endsNow) := goodIn_app (goodIn_of _ (by decide +kernel)) ggX8_endsAt_X8_endsNow
theorem dX8_endsAt_0 : decode cX8_endsAt 0 = .ok (.aload_n 0, 1) := by decide +kernel
theorem dX8_endsAt_1 : decode cX8_endsAt 1 = .ok (.iconst 0, 1) := by decide +kernel
theorem dX8_endsAt_2 : decode cX8_endsAt 2 = .ok (.putfield 20, 3) := by decide +kernel
theorem dX8_endsAt_5 : decode cX8_endsAt 5 = .ok (.aload_n 0, 1) := by decide +kernel
theorem dX8_endsAt_6 : decode cX8_endsAt 6 = .ok (.invokevirtual 165, 3) := by decide +kernel
theorem dX8_endsAt_9 : decode cX8_endsAt 9 = .ok (.ireturn, 1) := by decide +kernel
