theorem dX6_mixThings_11 : decode cX6_mixThings 11 = .ok (.getfield 71, 3) := by decide +kernel
theorem dX6_mixThings_14 : decode cX6_mixThings 14 = .ok (.if_icmp .ge 41, 3) := by decide +kernel
theorem dX6_mixThings_17 : decode cX6_mixThings 17 = .ok (.iconst 0, 1) := by decide +kernel
theorem dX6_mixThings_18 : decode cX6_mixThings 18 = .ok (.istore 6, 2) := by decide +kernel
theorem dX6_mixThings_20 : decode cX6_mixThings 20 = .ok (.iload 6, 2) := by decide +kernel
theorem dX6_mixThings_22 : decode cX6_mixThings 22 = .ok (.bipush 6, 2) := by decide +kernel
theorem dX6_mixThings_24 : decode cX6_mixThings 24 = .ok (.if_icmp .ge 25, 3) := by decide +kernel
theorem dX6_mixThings_27 : decode cX6_mixThings 27 = .ok (.lload_n 3, 1) := by decide +kernel
theorem dX6_mixThings_28 : decode cX6_mixThings 28 = .ok (.aload_n 0, 1) := by decide +kernel
theorem dX6_mixThings_29 : decode cX6_mixThings 29 = .ok (.getfield 12, 3) := by decide +kernel
theorem dX6_mixThings_32 : decode cX6_mixThings 32 = .ok (.iload 5, 2) := by decide +kernel
theorem dX6_mixThings_34 : decode cX6_mixThings 34 = .ok (.iload 6, 2) := by decide +kernel
theorem dX6_mixThings_36 : decode cX6_mixThings 36 = .ok (.invokevirtual 214, 3) := by decide +kernel
theorem dX6_mixThings_39 : decode cX6_mixThings 39 = .ok (.invokestatic 261, 3) := by decide +kernel
theorem dX6_mixThings_42 : decode cX6_mixThings 42 = .ok (.lstore_n 3, 1) := by decide +kernel
theorem dX6_mixThings_43 : decode cX6_mixThings 43 = .ok (.iinc 6 1, 3) := by decide +kernel
theorem dX6_mixThings_46 : decode cX6_mixThings 46 = .ok (.goto (-26), 3) := by decide +kernel
theorem dX6_mixThings_49 : decode cX6_mixThings 49 = .ok (.iinc 5 1, 3) := by decide +kernel
theorem dX6_mixThings_52 : decode cX6_mixThings 52 = .ok (.goto (-47), 3) := by decide +kernel
theorem dX6_mixThings_55 : decode cX6_mixThings 55 = .ok (.lload_n 3, 1) := by decide +kernel
theorem dX6_mixThings_56 : decode cX6_mixThings 56 = .ok (.lreturn, 1) := by decide +kernel
theorem dX6_mixPlayers_0 : decode cX6_mixPlayers 0 = .ok (.lload_n 1, 1) := by decide +kernel
theorem dX6_mixPlayers_1 : decode cX6_mixPlayers 1 = .ok (.lstore_n 3, 1) := by decide +kernel
theorem dX6_mixPlayers_2 : decode cX6_mixPlayers 2 = .ok (.iconst 0, 1) := by decide +kernel
theorem dX6_mixPlayers_3 : decode cX6_mixPlayers 3 = .ok (.istore 5, 2) := by decide +kernel
theorem dX6_mixPlayers_5 : decode cX6_mixPlayers 5 = .ok (.iload 5, 2) := by decide +kernel
theorem dX6_mixPlayers_7 : decode cX6_mixPlayers 7 = .ok (.aload_n 0, 1) := by decide +kernel
theorem dX6_mixPlayers_8 : decode cX6_mixPlayers 8 = .ok (.getfield 12, 3) := by decide +kernel
theorem dX6_mixPlayers_11 : decode cX6_mixPlayers 11 = .ok (.getfield 82, 3) := by decide +kernel
theorem dX6_mixPlayers_14 : decode cX6_mixPlayers 14 = .ok (.if_icmp .ge 40, 3) := by decide +kernel
theorem dX6_mixPlayers_54 : decode cX6_mixPlayers 54 = .ok (.lload_n 3, 1) := by decide +kernel
theorem dX6_mixPlayers_55 : decode cX6_mixPlayers 55 = .ok (.lreturn, 1) := by decide +kernel
theorem dX6_mix_0 : decode cX6_mix 0 = .ok (.lload_n 0, 1) := by decide +kernel
theorem dX6_mix_1 : decode cX6_mix 1 = .ok (.ldc2_w 296, 3) := by decide +kernel
theorem dX6_mix_4 : decode cX6_mix 4 = .ok (.lmul, 1) := by decide +kernel
theorem dX6_mix_5 : decode cX6_mix 5 = .ok (.iload_n 2, 1) := by decide +kernel
theorem dX6_mix_6 : decode cX6_mix 6 = .ok (.i2l, 1) := by decide +kernel
theorem dX6_mix_7 : decode cX6_mix 7 = .ok (.ladd, 1) := by decide +kernel
theorem dX6_mix_8 : decode cX6_mix 8 = .ok (.lreturn, 1) := by decide +kernel
theorem dX6_isWithin_0 : decode cX6_isWithin 0 = .ok (.iload_n 0, 1) := by decide +kernel
theorem dX6_isWithin_1 : decode cX6_isWithin 1 = .ok (.iload_n 1, 1) := by decide +kernel
theorem dX6_isWithin_2 : decode cX6_isWithin 2 = .ok (.if_icmp .lt 12, 3) := by decide +kernel
theorem dX6_isWithin_5 : decode cX6_isWithin 5 = .ok (.iload_n 0, 1) := by decide +kernel
theorem dX6_isWithin_6 : decode cX6_isWithin 6 = .ok (.iload_n 2, 1) := by decide +kernel
theorem dX6_isWithin_7 : decode cX6_isWithin 7 = .ok (.if_icmp .gt 7, 3) := by decide +kernel
theorem dX6_isWithin_10 : decode cX6_isWithin 10 = .ok (.iconst 1, 1) := by decide +kernel
theorem dX6_isWithin_11 : decode cX6_isWithin 11 = .ok (.goto 4, 3) := by decide +kernel
theorem dX6_isWithin_15 : decode cX6_isWithin 15 = .ok (.ireturn, 1) := by decide +kernel
theorem dX6_isIn_0 : decode cX6_isIn 0 = .ok (.iload_n 1, 1) := by decide +kernel
theorem dX6_isIn_1 : decode cX6_isIn 1 = .ok (.iconst (-1), 1) := by decide +kernel
theorem dX6_isIn_2 : decode cX6_isIn 2 = .ok (.if_icmp .eq 16, 3) := by decide +kernel
theorem dX6_isIn_5 : decode cX6_isIn 5 = .ok (.iload_n 0, 1) := by decide +kernel
theorem dX6_isIn_6 : decode cX6_isIn 6 = .ok (.iload_n 1, 1) := by decide +kernel
theorem dX6_isIn_7 : decode cX6_isIn 7 = .ok (.ishr, 1) := by decide +kernel
theorem dX6_isIn_8 : decode cX6_isIn 8 = .ok (.iconst 1, 1) := by decide +kernel
theorem dX6_isIn_9 : decode cX6_isIn 9 = .ok (.iand, 1) := by decide +kernel
theorem dX6_isIn_10 : decode cX6_isIn 10 = .ok (.iconst 1, 1) := by decide +kernel
theorem dX6_isIn_11 : decode cX6_isIn 11 = .ok (.if_icmp .ne 7, 3) := by decide +kernel
theorem dX6_isIn_14 : decode cX6_isIn 14 = .ok (.iconst 1, 1) := by decide +kernel
theorem dX6_isIn_15 : decode cX6_isIn 15 = .ok (.goto 4, 3) := by decide +kernel
theorem dX6_isIn_18 : decode cX6_isIn 18 = .ok (.iconst 0, 1) := by decide +kernel
theorem dX6_isIn_19 : decode cX6_isIn 19 = .ok (.ireturn, 1) := by decide +kernel
theorem dX6_oneIf_0 : decode cX6_oneIf 0 = .ok (.iload_n 0, 1) := by decide +kernel
theorem dX6_oneIf_1 : decode cX6_oneIf 1 = .ok (.ifCond .eq 7, 3) := by decide +kernel
theorem dX6_oneIf_4 : decode cX6_oneIf 4 = .ok (.iconst 1, 1) := by decide +kernel
theorem dX6_oneIf_5 : decode cX6_oneIf 5 = .ok (.goto 4, 3) := by decide +kernel
theorem dX6_oneIf_8 : decode cX6_oneIf 8 = .ok (.iconst 0, 1) := by decide +kernel
theorem dX6_oneIf_9 : decode cX6_oneIf 9 = .ok (.ireturn, 1) := by decide +kernel
set_option maxRecDepth 20000 in
theorem ggX7_init_Jx4a65c_init_da8c8 : GoodIn wsX7_init wsJx4a65c_init_da8c8 := goodIn_r _ [14, 15, 16, 17, 18, 19, 20, 21, 22, 23, 24, 25, 26, 2, 3, 27, 28, 29] (by decide +kernel) (by decide +kernel)
set_option maxRecDepth 20000 in
theorem gX7_init_Jx4a65c_init_da8c8 : GoodIn wsX7_init (wsJx4a65c_init_da8c8) := ggX7_init_Jx4a65c_init_da8c8
theorem dX7_init_0 : decode cX7_init 0 = .ok (.aload_n 0, 1) := by decide +kernel
theorem dX7_init_1 : decode cX7_init 1 = .ok (.invokespecial 3, 3) := by decide +kernel
theorem dX7_init_4 : decode cX7_init 4 = .ok (.aload_n 0, 1) := by decide +kernel
theorem dX7_init_5 : decode cX7_init 5 = .ok (.new 9, 3) := by decide +kernel
theorem dX7_init_8 : decode cX7_init 8 = .ok (.dup, 1) := by decide +kernel
theorem dX7_init_9 : decode cX7_init 9 = .ok (.invokespecial 11, 3) := by decide +kernel
theorem dX7_init_12 : decode cX7_init 12 = .ok (.putfield 12, 3) := by decide +kernel
theorem dX7_init_15 : decode cX7_init 15 = .ok (.aload_n 0, 1) := by decide +kernel
theorem dX7_init_16 : decode cX7_init 16 = .ok (.new 9, 3) := by decide +kernel
theorem dX7_init_19 : decode cX7_init 19 = .ok (.dup, 1) := by decide +kernel
theorem dX7_init_20 : decode cX7_init 20 = .ok (.invokespecial 11, 3) := by decide +kernel
theorem dX7_init_23 : decode cX7_init 23 = .ok (.putfield 18, 3) := by decide +kernel
theorem dX7_init_26 : decode cX7_init 26 = .ok (.aload_n 0, 1) := by decide +kernel
theorem dX7_init_27 : decode cX7_init 27 = .ok (.new 9, 3) := by decide +kernel
theorem dX7_init_30 : decode cX7_init 30 = .ok (.dup, 1) := by decide +kernel
theorem dX7_init_31 : decode cX7_init 31 = .ok (.invokespecial 11, 3) := by decide +kernel
theorem dX7_init_34 : decode cX7_init 34 = .ok (.putfield 21, 3) := by decide +kernel
theorem dX7_init_37 : decode cX7_init 37 = .ok (.aload_n 0, 1) := by decide +kernel
theorem dX7_init_38 : decode cX7_init 38 = .ok (.iconst (-1), 1) := by decide +kernel
theorem dX7_init_39 : decode cX7_init 39 = .ok (.putfield 24, 3) := by decide +kernel
theorem dX7_init_42 : decode cX7_init 42 = .ok (.aload_n 0, 1) := by decide +kernel
theorem dX7_init_43 : decode cX7_init 43 = .ok (.iconst (-1), 1) := by decide +kernel
theorem dX7_init_44 : decode cX7_init 44 = .ok (.putfield 28, 3) := by decide +kernel
theorem dX7_init_47 : decode cX7_init 47 = .ok (.return_, 1) := by decide +kernel
set_option maxRecDepth 20000 in
theorem ggX7_copy_X7_init : GoodIn wsX7_copy wsX7_init := goodIn_r _ [18, 19, 20, 21, 22, 23, 24, 4, 11, 12, 13, 25, 26, 27, 28, 29, 30, 31, 32, 33, 34, 35, 36, 37, 38, 39, 40, 137, 138, 139, 123, 124, 125, 126, 127, 128, 129, 130, 131, 132, 133, 134, 135, 136] (by decide +kernel) (by decide +kernel)
set_option maxRecDepth 20000 in
theorem gX7_copy_X7_init : GoodIn wsX7_copy (wsX7_init) := ggX7_copy_X7_init
set_option maxRecDepth 20000 in
theorem ggX7_copy_Jx4a65c_iterator_32c93 : GoodIn wsX7_copy wsJx4a65c_iterator_32c93 := goodIn_r _ [44, 45, 46, 47, 48, 49, 50, 51, 52, 20, 21, 53, 54, 55, 56, 140, 141, 142, 143, 137, 138, 139] (by decide +kernel) (by decide +kernel)
set_option maxRecDepth 20000 in
theorem gX7_copy_Jx4a65c_iterator_32c93 : GoodIn wsX7_copy (wsV RX7 32 RJx4a65c yJx4a65c_iterator_32c93 wsJx4a65c_iterator_32c93) := goodIn_app (goodIn_of _ (by decide +kernel)) ggX7_copy_Jx4a65c_iterator_32c93
set_option maxRecDepth 20000 in
theorem ggX7_copy_Jx35411_hasNext_aae02 : GoodIn wsX7_copy wsJx35411_hasNext_aae02 := goodIn_r _ [60, 61, 51, 140, 141, 142, 143, 137, 138, 139] (by decide +kernel) (by decide +kernel)
set_option maxRecDepth 20000 in
theorem gX7_copy_Jx35411_hasNext_aae02_f36Jx35411 : GoodIn wsX7_copy (va_wsF RX7 36 RJx35411 ⟨"java/util/Iterator", "hasNext", "()Z"⟩ yJx35411_hasNext_aae02 wsJx35411_hasNext_aae02) := goodIn_app (goodIn_of _ (by decide +kernel)) ggX7_copy_Jx35411_hasNext_aae02
set_option maxRecDepth 20000 in
theorem ggX7_copy_Jx35411_next_0502b : GoodIn wsX7_copy wsJx35411_next_0502b := goodIn_r _ [65, 61, 51, 66, 53, 67, 68, 69, 47, 70, 54, 55, 56, 140, 141, 142, 143, 137, 138, 139] (by decide +kernel) (by decide +kernel)
set_option maxRecDepth 20000 in
theorem gX7_copy_Jx35411_next_0502b_f42Jx35411 : GoodIn wsX7_copy (va_wsF RX7 42 RJx35411 ⟨"java/util/Iterator", "next", "()Ljava/lang/Object;"⟩ yJx35411_next_0502b wsJx35411_next_0502b) := goodIn_app (goodIn_of _ (by decide +kernel)) ggX7_copy_Jx35411_next_0502b
set_option maxRecDepth 20000 in
theorem ggX7_copy_Jx4a65c_add_9ea2d : GoodIn wsX7_copy wsJx4a65c_add_9ea2d := goodIn_r _ [74, 75, 55, 30, 76, 77, 78, 79, 24, 80, 81, 82, 83, 84, 85, 86, 87, 88, 29, 89, 90, 91, 92, 93, 94, 95, 96, 97, 98, 99, 100, 101, 102, 103, 104, 105, 106, 107, 108, 109, 110, 111, 112, 113, 114, 115, 116, 117, 118, 119, 120, 121, 122, 137, 138, 139] (by decide +kernel) (by decide +kernel)
set_option maxRecDepth 20000 in
theorem gX7_copy_Jx4a65c_add_9ea2d : GoodIn wsX7_copy (wsV RX7 51 RJx4a65c yJx4a65c_add_9ea2d wsJx4a65c_add_9ea2d) := goodIn_app (goodIn_of _ (by decide +kernel)) ggX7_copy_Jx4a65c_add_9ea2d
theorem dX7_copy_0 : decode cX7_copy 0 = .ok (.new 13, 3) := by decide +kernel
theorem dX7_copy_3 : decode cX7_copy 3 = .ok (.dup, 1) := by decide +kernel
theorem dX7_copy_4 : decode cX7_copy 4 = .ok (.invokespecial 31, 3) := by decide +kernel
theorem dX7_copy_7 : decode cX7_copy 7 = .ok (.astore_n 1, 1) := by decide +kernel
theorem dX7_copy_8 : decode cX7_copy 8 = .ok (.aload_n 0, 1) := by decide +kernel
theorem dX7_copy_9 : decode cX7_copy 9 = .ok (.getfield 12, 3) := by decide +kernel
theorem dX7_copy_12 : decode cX7_copy 12 = .ok (.invokevirtual 32, 3) := by decide +kernel
theorem dX7_copy_15 : decode cX7_copy 15 = .ok (.astore_n 2, 1) := by decide +kernel
theorem dX7_copy_16 : decode cX7_copy 16 = .ok (.aload_n 2, 1) := by decide +kernel
theorem dX7_copy_17 : decode cX7_copy 17 = .ok (.invokeinterface 36 1, 5) := by decide +kernel
theorem dX7_copy_22 : decode cX7_copy 22 = .ok (.ifCond .eq 31, 3) := by decide +kernel
theorem dX7_copy_25 : decode cX7_copy 25 = .ok (.aload_n 2, 1) := by decide +kernel
theorem dX7_copy_26 : decode cX7_copy 26 = .ok (.invokeinterface 42 1, 5) := by decide +kernel
theorem dX7_copy_31 : decode cX7_copy 31 = .ok (.checkcast 46, 3) := by decide +kernel
theorem dX7_copy_34 : decode cX7_copy 34 = .ok (.astore_n 3, 1) := by decide +kernel
theorem dX7_copy_35 : decode cX7_copy 35 = .ok (.aload_n 1, 1) := by decide +kernel
theorem dX7_copy_36 : decode cX7_copy 36 = .ok (.getfield 12, 3) := by decide +kernel
theorem dX7_copy_39 : decode cX7_copy 39 = .ok (.aload_n 3, 1) := by decide +kernel
theorem dX7_copy_40 : decode cX7_copy 40 = .ok (.invokevirtual 48, 3) := by decide +kernel
theorem dX7_copy_43 : decode cX7_copy 43 = .ok (.checkcast 46, 3) := by decide +kernel
theorem dX7_copy_46 : decode cX7_copy 46 = .ok (.invokevirtual 51, 3) := by decide +kernel
theorem dX7_copy_49 : decode cX7_copy 49 = .ok (.pop, 1) := by decide +kernel
theorem dX7_copy_50 : decode cX7_copy 50 = .ok (.goto (-34), 3) := by decide +kernel
theorem dX7_copy_53 : decode cX7_copy 53 = .ok (.aload_n 0, 1) := by decide +kernel
theorem dX7_copy_54 : decode cX7_copy 54 = .ok (.getfield 18, 3) := by decide +kernel
theorem dX7_copy_57 : decode cX7_copy 57 = .ok (.invokevirtual 32, 3) := by decide +kernel
theorem dX7_copy_60 : decode cX7_copy 60 = .ok (.astore_n 2, 1) := by decide +kernel
theorem dX7_copy_61 : decode cX7_copy 61 = .ok (.aload_n 2, 1) := by decide +kernel
theorem dX7_copy_62 : decode cX7_copy 62 = .ok (.invokeinterface 36 1, 5) := by decide +kernel
theorem dX7_copy_67 : decode cX7_copy 67 = .ok (.ifCond .eq 31, 3) := by decide +kernel
theorem dX7_copy_70 : decode cX7_copy 70 = .ok (.aload_n 2, 1) := by decide +kernel
theorem dX7_copy_71 : decode cX7_copy 71 = .ok (.invokeinterface 42 1, 5) := by decide +kernel
theorem dX7_copy_76 : decode cX7_copy 76 = .ok (.checkcast 46, 3) := by decide +kernel
theorem dX7_copy_79 : decode cX7_copy 79 = .ok (.astore_n 3, 1) := by decide +kernel
theorem dX7_copy_80 : decode cX7_copy 80 = .ok (.aload_n 1, 1) := by decide +kernel
theorem dX7_copy_81 : decode cX7_copy 81 = .ok (.getfield 18, 3) := by decide +kernel
theorem dX7_copy_84 : decode cX7_copy 84 = .ok (.aload_n 3, 1) := by decide +kernel
theorem dX7_copy_85 : decode cX7_copy 85 = .ok (.invokevirtual 48, 3) := by decide +kernel
theorem dX7_copy_88 : decode cX7_copy 88 = .ok (.checkcast 46, 3) := by decide +kernel
theorem dX7_copy_91 : decode cX7_copy 91 = .ok (.invokevirtual 51, 3) := by decide +kernel
theorem dX7_copy_94 : decode cX7_copy 94 = .ok (.pop, 1) := by decide +kernel
theorem dX7_copy_95 : decode cX7_copy 95 = .ok (.goto (-34), 3) := by decide +kernel
theorem dX7_copy_98 : decode cX7_copy 98 = .ok (.aload_n 0, 1) := by decide +kernel
theorem dX7_copy_99 : decode cX7_copy 99 = .ok (.getfield 21, 3) := by decide +kernel
theorem dX7_copy_102 : decode cX7_copy 102 = .ok (.invokevirtual 32, 3) := by decide +kernel
theorem dX7_copy_105 : decode cX7_copy 105 = .ok (.astore_n 2, 1) := by decide +kernel
theorem dX7_copy_106 : decode cX7_copy 106 = .ok (.aload_n 2, 1) := by decide +kernel
theorem dX7_copy_107 : decode cX7_copy 107 = .ok (.invokeinterface 36 1, 5) := by decide +kernel
theorem dX7_copy_112 : decode cX7_copy 112 = .ok (.ifCond .eq 31, 3) := by decide +kernel
theorem dX7_copy_143 : decode cX7_copy 143 = .ok (.aload_n 1, 1) := by decide +kernel
theorem dX7_copy_144 : decode cX7_copy 144 = .ok (.aload_n 0, 1) := by decide +kernel
theorem dX7_copy_145 : decode cX7_copy 145 = .ok (.getfield 24, 3) := by decide +kernel
theorem dX7_copy_148 : decode cX7_copy 148 = .ok (.putfield 24, 3) := by decide +kernel
theorem dX7_copy_151 : decode cX7_copy 151 = .ok (.aload_n 1, 1) := by decide +kernel
theorem dX7_copy_152 : decode cX7_copy 152 = .ok (.aload_n 0, 1) := by decide +kernel
theorem dX7_copy_153 : decode cX7_copy 153 = .ok (.getfield 55, 3) := by decide +kernel
theorem dX7_copy_156 : decode cX7_copy 156 = .ok (.putfield 55, 3) := by decide +kernel
theorem dX7_copy_159 : decode cX7_copy 159 = .ok (.aload_n 1, 1) := by decide +kernel
theorem dX7_copy_160 : decode cX7_copy 160 = .ok (.aload_n 0, 1) := by decide +kernel
theorem dX7_copy_161 : decode cX7_copy 161 = .ok (.getfield 59, 3) := by decide +kernel
theorem dX7_copy_164 : decode cX7_copy 164 = .ok (.putfield 59, 3) := by decide +kernel
theorem dX7_copy_167 : decode cX7_copy 167 = .ok (.aload_n 1, 1) := by decide +kernel
theorem dX7_copy_168 : decode cX7_copy 168 = .ok (.areturn, 1) := by decide +kernel
set_option maxRecDepth 20000 in
theorem ggX7_inState_Jx4a65c_size_8abf5 : GoodIn wsX7_inState wsJx4a65c_size_8abf5 := goodIn_r _ [7, 8, 40, 41, 42] (by decide +kernel) (by decide +kernel)
set_option maxRecDepth 20000 in
theorem gX7_inState_Jx4a65c_size_8abf5 : GoodIn wsX7_inState (wsV RX7 62 RJx4a65c yJx4a65c_size_8abf5 wsJx4a65c_size_8abf5) := goodIn_app (goodIn_of _ (by decide +kernel)) ggX7_inState_Jx4a65c_size_8abf5
set_option maxRecDepth 20000 in
theorem ggX7_inState_Jx4a65c_get_915e3 : GoodIn wsX7_inState wsJx4a65c_get_915e3 := goodIn_r _ [12, 8, 13, 14, 15, 16, 17, 18, 19, 20, 21, 22, 23, 6, 24, 25, 40, 41, 42] (by decide +kernel) (by decide +kernel)
set_option maxRecDepth 20000 in
theorem gX7_inState_Jx4a65c_get_915e3 : GoodIn wsX7_inState (wsV RX7 66 RJx4a65c yJx4a65c_get_915e3 wsJx4a65c_get_915e3) := goodIn_app (goodIn_of _ (by decide +kernel)) ggX7_inState_Jx4a65c_get_915e3
theorem dX7_inState_0 : decode cX7_inState 0 = .ok (.iconst 0, 1) := by decide +kernel
theorem dX7_inState_1 : decode cX7_inState 1 = .ok (.istore_n 2, 1) := by decide +kernel
theorem dX7_inState_2 : decode cX7_inState 2 = .ok (.iconst 0, 1) := by decide +kernel
theorem dX7_inState_3 : decode cX7_inState 3 = .ok (.istore_n 3, 1) := by decide +kernel
theorem dX7_inState_4 : decode cX7_inState 4 = .ok (.iload_n 3, 1) := by decide +kernel
theorem dX7_inState_5 : decode cX7_inState 5 = .ok (.aload_n 0, 1) := by decide +kernel
theorem dX7_inState_6 : decode cX7_inState 6 = .ok (.getfield 18, 3) := by decide +kernel
theorem dX7_inState_9 : decode cX7_inState 9 = .ok (.invokevirtual 62, 3) := by decide +kernel
theorem dX7_inState_12 : decode cX7_inState 12 = .ok (.if_icmp .ge 32, 3) := by decide +kernel
theorem dX7_inState_15 : decode cX7_inState 15 = .ok (.aload_n 0, 1) := by decide +kernel
theorem dX7_inState_16 : decode cX7_inState 16 = .ok (.getfield 18, 3) := by decide +kernel
theorem dX7_inState_19 : decode cX7_inState 19 = .ok (.iload_n 3, 1) := by decide +kernel
theorem dX7_inState_20 : decode cX7_inState 20 = .ok (.invokevirtual 66, 3) := by decide +kernel
theorem dX7_inState_23 : decode cX7_inState 23 = .ok (.checkcast 46, 3) := by decide +kernel
theorem dX7_inState_26 : decode cX7_inState 26 = .ok (.iconst 3, 1) := by decide +kernel
theorem dX7_inState_27 : decode cX7_inState 27 = .ok (.iaload, 1) := by decide +kernel
theorem dX7_inState_28 : decode cX7_inState 28 = .ok (.iload_n 1, 1) := by decide +kernel
theorem dX7_inState_29 : decode cX7_inState 29 = .ok (.if_icmp .ne 9, 3) := by decide +kernel
theorem dX7_inState_38 : decode cX7_inState 38 = .ok (.iinc 3 1, 3) := by decide +kernel
theorem dX7_inState_41 : decode cX7_inState 41 = .ok (.goto (-37), 3) := by decide +kernel
theorem dX7_inState_44 : decode cX7_inState 44 = .ok (.iload_n 2, 1) := by decide +kernel
theorem dX7_inState_45 : decode cX7_inState 45 = .ok (.ireturn, 1) := by decide +kernel
set_option maxRecDepth 20000 in
theorem ggX7_opened_Jx4a65c_size_8abf5 : GoodIn wsX7_opened wsJx4a65c_size_8abf5 := goodIn_r _ [7, 8, 40, 41, 42] (by decide +kernel) (by decide +kernel)
set_option maxRecDepth 20000 in
theorem gX7_opened_Jx4a65c_size_8abf5 : GoodIn wsX7_opened (wsV RX7 62 RJx4a65c yJx4a65c_size_8abf5 wsJx4a65c_size_8abf5) := goodIn_app (goodIn_of _ (by decide +kernel)) ggX7_opened_Jx4a65c_size_8abf5
set_option maxRecDepth 20000 in
theorem ggX7_opened_Jx4a65c_get_915e3 : GoodIn wsX7_opened wsJx4a65c_get_915e3 := goodIn_r _ [12, 8, 13, 14, 15, 16, 17, 18, 19, 20, 21, 22, 23, 6, 24, 25, 40, 41, 42] (by decide +kernel) (by decide +kernel)
set_option maxRecDepth 20000 in
theorem gX7_opened_Jx4a65c_get_915e3 : GoodIn wsX7_opened (wsV RX7 66 RJx4a65c yJx4a65c_get_915e3 wsJx4a65c_get_915e3) := goodIn_app (goodIn_of _ (by decide +kernel)) ggX7_opened_Jx4a65c_get_915e3
theorem dX7_opened_0 : decode cX7_opened 0 = .ok (.iconst 0, 1) := by decide +kernel
theorem dX7_opened_1 : decode cX7_opened 1 = .ok (.istore_n 1, 1) := by decide +kernel
theorem dX7_opened_2 : decode cX7_opened 2 = .ok (.iconst 0, 1) := by decide +kernel
theorem dX7_opened_3 : decode cX7_opened 3 = .ok (.istore_n 2, 1) := by decide +kernel
theorem dX7_opened_4 : decode cX7_opened 4 = .ok (.iload_n 2, 1) := by decide +kernel
theorem dX7_opened_5 : decode cX7_opened 5 = .ok (.aload_n 0, 1) := by decide +kernel
theorem dX7_opened_6 : decode cX7_opened 6 = .ok (.getfield 12, 3) := by decide +kernel
theorem dX7_opened_9 : decode cX7_opened 9 = .ok (.invokevirtual 62, 3) := by decide +kernel
theorem dX7_opened_12 : decode cX7_opened 12 = .ok (.if_icmp .ge 32, 3) := by decide +kernel
theorem dX7_opened_15 : decode cX7_opened 15 = .ok (.aload_n 0, 1) := by decide +kernel
theorem dX7_opened_16 : decode cX7_opened 16 = .ok (.getfield 12, 3) := by decide +kernel
theorem dX7_opened_19 : decode cX7_opened 19 = .ok (.iload_n 2, 1) := by decide +kernel
theorem dX7_opened_20 : decode cX7_opened 20 = .ok (.invokevirtual 66, 3) := by decide +kernel
theorem dX7_opened_23 : decode cX7_opened 23 = .ok (.checkcast 46, 3) := by decide +kernel
theorem dX7_opened_26 : decode cX7_opened 26 = .ok (.iconst 4, 1) := by decide +kernel
theorem dX7_opened_27 : decode cX7_opened 27 = .ok (.iaload, 1) := by decide +kernel
theorem dX7_opened_28 : decode cX7_opened 28 = .ok (.iconst 1, 1) := by decide +kernel
theorem dX7_opened_29 : decode cX7_opened 29 = .ok (.if_icmp .ne 9, 3) := by decide +kernel
theorem dX7_opened_38 : decode cX7_opened 38 = .ok (.iinc 2 1, 3) := by decide +kernel
theorem dX7_opened_41 : decode cX7_opened 41 = .ok (.goto (-37), 3) := by decide +kernel
theorem dX7_opened_44 : decode cX7_opened 44 = .ok (.iload_n 1, 1) := by decide +kernel
theorem dX7_opened_45 : decode cX7_opened 45 = .ok (.ireturn, 1) := by decide +kernel
set_option maxRecDepth 20000 in
theorem ggX7_isReady_Jx4a65c_get_915e3 : GoodIn wsX7_isReady wsJx4a65c_get_915e3 := goodIn_r _ [7, 8, 9, 10, 11, 12, 13, 14, 15, 16, 17, 18, 19, 6, 20, 21, 46, 47, 48] (by decide +kernel) (by decide +kernel)
set_option maxRecDepth 20000 in
theorem gX7_isReady_Jx4a65c_get_915e3 : GoodIn wsX7_isReady (wsV RX7 66 RJx4a65c yJx4a65c_get_915e3 wsJx4a65c_get_915e3) := goodIn_app (goodIn_of _ (by decide +kernel)) ggX7_isReady_Jx4a65c_get_915e3
set_option maxRecDepth 20000 in
theorem ggX7_isReady_X7_inState : GoodIn wsX7_isReady wsX7_inState := goodIn_r _ [26, 27, 2, 28, 29, 30, 6, 31, 8, 3, 4, 5, 7, 9, 10, 11, 12, 13, 14, 15, 16, 17, 18, 19, 20, 21, 32, 33, 34, 35, 36, 37, 38, 39, 40, 41, 42, 43, 44, 45, 46, 47, 48] (by decide +kernel) (by decide +kernel)
set_option maxRecDepth 20000 in
theorem gX7_isReady_X7_inState : GoodIn wsX7_isReady (wsV RX7 70 RX7 yX7_inState wsX7_inState) := goodIn_app (goodIn_of _ (by decide +kernel)) ggX7_isReady_X7_inState
theorem dX7_isReady_0 : decode cX7_isReady 0 = .ok (.aload_n 0, 1) := by decide +kernel
theorem dX7_isReady_1 : decode cX7_isReady 1 = .ok (.getfield 12, 3) := by decide +kernel
theorem dX7_isReady_4 : decode cX7_isReady 4 = .ok (.iload_n 1, 1) := by decide +kernel
theorem dX7_isReady_5 : decode cX7_isReady 5 = .ok (.invokevirtual 66, 3) := by decide +kernel
theorem dX7_isReady_8 : decode cX7_isReady 8 = .ok (.checkcast 46, 3) := by decide +kernel
theorem dX7_isReady_11 : decode cX7_isReady 11 = .ok (.astore_n 2, 1) := by decide +kernel
theorem dX7_isReady_12 : decode cX7_isReady 12 = .ok (.aload_n 2, 1) := by decide +kernel
theorem dX7_isReady_13 : decode cX7_isReady 13 = .ok (.iconst 4, 1) := by decide +kernel
theorem dX7_isReady_14 : decode cX7_isReady 14 = .ok (.iaload, 1) := by decide +kernel
theorem dX7_isReady_15 : decode cX7_isReady 15 = .ok (.ifCond .ne 28, 3) := by decide +kernel
theorem dX7_isReady_18 : decode cX7_isReady 18 = .ok (.aload_n 2, 1) := by decide +kernel
theorem dX7_isReady_19 : decode cX7_isReady 19 = .ok (.bipush 8, 2) := by decide +kernel
theorem dX7_isReady_21 : decode cX7_isReady 21 = .ok (.iaload, 1) := by decide +kernel
theorem dX7_isReady_22 : decode cX7_isReady 22 = .ok (.ifCond .ne 21, 3) := by decide +kernel
theorem dX7_isReady_25 : decode cX7_isReady 25 = .ok (.aload_n 2, 1) := by decide +kernel
theorem dX7_isReady_26 : decode cX7_isReady 26 = .ok (.iconst 0, 1) := by decide +kernel
theorem dX7_isReady_27 : decode cX7_isReady 27 = .ok (.iaload, 1) := by decide +kernel
theorem dX7_isReady_28 : decode cX7_isReady 28 = .ok (.aload_n 0, 1) := by decide +kernel
theorem dX7_isReady_29 : decode cX7_isReady 29 = .ok (.iconst 1, 1) := by decide +kernel
theorem dX7_isReady_30 : decode cX7_isReady 30 = .ok (.invokevirtual 70, 3) := by decide +kernel
theorem dX7_isReady_33 : decode cX7_isReady 33 = .ok (.iconst (-1), 1) := by decide +kernel
theorem dX7_isReady_34 : decode cX7_isReady 34 = .ok (.ixor, 1) := by decide +kernel
theorem dX7_isReady_35 : decode cX7_isReady 35 = .ok (.iand, 1) := by decide +kernel
theorem dX7_isReady_36 : decode cX7_isReady 36 = .ok (.ifCond .ne 7, 3) := by decide +kernel
theorem dX7_isReady_39 : decode cX7_isReady 39 = .ok (.iconst 1, 1) := by decide +kernel
theorem dX7_isReady_40 : decode cX7_isReady 40 = .ok (.goto 4, 3) := by decide +kernel
theorem dX7_isReady_44 : decode cX7_isReady 44 = .ok (.ireturn, 1) := by decide +kernel
set_option maxRecDepth 20000 in
theorem ggX7_ready_Jx4a65c_size_8abf5 : GoodIn wsX7_ready wsJx4a65c_size_8abf5 := goodIn_r _ [6, 7, 50, 51, 52] (by decide +kernel) (by decide +kernel)
set_option maxRecDepth 20000 in
theorem gX7_ready_Jx4a65c_size_8abf5 : GoodIn wsX7_ready (wsV RX7 62 RJx4a65c yJx4a65c_size_8abf5 wsJx4a65c_size_8abf5) := goodIn_app (goodIn_of _ (by decide +kernel)) ggX7_ready_Jx4a65c_size_8abf5
set_option maxRecDepth 20000 in
theorem ggX7_ready_X7_isReady : GoodIn wsX7_ready wsX7_isReady := goodIn_r _ [12, 1, 13, 14, 15, 16, 5, 17, 7, 18, 19, 20, 21, 22, 23, 24, 25, 26, 27, 28, 29, 30, 31, 32, 33, 11, 34, 35, 2, 3, 4, 6, 36, 37, 38, 39, 40, 41, 42, 43, 44, 45, 46, 47, 48, 49, 50, 51, 52] (by decide +kernel) (by decide +kernel)
set_option maxRecDepth 20000 in
theorem gX7_ready_X7_isReady : GoodIn wsX7_ready (wsV RX7 74 RX7 yX7_isReady wsX7_isReady) := goodIn_app (goodIn_of _ (by decide +kernel)) ggX7_ready_X7_isReady
theorem dX7_ready_0 : decode cX7_ready 0 = .ok (.iconst 0, 1) := by decide +kernel
theorem dX7_ready_1 : decode cX7_ready 1 = .ok (.istore_n 1, 1) := by decide +kernel
theorem dX7_ready_2 : decode cX7_ready 2 = .ok (.iconst 0, 1) := by decide +kernel
theorem dX7_ready_3 : decode cX7_ready 3 = .ok (.istore_n 2, 1) := by decide +kernel
theorem dX7_ready_4 : decode cX7_ready 4 = .ok (.iload_n 2, 1) := by decide +kernel
theorem dX7_ready_5 : decode cX7_ready 5 = .ok (.aload_n 0, 1) := by decide +kernel
theorem dX7_ready_6 : decode cX7_ready 6 = .ok (.getfield 12, 3) := by decide +kernel
theorem dX7_ready_9 : decode cX7_ready 9 = .ok (.invokevirtual 62, 3) := by decide +kernel
theorem dX7_ready_12 : decode cX7_ready 12 = .ok (.if_icmp .ge 23, 3) := by decide +kernel
theorem dX7_ready_15 : decode cX7_ready 15 = .ok (.aload_n 0, 1) := by decide +kernel
theorem dX7_ready_16 : decode cX7_ready 16 = .ok (.iload_n 2, 1) := by decide +kernel
theorem dX7_ready_17 : decode cX7_ready 17 = .ok (.invokevirtual 74, 3) := by decide +kernel
theorem dX7_ready_20 : decode cX7_ready 20 = .ok (.ifCond .eq 9, 3) := by decide +kernel
theorem dX7_ready_23 : decode cX7_ready 23 = .ok (.iload_n 1, 1) := by decide +kernel
theorem dX7_ready_24 : decode cX7_ready 24 = .ok (.iconst 1, 1) := by decide +kernel
theorem dX7_ready_25 : decode cX7_ready 25 = .ok (.iload_n 2, 1) := by decide +kernel
theorem dX7_ready_26 : decode cX7_ready 26 = .ok (.ishl, 1) := by decide +kernel
theorem dX7_ready_27 : decode cX7_ready 27 = .ok (.ior, 1) := by decide +kernel
theorem dX7_ready_28 : decode cX7_ready 28 = .ok (.istore_n 1, 1) := by decide +kernel
theorem dX7_ready_29 : decode cX7_ready 29 = .ok (.iinc 2 1, 3) := by decide +kernel
theorem dX7_ready_32 : decode cX7_ready 32 = .ok (.goto (-28), 3) := by decide +kernel
theorem dX7_ready_35 : decode cX7_ready 35 = .ok (.iload_n 1, 1) := by decide +kernel
theorem dX7_ready_36 : decode cX7_ready 36 = .ok (.ireturn, 1) := by decide +kernel
set_option maxRecDepth 20000 in
theorem ggX7_isReached_Jx4a65c_get_915e3 : GoodIn wsX7_isReached wsJx4a65c_get_915e3 := goodIn_r _ [8, 9, 10, 11, 12, 13, 14, 15, 16, 17, 18, 19, 20, 7, 21, 22, 37, 38, 39] (by decide +kernel) (by decide +kernel)
set_option maxRecDepth 20000 in
theorem gX7_isReached_Jx4a65c_get_915e3 : GoodIn wsX7_isReached (wsV RX7 66 RJx4a65c yJx4a65c_get_915e3 wsJx4a65c_get_915e3) := goodIn_app (goodIn_of _ (by decide +kernel)) ggX7_isReached_Jx4a65c_get_915e3
theorem dX7_isReached_0 : decode cX7_isReached 0 = .ok (.aload_n 0, 1) := by decide +kernel
theorem dX7_isReached_1 : decode cX7_isReached 1 = .ok (.getfield 18, 3) := by decide +kernel
theorem dX7_isReached_4 : decode cX7_isReached 4 = .ok (.iload_n 1, 1) := by decide +kernel
theorem dX7_isReached_5 : decode cX7_isReached 5 = .ok (.invokevirtual 66, 3) := by decide +kernel
theorem dX7_isReached_8 : decode cX7_isReached 8 = .ok (.checkcast 46, 3) := by decide +kernel
theorem dX7_isReached_11 : decode cX7_isReached 11 = .ok (.astore_n 2, 1) := by decide +kernel
theorem dX7_isReached_12 : decode cX7_isReached 12 = .ok (.aload_n 2, 1) := by decide +kernel
theorem dX7_isReached_13 : decode cX7_isReached 13 = .ok (.iconst 3, 1) := by decide +kernel
theorem dX7_isReached_14 : decode cX7_isReached 14 = .ok (.iaload, 1) := by decide +kernel
theorem dX7_isReached_15 : decode cX7_isReached 15 = .ok (.ifCond .ne 33, 3) := by decide +kernel
theorem dX7_isReached_18 : decode cX7_isReached 18 = .ok (.aload_n 2, 1) := by decide +kernel
theorem dX7_isReached_19 : decode cX7_isReached 19 = .ok (.iconst 0, 1) := by decide +kernel
theorem dX7_isReached_20 : decode cX7_isReached 20 = .ok (.iaload, 1) := by decide +kernel
theorem dX7_isReached_21 : decode cX7_isReached 21 = .ok (.iconst (-1), 1) := by decide +kernel
theorem dX7_isReached_22 : decode cX7_isReached 22 = .ok (.if_icmp .eq 22, 3) := by decide +kernel
theorem dX7_isReached_44 : decode cX7_isReached 44 = .ok (.iconst 1, 1) := by decide +kernel
theorem dX7_isReached_45 : decode cX7_isReached 45 = .ok (.goto 4, 3) := by decide +kernel
theorem dX7_isReached_49 : decode cX7_isReached 49 = .ok (.ireturn, 1) := by decide +kernel
set_option maxRecDepth 20000 in
theorem ggX7_atHand_Jx4a65c_size_8abf5 : GoodIn wsX7_atHand wsJx4a65c_size_8abf5 := goodIn_r _ [8, 9, 41, 42, 43] (by decide +kernel) (by decide +kernel)
set_option maxRecDepth 20000 in
theorem gX7_atHand_Jx4a65c_size_8abf5 : GoodIn wsX7_atHand (wsV RX7 62 RJx4a65c yJx4a65c_size_8abf5 wsJx4a65c_size_8abf5) := goodIn_app (goodIn_of _ (by decide +kernel)) ggX7_atHand_Jx4a65c_size_8abf5
set_option maxRecDepth 20000 in
theorem ggX7_atHand_Jx4a65c_get_915e3 : GoodIn wsX7_atHand wsJx4a65c_get_915e3 := goodIn_r _ [13, 9, 14, 15, 16, 17, 18, 19, 20, 21, 22, 23, 24, 7, 25, 26, 41, 42, 43] (by decide +kernel) (by decide +kernel)
set_option maxRecDepth 20000 in
theorem gX7_atHand_Jx4a65c_get_915e3 : GoodIn wsX7_atHand (wsV RX7 66 RJx4a65c yJx4a65c_get_915e3 wsJx4a65c_get_915e3) := goodIn_app (goodIn_of _ (by decide +kernel)) ggX7_atHand_Jx4a65c_get_915e3
theorem dX7_atHand_0 : decode cX7_atHand 0 = .ok (.iconst 0, 1) := by decide +kernel
theorem dX7_atHand_1 : decode cX7_atHand 1 = .ok (.istore_n 3, 1) := by decide +kernel
theorem dX7_atHand_2 : decode cX7_atHand 2 = .ok (.iconst 0, 1) := by decide +kernel
theorem dX7_atHand_3 : decode cX7_atHand 3 = .ok (.istore 4, 2) := by decide +kernel
theorem dX7_atHand_5 : decode cX7_atHand 5 = .ok (.iload 4, 2) := by decide +kernel
theorem dX7_atHand_7 : decode cX7_atHand 7 = .ok (.aload_n 0, 1) := by decide +kernel
theorem dX7_atHand_8 : decode cX7_atHand 8 = .ok (.getfield 18, 3) := by decide +kernel
theorem dX7_atHand_11 : decode cX7_atHand 11 = .ok (.invokevirtual 62, 3) := by decide +kernel
theorem dX7_atHand_14 : decode cX7_atHand 14 = .ok (.if_icmp .ge 77, 3) := by decide +kernel
theorem dX7_atHand_17 : decode cX7_atHand 17 = .ok (.aload_n 0, 1) := by decide +kernel
theorem dX7_atHand_18 : decode cX7_atHand 18 = .ok (.getfield 18, 3) := by decide +kernel
theorem dX7_atHand_21 : decode cX7_atHand 21 = .ok (.iload 4, 2) := by decide +kernel
theorem dX7_atHand_23 : decode cX7_atHand 23 = .ok (.invokevirtual 66, 3) := by decide +kernel
theorem dX7_atHand_26 : decode cX7_atHand 26 = .ok (.checkcast 46, 3) := by decide +kernel
theorem dX7_atHand_29 : decode cX7_atHand 29 = .ok (.astore 5, 2) := by decide +kernel
theorem dX7_atHand_31 : decode cX7_atHand 31 = .ok (.aload 5, 2) := by decide +kernel
theorem dX7_atHand_33 : decode cX7_atHand 33 = .ok (.iconst 3, 1) := by decide +kernel
theorem dX7_atHand_34 : decode cX7_atHand 34 = .ok (.iaload, 1) := by decide +kernel
theorem dX7_atHand_35 : decode cX7_atHand 35 = .ok (.ifCond .ne 27, 3) := by decide +kernel
theorem dX7_atHand_38 : decode cX7_atHand 38 = .ok (.aload 5, 2) := by decide +kernel
theorem dX7_atHand_40 : decode cX7_atHand 40 = .ok (.iconst 0, 1) := by decide +kernel
theorem dX7_atHand_41 : decode cX7_atHand 41 = .ok (.iaload, 1) := by decide +kernel
theorem dX7_atHand_42 : decode cX7_atHand 42 = .ok (.iconst (-1), 1) := by decide +kernel
theorem dX7_atHand_43 : decode cX7_atHand 43 = .ok (.if_icmp .eq 15, 3) := by decide +kernel
theorem dX7_atHand_58 : decode cX7_atHand 58 = .ok (.iconst 1, 1) := by decide +kernel
theorem dX7_atHand_59 : decode cX7_atHand 59 = .ok (.goto 4, 3) := by decide +kernel
theorem dX7_atHand_62 : decode cX7_atHand 62 = .ok (.iconst 0, 1) := by decide +kernel
theorem dX7_atHand_63 : decode cX7_atHand 63 = .ok (.istore 6, 2) := by decide +kernel
theorem dX7_atHand_65 : decode cX7_atHand 65 = .ok (.iload 6, 2) := by decide +kernel
theorem dX7_atHand_67 : decode cX7_atHand 67 = .ok (.ifCond .ne 11, 3) := by decide +kernel
theorem dX7_atHand_70 : decode cX7_atHand 70 = .ok (.aload 5, 2) := by decide +kernel
theorem dX7_atHand_72 : decode cX7_atHand 72 = .ok (.iconst 3, 1) := by decide +kernel
theorem dX7_atHand_73 : decode cX7_atHand 73 = .ok (.iaload, 1) := by decide +kernel
theorem dX7_atHand_74 : decode cX7_atHand 74 = .ok (.iconst 1, 1) := by decide +kernel
theorem dX7_atHand_75 : decode cX7_atHand 75 = .ok (.if_icmp .ne 10, 3) := by decide +kernel
theorem dX7_atHand_78 : decode cX7_atHand 78 = .ok (.iload_n 3, 1) := by decide +kernel
theorem dX7_atHand_79 : decode cX7_atHand 79 = .ok (.iconst 1, 1) := by decide +kernel
theorem dX7_atHand_80 : decode cX7_atHand 80 = .ok (.iload 4, 2) := by decide +kernel
theorem dX7_atHand_82 : decode cX7_atHand 82 = .ok (.ishl, 1) := by decide +kernel
theorem dX7_atHand_83 : decode cX7_atHand 83 = .ok (.ior, 1) := by decide +kernel
theorem dX7_atHand_84 : decode cX7_atHand 84 = .ok (.istore_n 3, 1) := by decide +kernel
theorem dX7_atHand_85 : decode cX7_atHand 85 = .ok (.iinc 4 1, 3) := by decide +kernel
theorem dX7_atHand_88 : decode cX7_atHand 88 = .ok (.goto (-83), 3) := by decide +kernel
theorem dX7_atHand_91 : decode cX7_atHand 91 = .ok (.iconst 0, 1) := by decide +kernel
theorem dX7_atHand_92 : decode cX7_atHand 92 = .ok (.istore 4, 2) := by decide +kernel
theorem dX7_atHand_94 : decode cX7_atHand 94 = .ok (.iload 4, 2) := by decide +kernel
theorem dX7_atHand_96 : decode cX7_atHand 96 = .ok (.aload_n 0, 1) := by decide +kernel
theorem dX7_atHand_97 : decode cX7_atHand 97 = .ok (.getfield 12, 3) := by decide +kernel
theorem dX7_atHand_100 : decode cX7_atHand 100 = .ok (.invokevirtual 62, 3) := by decide +kernel
theorem dX7_atHand_103 : decode cX7_atHand 103 = .ok (.if_icmp .ge 42, 3) := by decide +kernel
theorem dX7_atHand_106 : decode cX7_atHand 106 = .ok (.iload_n 1, 1) := by decide +kernel
theorem dX7_atHand_107 : decode cX7_atHand 107 = .ok (.iload_n 2, 1) := by decide +kernel
theorem dX7_atHand_108 : decode cX7_atHand 108 = .ok (.iconst (-1), 1) := by decide +kernel
theorem dX7_atHand_109 : decode cX7_atHand 109 = .ok (.ixor, 1) := by decide +kernel
theorem dX7_atHand_110 : decode cX7_atHand 110 = .ok (.iand, 1) := by decide +kernel
theorem dX7_atHand_111 : decode cX7_atHand 111 = .ok (.iload 4, 2) := by decide +kernel
theorem dX7_atHand_113 : decode cX7_atHand 113 = .ok (.ishr, 1) := by decide +kernel
theorem dX7_atHand_114 : decode cX7_atHand 114 = .ok (.iconst 1, 1) := by decide +kernel
theorem dX7_atHand_115 : decode cX7_atHand 115 = .ok (.iand, 1) := by decide +kernel
theorem dX7_atHand_116 : decode cX7_atHand 116 = .ok (.iconst 1, 1) := by decide +kernel
theorem dX7_atHand_117 : decode cX7_atHand 117 = .ok (.if_icmp .ne 22, 3) := by decide +kernel
theorem dX7_atHand_120 : decode cX7_atHand 120 = .ok (.iload_n 3, 1) := by decide +kernel
theorem dX7_atHand_121 : decode cX7_atHand 121 = .ok (.aload_n 0, 1) := by decide +kernel
theorem dX7_atHand_122 : decode cX7_atHand 122 = .ok (.getfield 12, 3) := by decide +kernel
theorem dX7_atHand_125 : decode cX7_atHand 125 = .ok (.iload 4, 2) := by decide +kernel
theorem dX7_atHand_127 : decode cX7_atHand 127 = .ok (.invokevirtual 66, 3) := by decide +kernel
theorem dX7_atHand_130 : decode cX7_atHand 130 = .ok (.checkcast 46, 3) := by decide +kernel
theorem dX7_atHand_133 : decode cX7_atHand 133 = .ok (.iconst 1, 1) := by decide +kernel
theorem dX7_atHand_134 : decode cX7_atHand 134 = .ok (.iaload, 1) := by decide +kernel
theorem dX7_atHand_135 : decode cX7_atHand 135 = .ok (.iconst (-1), 1) := by decide +kernel
theorem dX7_atHand_136 : decode cX7_atHand 136 = .ok (.ixor, 1) := by decide +kernel
theorem dX7_atHand_137 : decode cX7_atHand 137 = .ok (.iand, 1) := by decide +kernel
theorem dX7_atHand_138 : decode cX7_atHand 138 = .ok (.istore_n 3, 1) := by decide +kernel
theorem dX7_atHand_139 : decode cX7_atHand 139 = .ok (.iinc 4 1, 3) := by decide +kernel
theorem dX7_atHand_142 : decode cX7_atHand 142 = .ok (.goto (-48), 3) := by decide +kernel
theorem dX7_atHand_145 : decode cX7_atHand 145 = .ok (.iload_n 3, 1) := by decide +kernel
theorem dX7_atHand_146 : decode cX7_atHand 146 = .ok (.ireturn, 1) := by decide +kernel
set_option maxRecDepth 20000 in
theorem ggX7_next_X7_atHand : GoodIn wsX7_next wsX7_atHand := goodIn_r _ [7, 8, 2, 1, 9, 10, 11, 12, 13, 14, 15, 16, 17, 18, 19, 20, 21, 22, 23, 24, 25, 26, 27, 28, 29, 30, 31, 32, 33, 34, 35, 36, 37, 38, 39, 40, 41, 42, 43, 44, 45, 46, 47, 48] (by decide +kernel) (by decide +kernel)
set_option maxRecDepth 20000 in
theorem gX7_next_X7_atHand : GoodIn wsX7_next (wsV RX7 123 RX7 yX7_atHand wsX7_atHand) := goodIn_app (goodIn_of _ (by decide +kernel)) ggX7_next_X7_atHand
set_option maxRecDepth 20000 in
theorem ggX7_next_Jx4a65c_size_8abf5 : GoodIn wsX7_next wsJx4a65c_size_8abf5 := goodIn_r _ [13, 14, 46, 47, 48] (by decide +kernel) (by decide +kernel)
set_option maxRecDepth 20000 in
theorem gX7_next_Jx4a65c_size_8abf5 : GoodIn wsX7_next (wsV RX7 62 RJx4a65c yJx4a65c_size_8abf5 wsJx4a65c_size_8abf5) := goodIn_app (goodIn_of _ (by decide +kernel)) ggX7_next_Jx4a65c_size_8abf5
set_option maxRecDepth 20000 in
theorem ggX7_next_Jx4a65c_get_915e3 : GoodIn wsX7_next wsJx4a65c_get_915e3 := goodIn_r _ [18, 14, 19, 20, 21, 22, 23, 24, 25, 26, 27, 28, 29, 12, 30, 31, 46, 47, 48] (by decide +kernel) (by decide +kernel)
set_option maxRecDepth 20000 in
theorem gX7_next_Jx4a65c_get_915e3 : GoodIn wsX7_next (wsV RX7 66 RJx4a65c yJx4a65c_get_915e3 wsJx4a65c_get_915e3) := goodIn_app (goodIn_of _ (by decide +kernel)) ggX7_next_Jx4a65c_get_915e3
theorem dX7_next_0 : decode cX7_next 0 = .ok (.aload_n 0, 1) := by decide +kernel
theorem dX7_next_1 : decode cX7_next 1 = .ok (.iload_n 1, 1) := by decide +kernel
theorem dX7_next_2 : decode cX7_next 2 = .ok (.iload_n 2, 1) := by decide +kernel
theorem dX7_next_3 : decode cX7_next 3 = .ok (.invokevirtual 123, 3) := by decide +kernel
theorem dX7_next_6 : decode cX7_next 6 = .ok (.istore_n 3, 1) := by decide +kernel
theorem dX7_next_7 : decode cX7_next 7 = .ok (.iconst 0, 1) := by decide +kernel
theorem dX7_next_8 : decode cX7_next 8 = .ok (.istore 4, 2) := by decide +kernel
theorem dX7_next_10 : decode cX7_next 10 = .ok (.iconst 0, 1) := by decide +kernel
theorem dX7_next_11 : decode cX7_next 11 = .ok (.istore 5, 2) := by decide +kernel
theorem dX7_next_13 : decode cX7_next 13 = .ok (.iload 5, 2) := by decide +kernel
theorem dX7_next_15 : decode cX7_next 15 = .ok (.aload_n 0, 1) := by decide +kernel
theorem dX7_next_16 : decode cX7_next 16 = .ok (.getfield 12, 3) := by decide +kernel
theorem dX7_next_19 : decode cX7_next 19 = .ok (.invokevirtual 62, 3) := by decide +kernel
theorem dX7_next_22 : decode cX7_next 22 = .ok (.if_icmp .ge 60, 3) := by decide +kernel
theorem dX7_next_25 : decode cX7_next 25 = .ok (.aload_n 0, 1) := by decide +kernel
theorem dX7_next_26 : decode cX7_next 26 = .ok (.getfield 12, 3) := by decide +kernel
theorem dX7_next_29 : decode cX7_next 29 = .ok (.iload 5, 2) := by decide +kernel
theorem dX7_next_31 : decode cX7_next 31 = .ok (.invokevirtual 66, 3) := by decide +kernel
theorem dX7_next_34 : decode cX7_next 34 = .ok (.checkcast 46, 3) := by decide +kernel
theorem dX7_next_37 : decode cX7_next 37 = .ok (.astore 6, 2) := by decide +kernel
theorem dX7_next_39 : decode cX7_next 39 = .ok (.iload_n 1, 1) := by decide +kernel
theorem dX7_next_40 : decode cX7_next 40 = .ok (.iload 5, 2) := by decide +kernel
theorem dX7_next_42 : decode cX7_next 42 = .ok (.ishr, 1) := by decide +kernel
theorem dX7_next_43 : decode cX7_next 43 = .ok (.iconst 1, 1) := by decide +kernel
theorem dX7_next_44 : decode cX7_next 44 = .ok (.iand, 1) := by decide +kernel
theorem dX7_next_45 : decode cX7_next 45 = .ok (.ifCond .ne 31, 3) := by decide +kernel
theorem dX7_next_48 : decode cX7_next 48 = .ok (.aload 6, 2) := by decide +kernel
theorem dX7_next_50 : decode cX7_next 50 = .ok (.bipush 8, 2) := by decide +kernel
theorem dX7_next_52 : decode cX7_next 52 = .ok (.iaload, 1) := by decide +kernel
theorem dX7_next_53 : decode cX7_next 53 = .ok (.ifCond .ne 23, 3) := by decide +kernel
theorem dX7_next_56 : decode cX7_next 56 = .ok (.aload 6, 2) := by decide +kernel
theorem dX7_next_58 : decode cX7_next 58 = .ok (.iconst 0, 1) := by decide +kernel
theorem dX7_next_59 : decode cX7_next 59 = .ok (.iaload, 1) := by decide +kernel
theorem dX7_next_60 : decode cX7_next 60 = .ok (.iload_n 3, 1) := by decide +kernel
theorem dX7_next_61 : decode cX7_next 61 = .ok (.iconst (-1), 1) := by decide +kernel
theorem dX7_next_62 : decode cX7_next 62 = .ok (.ixor, 1) := by decide +kernel
theorem dX7_next_63 : decode cX7_next 63 = .ok (.iand, 1) := by decide +kernel
theorem dX7_next_64 : decode cX7_next 64 = .ok (.ifCond .ne 12, 3) := by decide +kernel
theorem dX7_next_67 : decode cX7_next 67 = .ok (.iload 4, 2) := by decide +kernel
theorem dX7_next_69 : decode cX7_next 69 = .ok (.iconst 1, 1) := by decide +kernel
theorem dX7_next_70 : decode cX7_next 70 = .ok (.iload 5, 2) := by decide +kernel
theorem dX7_next_72 : decode cX7_next 72 = .ok (.ishl, 1) := by decide +kernel
theorem dX7_next_73 : decode cX7_next 73 = .ok (.ior, 1) := by decide +kernel
theorem dX7_next_74 : decode cX7_next 74 = .ok (.istore 4, 2) := by decide +kernel
theorem dX7_next_76 : decode cX7_next 76 = .ok (.iinc 5 1, 3) := by decide +kernel
theorem dX7_next_79 : decode cX7_next 79 = .ok (.goto (-66), 3) := by decide +kernel
theorem dX7_next_82 : decode cX7_next 82 = .ok (.iload 4, 2) := by decide +kernel
theorem dX7_next_84 : decode cX7_next 84 = .ok (.ireturn, 1) := by decide +kernel
theorem dX7_isEnd_0 : decode cX7_isEnd 0 = .ok (.aload_n 0, 1) := by decide +kernel
theorem dX7_isEnd_1 : decode cX7_isEnd 1 = .ok (.getfield 24, 3) := by decide +kernel
theorem dX7_isEnd_4 : decode cX7_isEnd 4 = .ok (.iconst (-1), 1) := by decide +kernel
theorem dX7_isEnd_5 : decode cX7_isEnd 5 = .ok (.if_icmp .eq 19, 3) := by decide +kernel
theorem dX7_isEnd_8 : decode cX7_isEnd 8 = .ok (.iload_n 1, 1) := by decide +kernel
theorem dX7_isEnd_9 : decode cX7_isEnd 9 = .ok (.aload_n 0, 1) := by decide +kernel
theorem dX7_isEnd_10 : decode cX7_isEnd 10 = .ok (.getfield 24, 3) := by decide +kernel
theorem dX7_isEnd_13 : decode cX7_isEnd 13 = .ok (.ishr, 1) := by decide +kernel
theorem dX7_isEnd_14 : decode cX7_isEnd 14 = .ok (.iconst 1, 1) := by decide +kernel
theorem dX7_isEnd_15 : decode cX7_isEnd 15 = .ok (.iand, 1) := by decide +kernel
theorem dX7_isEnd_16 : decode cX7_isEnd 16 = .ok (.iconst 1, 1) := by decide +kernel
theorem dX7_isEnd_17 : decode cX7_isEnd 17 = .ok (.if_icmp .ne 7, 3) := by decide +kernel
theorem dX7_isEnd_20 : decode cX7_isEnd 20 = .ok (.iconst 1, 1) := by decide +kernel
theorem dX7_isEnd_21 : decode cX7_isEnd 21 = .ok (.goto 4, 3) := by decide +kernel
theorem dX7_isEnd_24 : decode cX7_isEnd 24 = .ok (.iconst 0, 1) := by decide +kernel
theorem dX7_isEnd_25 : decode cX7_isEnd 25 = .ok (.ireturn, 1) := by decide +kernel
set_option maxRecDepth 20000 in
theorem ggX7_steps_X7_next : GoodIn wsX7_steps wsX7_next := goodIn_r _ [6, 7, 8, 9, 10, 11, 5, 12, 13, 14, 15, 16, 17, 18, 19, 20, 21, 22, 23, 24, 25, 26, 27, 28, 29, 30, 31, 32, 33, 34, 35, 36, 37, 38, 39, 40, 41, 42, 43, 44, 45, 46, 47, 48, 49, 50, 51, 52, 53] (by decide +kernel) (by decide +kernel)
set_option maxRecDepth 20000 in
theorem gX7_steps_X7_next : GoodIn wsX7_steps (wsV RX7 126 RX7 yX7_next wsX7_next) := goodIn_app (goodIn_of _ (by decide +kernel)) ggX7_steps_X7_next
theorem dX7_steps_0 : decode cX7_steps 0 = .ok (.sipush 1024, 3) := by decide +kernel
theorem dX7_steps_3 : decode cX7_steps 3 = .ok (.newarray .int, 2) := by decide +kernel
theorem dX7_steps_5 : decode cX7_steps 5 = .ok (.astore_n 3, 1) := by decide +kernel
theorem dX7_steps_6 : decode cX7_steps 6 = .ok (.iconst 0, 1) := by decide +kernel
theorem dX7_steps_7 : decode cX7_steps 7 = .ok (.istore 4, 2) := by decide +kernel
theorem dX7_steps_9 : decode cX7_steps 9 = .ok (.iload 4, 2) := by decide +kernel
theorem dX7_steps_11 : decode cX7_steps 11 = .ok (.aload_n 3, 1) := by decide +kernel
theorem dX7_steps_12 : decode cX7_steps 12 = .ok (.arraylength, 1) := by decide +kernel
theorem dX7_steps_13 : decode cX7_steps 13 = .ok (.if_icmp .ge 14, 3) := by decide +kernel
theorem dX7_steps_16 : decode cX7_steps 16 = .ok (.aload_n 3, 1) := by decide +kernel
theorem dX7_steps_17 : decode cX7_steps 17 = .ok (.iload 4, 2) := by decide +kernel
theorem dX7_steps_19 : decode cX7_steps 19 = .ok (.iconst (-1), 1) := by decide +kernel
theorem dX7_steps_20 : decode cX7_steps 20 = .ok (.iastore, 1) := by decide +kernel
theorem dX7_steps_21 : decode cX7_steps 21 = .ok (.iinc 4 1, 3) := by decide +kernel
theorem dX7_steps_24 : decode cX7_steps 24 = .ok (.goto (-15), 3) := by decide +kernel
theorem dX7_steps_27 : decode cX7_steps 27 = .ok (.aload_n 3, 1) := by decide +kernel
theorem dX7_steps_28 : decode cX7_steps 28 = .ok (.iload_n 1, 1) := by decide +kernel
theorem dX7_steps_29 : decode cX7_steps 29 = .ok (.iconst 0, 1) := by decide +kernel
theorem dX7_steps_30 : decode cX7_steps 30 = .ok (.iastore, 1) := by decide +kernel
theorem dX7_steps_31 : decode cX7_steps 31 = .ok (.iload_n 1, 1) := by decide +kernel
theorem dX7_steps_32 : decode cX7_steps 32 = .ok (.istore 4, 2) := by decide +kernel
theorem dX7_steps_34 : decode cX7_steps 34 = .ok (.iload 4, 2) := by decide +kernel
theorem dX7_steps_36 : decode cX7_steps 36 = .ok (.aload_n 3, 1) := by decide +kernel
theorem dX7_steps_37 : decode cX7_steps 37 = .ok (.arraylength, 1) := by decide +kernel
theorem dX7_steps_38 : decode cX7_steps 38 = .ok (.if_icmp .ge 71, 3) := by decide +kernel
theorem dX7_steps_41 : decode cX7_steps 41 = .ok (.aload_n 3, 1) := by decide +kernel
theorem dX7_steps_42 : decode cX7_steps 42 = .ok (.iload 4, 2) := by decide +kernel
theorem dX7_steps_44 : decode cX7_steps 44 = .ok (.iaload, 1) := by decide +kernel
theorem dX7_steps_45 : decode cX7_steps 45 = .ok (.iconst (-1), 1) := by decide +kernel
theorem dX7_steps_46 : decode cX7_steps 46 = .ok (.if_icmp .ne 6, 3) := by decide +kernel
theorem dX7_steps_49 : decode cX7_steps 49 = .ok (.goto 54, 3) := by decide +kernel
theorem dX7_steps_52 : decode cX7_steps 52 = .ok (.aload_n 0, 1) := by decide +kernel
theorem dX7_steps_53 : decode cX7_steps 53 = .ok (.iload 4, 2) := by decide +kernel
theorem dX7_steps_55 : decode cX7_steps 55 = .ok (.iload_n 2, 1) := by decide +kernel
theorem dX7_steps_56 : decode cX7_steps 56 = .ok (.invokevirtual 126, 3) := by decide +kernel
theorem dX7_steps_59 : decode cX7_steps 59 = .ok (.istore 5, 2) := by decide +kernel
theorem dX7_steps_61 : decode cX7_steps 61 = .ok (.iconst 0, 1) := by decide +kernel
theorem dX7_steps_62 : decode cX7_steps 62 = .ok (.istore 6, 2) := by decide +kernel
theorem dX7_steps_64 : decode cX7_steps 64 = .ok (.iload 6, 2) := by decide +kernel
theorem dX7_steps_66 : decode cX7_steps 66 = .ok (.bipush 10, 2) := by decide +kernel
theorem dX7_steps_68 : decode cX7_steps 68 = .ok (.if_icmp .ge 35, 3) := by decide +kernel
theorem dX7_steps_71 : decode cX7_steps 71 = .ok (.iload 5, 2) := by decide +kernel
theorem dX7_steps_73 : decode cX7_steps 73 = .ok (.iload 6, 2) := by decide +kernel
theorem dX7_steps_75 : decode cX7_steps 75 = .ok (.ishr, 1) := by decide +kernel
theorem dX7_steps_76 : decode cX7_steps 76 = .ok (.iconst 1, 1) := by decide +kernel
theorem dX7_steps_77 : decode cX7_steps 77 = .ok (.iand, 1) := by decide +kernel
theorem dX7_steps_78 : decode cX7_steps 78 = .ok (.iconst 1, 1) := by decide +kernel
theorem dX7_steps_79 : decode cX7_steps 79 = .ok (.if_icmp .ne 18, 3) := by decide +kernel
theorem dX7_steps_82 : decode cX7_steps 82 = .ok (.aload_n 3, 1) := by decide +kernel
theorem dX7_steps_83 : decode cX7_steps 83 = .ok (.iload 4, 2) := by decide +kernel
theorem dX7_steps_85 : decode cX7_steps 85 = .ok (.iconst 1, 1) := by decide +kernel
theorem dX7_steps_86 : decode cX7_steps 86 = .ok (.iload 6, 2) := by decide +kernel
theorem dX7_steps_88 : decode cX7_steps 88 = .ok (.ishl, 1) := by decide +kernel
theorem dX7_steps_89 : decode cX7_steps 89 = .ok (.ior, 1) := by decide +kernel
theorem dX7_steps_90 : decode cX7_steps 90 = .ok (.aload_n 3, 1) := by decide +kernel
theorem dX7_steps_91 : decode cX7_steps 91 = .ok (.iload 4, 2) := by decide +kernel
theorem dX7_steps_93 : decode cX7_steps 93 = .ok (.iaload, 1) := by decide +kernel
theorem dX7_steps_94 : decode cX7_steps 94 = .ok (.iconst 1, 1) := by decide +kernel
theorem dX7_steps_95 : decode cX7_steps 95 = .ok (.iadd, 1) := by decide +kernel
theorem dX7_steps_96 : decode cX7_steps 96 = .ok (.iastore, 1) := by decide +kernel
theorem dX7_steps_97 : decode cX7_steps 97 = .ok (.iinc 6 1, 3) := by decide +kernel
theorem dX7_steps_100 : decode cX7_steps 100 = .ok (.goto (-36), 3) := by decide +kernel
theorem dX7_steps_103 : decode cX7_steps 103 = .ok (.iinc 4 1, 3) := by decide +kernel
theorem dX7_steps_106 : decode cX7_steps 106 = .ok (.goto (-72), 3) := by decide +kernel
theorem dX7_steps_109 : decode cX7_steps 109 = .ok (.aload_n 3, 1) := by decide +kernel
theorem dX7_steps_110 : decode cX7_steps 110 = .ok (.areturn, 1) := by decide +kernel
set_option maxRecDepth 20000 in
theorem ggX7_depth_X7_steps : GoodIn wsX7_depth wsX7_steps := goodIn_r _ [5, 6, 7, 8, 9, 4, 10, 11, 12, 13, 14, 15, 16, 17, 18, 19, 20, 21, 22, 23, 24, 25, 26, 27, 28, 29, 30, 31, 32, 33, 34, 35, 36, 37, 38, 39, 40, 46, 47, 48, 49, 50, 51, 52, 53, 54, 55, 56, 57, 58, 59, 60, 61, 62] (by decide +kernel) (by decide +kernel)
set_option maxRecDepth 20000 in
theorem gX7_depth_X7_steps : GoodIn wsX7_depth (wsV RX7 128 RX7 yX7_steps wsX7_steps) := goodIn_app (goodIn_of _ (by decide +kernel)) ggX7_depth_X7_steps
set_option maxRecDepth 20000 in
theorem ggX7_depth_X7_isEnd : GoodIn wsX7_depth wsX7_isEnd := goodIn_r _ [44, 45, 46, 47, 48, 49, 50, 51, 52, 53, 54, 55, 56, 57, 58, 59] (by decide +kernel) (by decide +kernel)
set_option maxRecDepth 20000 in
theorem gX7_depth_X7_isEnd : GoodIn wsX7_depth (wsV RX7 132 RX7 yX7_isEnd wsX7_isEnd) := goodIn_app (goodIn_of _ (by decide +kernel)) ggX7_depth_X7_isEnd
theorem dX7_depth_0 : decode cX7_depth 0 = .ok (.aload_n 0, 1) := by decide +kernel
theorem dX7_depth_1 : decode cX7_depth 1 = .ok (.iload_n 1, 1) := by decide +kernel
theorem dX7_depth_2 : decode cX7_depth 2 = .ok (.iload_n 2, 1) := by decide +kernel
theorem dX7_depth_3 : decode cX7_depth 3 = .ok (.invokevirtual 128, 3) := by decide +kernel
theorem dX7_depth_6 : decode cX7_depth 6 = .ok (.astore_n 3, 1) := by decide +kernel
theorem dX7_depth_7 : decode cX7_depth 7 = .ok (.iconst (-1), 1) := by decide +kernel
theorem dX7_depth_8 : decode cX7_depth 8 = .ok (.istore 4, 2) := by decide +kernel
theorem dX7_depth_10 : decode cX7_depth 10 = .ok (.iconst 0, 1) := by decide +kernel
theorem dX7_depth_11 : decode cX7_depth 11 = .ok (.istore 5, 2) := by decide +kernel
theorem dX7_depth_13 : decode cX7_depth 13 = .ok (.iload 5, 2) := by decide +kernel
theorem dX7_depth_15 : decode cX7_depth 15 = .ok (.aload_n 3, 1) := by decide +kernel
theorem dX7_depth_16 : decode cX7_depth 16 = .ok (.arraylength, 1) := by decide +kernel
theorem dX7_depth_17 : decode cX7_depth 17 = .ok (.if_icmp .ge 47, 3) := by decide +kernel
theorem dX7_depth_20 : decode cX7_depth 20 = .ok (.aload_n 3, 1) := by decide +kernel
theorem dX7_depth_21 : decode cX7_depth 21 = .ok (.iload 5, 2) := by decide +kernel
theorem dX7_depth_23 : decode cX7_depth 23 = .ok (.iaload, 1) := by decide +kernel
theorem dX7_depth_24 : decode cX7_depth 24 = .ok (.iconst (-1), 1) := by decide +kernel
theorem dX7_depth_25 : decode cX7_depth 25 = .ok (.if_icmp .eq 33, 3) := by decide +kernel
theorem dX7_depth_28 : decode cX7_depth 28 = .ok (.aload_n 0, 1) := by decide +kernel
theorem dX7_depth_29 : decode cX7_depth 29 = .ok (.iload 5, 2) := by decide +kernel
theorem dX7_depth_31 : decode cX7_depth 31 = .ok (.invokevirtual 132, 3) := by decide +kernel
theorem dX7_depth_34 : decode cX7_depth 34 = .ok (.ifCond .eq 24, 3) := by decide +kernel
theorem dX7_depth_37 : decode cX7_depth 37 = .ok (.iload 4, 2) := by decide +kernel
theorem dX7_depth_39 : decode cX7_depth 39 = .ok (.iconst (-1), 1) := by decide +kernel
theorem dX7_depth_40 : decode cX7_depth 40 = .ok (.if_icmp .eq 12, 3) := by decide +kernel
theorem dX7_depth_43 : decode cX7_depth 43 = .ok (.aload_n 3, 1) := by decide +kernel
theorem dX7_depth_44 : decode cX7_depth 44 = .ok (.iload 5, 2) := by decide +kernel
theorem dX7_depth_46 : decode cX7_depth 46 = .ok (.iaload, 1) := by decide +kernel
theorem dX7_depth_47 : decode cX7_depth 47 = .ok (.iload 4, 2) := by decide +kernel
theorem dX7_depth_49 : decode cX7_depth 49 = .ok (.if_icmp .ge 9, 3) := by decide +kernel
theorem dX7_depth_52 : decode cX7_depth 52 = .ok (.aload_n 3, 1) := by decide +kernel
theorem dX7_depth_53 : decode cX7_depth 53 = .ok (.iload 5, 2) := by decide +kernel
theorem dX7_depth_55 : decode cX7_depth 55 = .ok (.iaload, 1) := by decide +kernel
theorem dX7_depth_56 : decode cX7_depth 56 = .ok (.istore 4, 2) := by decide +kernel
theorem dX7_depth_58 : decode cX7_depth 58 = .ok (.iinc 5 1, 3) := by decide +kernel
theorem dX7_depth_61 : decode cX7_depth 61 = .ok (.goto (-48), 3) := by decide +kernel
theorem dX7_depth_64 : decode cX7_depth 64 = .ok (.iload 4, 2) := by decide +kernel
theorem dX7_depth_66 : decode cX7_depth 66 = .ok (.ireturn, 1) := by decide +kernel
set_option maxRecDepth 20000 in
theorem ggX7_depth__X7_opened : GoodIn wsX7_depth_ wsX7_opened := goodIn_r _ [5, 6, 7, 8, 9, 10, 11, 12, 13, 14, 15, 16, 17, 18, 19, 20, 21, 22, 23, 24, 25, 26, 27, 28, 29, 30, 54, 55, 56, 57, 58, 59, 60, 61, 62, 63, 64, 65, 66, 67, 68, 69, 70] (by decide +kernel) (by decide +kernel)
set_option maxRecDepth 20000 in
theorem gX7_depth__X7_opened : GoodIn wsX7_depth_ (wsV RX7 135 RX7 yX7_opened wsX7_opened) := goodIn_app (goodIn_of _ (by decide +kernel)) ggX7_depth__X7_opened
set_option maxRecDepth 20000 in
theorem ggX7_depth__X7_depth : GoodIn wsX7_depth_ wsX7_depth := goodIn_r _ [34, 35, 36, 37, 4, 38, 39, 40, 41, 42, 43, 6, 7, 44, 45, 46, 47, 48, 8, 9, 10, 11, 12, 13, 14, 15, 16, 17, 18, 19, 20, 21, 22, 23, 24, 25, 26, 27, 28, 29, 30, 49, 50, 51, 52, 53, 54, 55, 56, 57, 58, 59, 60, 61, 62, 63, 64, 65, 66, 67, 68, 69, 70] (by decide +kernel) (by decide +kernel)
set_option maxRecDepth 20000 in
theorem gX7_depth__X7_depth : GoodIn wsX7_depth_ (wsV RX7 138 RX7 yX7_depth wsX7_depth) := goodIn_app (goodIn_of _ (by decide +kernel)) ggX7_depth__X7_depth
theorem dX7_depth__0 : decode cX7_depth_ 0 = .ok (.aload_n 0, 1) := by decide +kernel
theorem dX7_depth__1 : decode cX7_depth_ 1 = .ok (.aload_n 0, 1) := by decide +kernel
theorem dX7_depth__2 : decode cX7_depth_ 2 = .ok (.invokevirtual 135, 3) := by decide +kernel
theorem dX7_depth__5 : decode cX7_depth_ 5 = .ok (.aload_n 0, 1) := by decide +kernel
theorem dX7_depth__6 : decode cX7_depth_ 6 = .ok (.invokevirtual 135, 3) := by decide +kernel
theorem dX7_depth__9 : decode cX7_depth_ 9 = .ok (.invokevirtual 138, 3) := by decide +kernel
theorem dX7_depth__12 : decode cX7_depth_ 12 = .ok (.ireturn, 1) := by decide +kernel
set_option maxRecDepth 20000 in
theorem ggX7_stands_X7_opened : GoodIn wsX7_stands wsX7_opened := goodIn_r _ [5, 6, 7, 8, 9, 10, 11, 12, 13, 14, 15, 16, 17, 18, 19, 20, 21, 22, 23, 24, 25, 26, 27, 28, 29, 30, 45, 46, 47, 48, 49, 50, 51, 52, 53, 54, 55, 56, 57, 58, 59, 60, 61] (by decide +kernel) (by decide +kernel)
set_option maxRecDepth 20000 in
theorem gX7_stands_X7_opened : GoodIn wsX7_stands (wsV RX7 135 RX7 yX7_opened wsX7_opened) := goodIn_app (goodIn_of _ (by decide +kernel)) ggX7_stands_X7_opened
set_option maxRecDepth 20000 in
theorem ggX7_stands_X7_steps : GoodIn wsX7_stands wsX7_steps := goodIn_r _ [34, 35, 36, 37, 38, 4, 39, 6, 7, 40, 41, 42, 43, 44, 8, 9, 10, 11, 12, 13, 14, 15, 16, 17, 18, 19, 20, 21, 22, 23, 24, 25, 26, 27, 28, 29, 30, 45, 46, 47, 48, 49, 50, 51, 52, 53, 54, 55, 56, 57, 58, 59, 60, 61] (by decide +kernel) (by decide +kernel)
set_option maxRecDepth 20000 in
theorem gX7_stands_X7_steps : GoodIn wsX7_stands (wsV RX7 128 RX7 yX7_steps wsX7_steps) := goodIn_app (goodIn_of _ (by decide +kernel)) ggX7_stands_X7_steps
theorem dX7_stands_0 : decode cX7_stands 0 = .ok (.iconst 0, 1) := by decide +kernel
theorem dX7_stands_1 : decode cX7_stands 1 = .ok (.istore_n 1, 1) := by decide +kernel
theorem dX7_stands_2 : decode cX7_stands 2 = .ok (.aload_n 0, 1) := by decide +kernel
theorem dX7_stands_3 : decode cX7_stands 3 = .ok (.aload_n 0, 1) := by decide +kernel
theorem dX7_stands_4 : decode cX7_stands 4 = .ok (.invokevirtual 135, 3) := by decide +kernel
theorem dX7_stands_7 : decode cX7_stands 7 = .ok (.aload_n 0, 1) := by decide +kernel
theorem dX7_stands_8 : decode cX7_stands 8 = .ok (.invokevirtual 135, 3) := by decide +kernel
theorem dX7_stands_11 : decode cX7_stands 11 = .ok (.invokevirtual 128, 3) := by decide +kernel
theorem dX7_stands_14 : decode cX7_stands 14 = .ok (.astore_n 2, 1) := by decide +kernel
theorem dX7_stands_15 : decode cX7_stands 15 = .ok (.aload_n 2, 1) := by decide +kernel
theorem dX7_stands_16 : decode cX7_stands 16 = .ok (.arraylength, 1) := by decide +kernel
theorem dX7_stands_17 : decode cX7_stands 17 = .ok (.istore_n 3, 1) := by decide +kernel
theorem dX7_stands_18 : decode cX7_stands 18 = .ok (.iconst 0, 1) := by decide +kernel
theorem dX7_stands_19 : decode cX7_stands 19 = .ok (.istore 4, 2) := by decide +kernel
theorem dX7_stands_21 : decode cX7_stands 21 = .ok (.iload 4, 2) := by decide +kernel
theorem dX7_stands_23 : decode cX7_stands 23 = .ok (.iload_n 3, 1) := by decide +kernel
theorem dX7_stands_24 : decode cX7_stands 24 = .ok (.if_icmp .ge 29, 3) := by decide +kernel
theorem dX7_stands_27 : decode cX7_stands 27 = .ok (.aload_n 2, 1) := by decide +kernel
theorem dX7_stands_28 : decode cX7_stands 28 = .ok (.iload 4, 2) := by decide +kernel
theorem dX7_stands_30 : decode cX7_stands 30 = .ok (.iaload, 1) := by decide +kernel
theorem dX7_stands_31 : decode cX7_stands 31 = .ok (.istore 5, 2) := by decide +kernel
theorem dX7_stands_33 : decode cX7_stands 33 = .ok (.iload_n 1, 1) := by decide +kernel
theorem dX7_stands_34 : decode cX7_stands 34 = .ok (.iload 5, 2) := by decide +kernel
theorem dX7_stands_36 : decode cX7_stands 36 = .ok (.iconst (-1), 1) := by decide +kernel
theorem dX7_stands_37 : decode cX7_stands 37 = .ok (.if_icmp .ne 7, 3) := by decide +kernel
theorem dX7_stands_40 : decode cX7_stands 40 = .ok (.iconst 0, 1) := by decide +kernel
theorem dX7_stands_41 : decode cX7_stands 41 = .ok (.goto 4, 3) := by decide +kernel
theorem dX7_stands_44 : decode cX7_stands 44 = .ok (.iconst 1, 1) := by decide +kernel
theorem dX7_stands_45 : decode cX7_stands 45 = .ok (.iadd, 1) := by decide +kernel
theorem dX7_stands_46 : decode cX7_stands 46 = .ok (.istore_n 1, 1) := by decide +kernel
theorem dX7_stands_47 : decode cX7_stands 47 = .ok (.iinc 4 1, 3) := by decide +kernel
theorem dX7_stands_50 : decode cX7_stands 50 = .ok (.goto (-29), 3) := by decide +kernel
theorem dX7_stands_53 : decode cX7_stands 53 = .ok (.iload_n 1, 1) := by decide +kernel
theorem dX7_stands_54 : decode cX7_stands 54 = .ok (.ireturn, 1) := by decide +kernel
set_option maxRecDepth 20000 in
theorem ggX7_deadEnds_X7_opened : GoodIn wsX7_deadEnds wsX7_opened := goodIn_r _ [6, 7, 8, 9, 10, 11, 12, 13, 14, 15, 16, 17, 18, 19, 20, 21, 22, 23, 24, 25, 26, 27, 28, 29, 30, 31, 51, 52, 53, 54, 55, 56, 57, 58, 59, 60, 61, 62, 63, 64, 65, 66, 67] (by decide +kernel) (by decide +kernel)
set_option maxRecDepth 20000 in
theorem gX7_deadEnds_X7_opened : GoodIn wsX7_deadEnds (wsV RX7 135 RX7 yX7_opened wsX7_opened) := goodIn_app (goodIn_of _ (by decide +kernel)) ggX7_deadEnds_X7_opened
set_option maxRecDepth 20000 in
theorem ggX7_deadEnds_X7_steps : GoodIn wsX7_deadEnds wsX7_steps := goodIn_r _ [35, 36, 37, 38, 39, 5, 40, 7, 8, 41, 42, 43, 44, 45, 9, 10, 11, 12, 13, 14, 15, 16, 17, 18, 19, 20, 21, 22, 23, 24, 25, 26, 27, 28, 29, 30, 31, 51, 52, 53, 54, 55, 56, 57, 58, 59, 60, 61, 62, 63, 64, 65, 66, 67] (by decide +kernel) (by decide +kernel)
set_option maxRecDepth 20000 in
theorem gX7_deadEnds_X7_steps : GoodIn wsX7_deadEnds (wsV RX7 128 RX7 yX7_steps wsX7_steps) := goodIn_app (goodIn_of _ (by decide +kernel)) ggX7_deadEnds_X7_steps
set_option maxRecDepth 20000 in
theorem ggX7_deadEnds_X7_isEnd : GoodIn wsX7_deadEnds wsX7_isEnd := goodIn_r _ [49, 50, 51, 52, 53, 54, 55, 56, 57, 58, 59, 60, 61, 62, 63, 64] (by decide +kernel) (by decide +kernel)
set_option maxRecDepth 20000 in
theorem gX7_deadEnds_X7_isEnd : GoodIn wsX7_deadEnds (wsV RX7 132 RX7 yX7_isEnd wsX7_isEnd) := goodIn_app (goodIn_of _ (by decide +kernel)) ggX7_deadEnds_X7_isEnd
set_option maxRecDepth 20000 in
theorem ggX7_deadEnds_X7_next : GoodIn wsX7_deadEnds wsX7_next := goodIn_r _ [40, 7, 8, 41, 42, 43, 5, 44, 45, 9, 10, 11, 12, 13, 14, 15, 16, 17, 18, 19, 20, 21, 22, 23, 24, 25, 26, 27, 28, 29, 30, 31, 51, 52, 53, 54, 55, 56, 57, 58, 59, 60, 61, 62, 63, 64, 65, 66, 67] (by decide +kernel) (by decide +kernel)
set_option maxRecDepth 20000 in
theorem gX7_deadEnds_X7_next : GoodIn wsX7_deadEnds (wsV RX7 126 RX7 yX7_next wsX7_next) := goodIn_app (goodIn_of _ (by decide +kernel)) ggX7_deadEnds_X7_next
theorem dX7_deadEnds_0 : decode cX7_deadEnds 0 = .ok (.aload_n 0, 1) := by decide +kernel
theorem dX7_deadEnds_1 : decode cX7_deadEnds 1 = .ok (.invokevirtual 135, 3) := by decide +kernel
theorem dX7_deadEnds_4 : decode cX7_deadEnds 4 = .ok (.istore_n 1, 1) := by decide +kernel
theorem dX7_deadEnds_5 : decode cX7_deadEnds 5 = .ok (.aload_n 0, 1) := by decide +kernel
theorem dX7_deadEnds_6 : decode cX7_deadEnds 6 = .ok (.iload_n 1, 1) := by decide +kernel
theorem dX7_deadEnds_7 : decode cX7_deadEnds 7 = .ok (.iload_n 1, 1) := by decide +kernel
theorem dX7_deadEnds_8 : decode cX7_deadEnds 8 = .ok (.invokevirtual 128, 3) := by decide +kernel
theorem dX7_deadEnds_11 : decode cX7_deadEnds 11 = .ok (.astore_n 2, 1) := by decide +kernel
theorem dX7_deadEnds_12 : decode cX7_deadEnds 12 = .ok (.aload_n 2, 1) := by decide +kernel
theorem dX7_deadEnds_13 : decode cX7_deadEnds 13 = .ok (.arraylength, 1) := by decide +kernel
theorem dX7_deadEnds_14 : decode cX7_deadEnds 14 = .ok (.newarray .boolean, 2) := by decide +kernel
theorem dX7_deadEnds_16 : decode cX7_deadEnds 16 = .ok (.astore_n 3, 1) := by decide +kernel
theorem dX7_deadEnds_17 : decode cX7_deadEnds 17 = .ok (.iconst 0, 1) := by decide +kernel
theorem dX7_deadEnds_18 : decode cX7_deadEnds 18 = .ok (.istore 4, 2) := by decide +kernel
theorem dX7_deadEnds_20 : decode cX7_deadEnds 20 = .ok (.aload_n 2, 1) := by decide +kernel
theorem dX7_deadEnds_21 : decode cX7_deadEnds 21 = .ok (.arraylength, 1) := by decide +kernel
theorem dX7_deadEnds_22 : decode cX7_deadEnds 22 = .ok (.iconst 1, 1) := by decide +kernel
theorem dX7_deadEnds_23 : decode cX7_deadEnds 23 = .ok (.isub, 1) := by decide +kernel
theorem dX7_deadEnds_24 : decode cX7_deadEnds 24 = .ok (.istore 5, 2) := by decide +kernel
theorem dX7_deadEnds_26 : decode cX7_deadEnds 26 = .ok (.iload 5, 2) := by decide +kernel
theorem dX7_deadEnds_28 : decode cX7_deadEnds 28 = .ok (.ifCond .lt 100, 3) := by decide +kernel
theorem dX7_deadEnds_31 : decode cX7_deadEnds 31 = .ok (.aload_n 2, 1) := by decide +kernel
theorem dX7_deadEnds_32 : decode cX7_deadEnds 32 = .ok (.iload 5, 2) := by decide +kernel
theorem dX7_deadEnds_34 : decode cX7_deadEnds 34 = .ok (.iaload, 1) := by decide +kernel
