theorem dX6_lock_8 : decode cX6_lock 8 = .ok (.if_icmp .gt 21, 3) := by decide +kernel
theorem dX6_lock_11 : decode cX6_lock 11 = .ok (.iload_n 2, 1) := by decide +kernel
theorem dX6_lock_12 : decode cX6_lock 12 = .ok (.iload_n 1, 1) := by decide +kernel
theorem dX6_lock_13 : decode cX6_lock 13 = .ok (.iconst (-1), 1) := by decide +kernel
theorem dX6_lock_14 : decode cX6_lock 14 = .ok (.ixor, 1) := by decide +kernel
theorem dX6_lock_15 : decode cX6_lock 15 = .ok (.iand, 1) := by decide +kernel
theorem dX6_lock_16 : decode cX6_lock 16 = .ok (.ifCond .ne 13, 3) := by decide +kernel
theorem dX6_lock_19 : decode cX6_lock 19 = .ok (.iload_n 3, 1) := by decide +kernel
theorem dX6_lock_20 : decode cX6_lock 20 = .ok (.iconst 1, 1) := by decide +kernel
theorem dX6_lock_21 : decode cX6_lock 21 = .ok (.bipush 60, 2) := by decide +kernel
theorem dX6_lock_23 : decode cX6_lock 23 = .ok (.invokestatic 26, 3) := by decide +kernel
theorem dX6_lock_26 : decode cX6_lock 26 = .ok (.ifCond .ne 13, 3) := by decide +kernel
theorem dX6_lock_29 : decode cX6_lock 29 = .ok (.new 30, 3) := by decide +kernel
theorem dX6_lock_32 : decode cX6_lock 32 = .ok (.dup, 1) := by decide +kernel
theorem dX6_lock_33 : decode cX6_lock 33 = .ok (.ldc 32, 2) := by decide +kernel
theorem dX6_lock_35 : decode cX6_lock 35 = .ok (.invokespecial 34, 3) := by decide +kernel
theorem dX6_lock_38 : decode cX6_lock 38 = .ok (.athrow, 1) := by decide +kernel
theorem dX6_lock_39 : decode cX6_lock 39 = .ok (.aload_n 0, 1) := by decide +kernel
theorem dX6_lock_40 : decode cX6_lock 40 = .ok (.getfield 12, 3) := by decide +kernel
theorem dX6_lock_43 : decode cX6_lock 43 = .ok (.getfield 37, 3) := by decide +kernel
theorem dX6_lock_46 : decode cX6_lock 46 = .ok (.bipush 10, 2) := by decide +kernel
theorem dX6_lock_48 : decode cX6_lock 48 = .ok (.if_icmp .ge 16, 3) := by decide +kernel
theorem dX6_lock_51 : decode cX6_lock 51 = .ok (.aload_n 0, 1) := by decide +kernel
theorem dX6_lock_52 : decode cX6_lock 52 = .ok (.getfield 12, 3) := by decide +kernel
theorem dX6_lock_55 : decode cX6_lock 55 = .ok (.getfield 41, 3) := by decide +kernel
theorem dX6_lock_58 : decode cX6_lock 58 = .ok (.getfield 45, 3) := by decide +kernel
theorem dX6_lock_61 : decode cX6_lock 61 = .ok (.ifCond .eq 13, 3) := by decide +kernel
theorem dX6_lock_64 : decode cX6_lock 64 = .ok (.new 51, 3) := by decide +kernel
theorem dX6_lock_67 : decode cX6_lock 67 = .ok (.dup, 1) := by decide +kernel
theorem dX6_lock_68 : decode cX6_lock 68 = .ok (.ldc 53, 2) := by decide +kernel
theorem dX6_lock_70 : decode cX6_lock 70 = .ok (.invokespecial 55, 3) := by decide +kernel
theorem dX6_lock_73 : decode cX6_lock 73 = .ok (.athrow, 1) := by decide +kernel
theorem dX6_lock_74 : decode cX6_lock 74 = .ok (.aload_n 0, 1) := by decide +kernel
theorem dX6_lock_75 : decode cX6_lock 75 = .ok (.getfield 12, 3) := by decide +kernel
theorem dX6_lock_78 : decode cX6_lock 78 = .ok (.iload_n 1, 1) := by decide +kernel
theorem dX6_lock_79 : decode cX6_lock 79 = .ok (.iload_n 2, 1) := by decide +kernel
theorem dX6_lock_80 : decode cX6_lock 80 = .ok (.iload_n 3, 1) := by decide +kernel
theorem dX6_lock_81 : decode cX6_lock 81 = .ok (.iload 4, 2) := by decide +kernel
theorem dX6_lock_83 : decode cX6_lock 83 = .ok (.iload 5, 2) := by decide +kernel
theorem dX6_lock_85 : decode cX6_lock 85 = .ok (.invokevirtual 56, 3) := by decide +kernel
theorem dX6_lock_88 : decode cX6_lock 88 = .ok (.ireturn, 1) := by decide +kernel
set_option maxRecDepth 20000 in
theorem ggX6_thing_X3_hasLock : GoodIn wsX6_thing wsX3_hasLock := goodIn_r _ [15, 16, 32, 33, 34, 35, 36, 37, 38, 39, 40, 41, 42, 43] (by decide +kernel) (by decide +kernel)
set_option maxRecDepth 20000 in
theorem gX6_thing_X3_hasLock : GoodIn wsX6_thing (wsV RX6 60 RX3 yX3_hasLock wsX3_hasLock) := goodIn_app (goodIn_of _ (by decide +kernel)) ggX6_thing_X3_hasLock
set_option maxRecDepth 20000 in
theorem ggX6_thing_X6_isWithin : GoodIn wsX6_thing wsX6_isWithin := goodIn_r _ [20] (by decide +kernel) (by decide +kernel)
set_option maxRecDepth 20000 in
theorem gX6_thing_X6_isWithin : GoodIn wsX6_thing (va_wsS RX6 26 yX6_isWithin wsX6_isWithin) := goodIn_app (goodIn_of _ (by decide +kernel)) ggX6_thing_X6_isWithin
set_option maxRecDepth 20000 in
theorem ggX6_thing_X3_addThing : GoodIn wsX6_thing wsX3_addThing := goodIn_r _ [24, 25, 26, 27, 28, 32, 33, 34, 35, 36, 37, 38, 39, 40, 41, 42, 43, 51, 52, 53, 54, 55] (by decide +kernel) (by decide +kernel)
set_option maxRecDepth 20000 in
theorem gX6_thing_X3_addThing : GoodIn wsX6_thing (wsV RX6 76 RX3 yX3_addThing wsX3_addThing) := goodIn_app (goodIn_of _ (by decide +kernel)) ggX6_thing_X3_addThing
theorem dX6_thing_0 : decode cX6_thing 0 = .ok (.iload_n 1, 1) := by decide +kernel
theorem dX6_thing_1 : decode cX6_thing 1 = .ok (.iconst (-1), 1) := by decide +kernel
theorem dX6_thing_2 : decode cX6_thing 2 = .ok (.if_icmp .eq 24, 3) := by decide +kernel
theorem dX6_thing_5 : decode cX6_thing 5 = .ok (.aload_n 0, 1) := by decide +kernel
theorem dX6_thing_6 : decode cX6_thing 6 = .ok (.getfield 12, 3) := by decide +kernel
theorem dX6_thing_9 : decode cX6_thing 9 = .ok (.iload_n 1, 1) := by decide +kernel
theorem dX6_thing_10 : decode cX6_thing 10 = .ok (.invokevirtual 60, 3) := by decide +kernel
theorem dX6_thing_13 : decode cX6_thing 13 = .ok (.ifCond .ne 13, 3) := by decide +kernel
theorem dX6_thing_16 : decode cX6_thing 16 = .ok (.new 64, 3) := by decide +kernel
theorem dX6_thing_19 : decode cX6_thing 19 = .ok (.dup, 1) := by decide +kernel
theorem dX6_thing_20 : decode cX6_thing 20 = .ok (.ldc 66, 2) := by decide +kernel
theorem dX6_thing_22 : decode cX6_thing 22 = .ok (.invokespecial 68, 3) := by decide +kernel
theorem dX6_thing_25 : decode cX6_thing 25 = .ok (.athrow, 1) := by decide +kernel
theorem dX6_thing_26 : decode cX6_thing 26 = .ok (.iload_n 2, 1) := by decide +kernel
theorem dX6_thing_27 : decode cX6_thing 27 = .ok (.iconst 0, 1) := by decide +kernel
theorem dX6_thing_28 : decode cX6_thing 28 = .ok (.bipush 9, 2) := by decide +kernel
theorem dX6_thing_30 : decode cX6_thing 30 = .ok (.invokestatic 26, 3) := by decide +kernel
theorem dX6_thing_33 : decode cX6_thing 33 = .ok (.ifCond .ne 13, 3) := by decide +kernel
theorem dX6_thing_36 : decode cX6_thing 36 = .ok (.new 30, 3) := by decide +kernel
theorem dX6_thing_39 : decode cX6_thing 39 = .ok (.dup, 1) := by decide +kernel
theorem dX6_thing_40 : decode cX6_thing 40 = .ok (.ldc 69, 2) := by decide +kernel
theorem dX6_thing_42 : decode cX6_thing 42 = .ok (.invokespecial 34, 3) := by decide +kernel
theorem dX6_thing_45 : decode cX6_thing 45 = .ok (.athrow, 1) := by decide +kernel
theorem dX6_thing_46 : decode cX6_thing 46 = .ok (.aload_n 0, 1) := by decide +kernel
theorem dX6_thing_47 : decode cX6_thing 47 = .ok (.getfield 12, 3) := by decide +kernel
theorem dX6_thing_50 : decode cX6_thing 50 = .ok (.getfield 71, 3) := by decide +kernel
theorem dX6_thing_53 : decode cX6_thing 53 = .ok (.bipush 12, 2) := by decide +kernel
theorem dX6_thing_55 : decode cX6_thing 55 = .ok (.if_icmp .ge 16, 3) := by decide +kernel
theorem dX6_thing_58 : decode cX6_thing 58 = .ok (.aload_n 0, 1) := by decide +kernel
theorem dX6_thing_59 : decode cX6_thing 59 = .ok (.getfield 12, 3) := by decide +kernel
theorem dX6_thing_62 : decode cX6_thing 62 = .ok (.getfield 41, 3) := by decide +kernel
theorem dX6_thing_65 : decode cX6_thing 65 = .ok (.getfield 45, 3) := by decide +kernel
theorem dX6_thing_68 : decode cX6_thing 68 = .ok (.ifCond .eq 13, 3) := by decide +kernel
theorem dX6_thing_71 : decode cX6_thing 71 = .ok (.new 51, 3) := by decide +kernel
theorem dX6_thing_74 : decode cX6_thing 74 = .ok (.dup, 1) := by decide +kernel
theorem dX6_thing_75 : decode cX6_thing 75 = .ok (.ldc 74, 2) := by decide +kernel
theorem dX6_thing_77 : decode cX6_thing 77 = .ok (.invokespecial 55, 3) := by decide +kernel
theorem dX6_thing_80 : decode cX6_thing 80 = .ok (.athrow, 1) := by decide +kernel
theorem dX6_thing_81 : decode cX6_thing 81 = .ok (.aload_n 0, 1) := by decide +kernel
theorem dX6_thing_82 : decode cX6_thing 82 = .ok (.getfield 12, 3) := by decide +kernel
theorem dX6_thing_85 : decode cX6_thing 85 = .ok (.iload_n 1, 1) := by decide +kernel
theorem dX6_thing_86 : decode cX6_thing 86 = .ok (.iload_n 2, 1) := by decide +kernel
theorem dX6_thing_87 : decode cX6_thing 87 = .ok (.invokevirtual 76, 3) := by decide +kernel
theorem dX6_thing_90 : decode cX6_thing 90 = .ok (.ireturn, 1) := by decide +kernel
set_option maxRecDepth 20000 in
theorem ggX6_player_X6_isWithin : GoodIn wsX6_player wsX6_isWithin := goodIn_r _ [12] (by decide +kernel) (by decide +kernel)
set_option maxRecDepth 20000 in
theorem gX6_player_X6_isWithin : GoodIn wsX6_player (va_wsS RX6 26 yX6_isWithin wsX6_isWithin) := goodIn_app (goodIn_of _ (by decide +kernel)) ggX6_player_X6_isWithin
set_option maxRecDepth 20000 in
theorem ggX6_player_X3_addPlayer : GoodIn wsX6_player wsX3_addPlayer := goodIn_r _ [17, 18, 19, 20, 21, 22, 23, 24, 25, 26, 27, 28, 29, 30, 31, 32, 36, 37, 38, 39, 40, 41, 42, 43, 44, 45, 46, 47, 55, 56, 57, 58] (by decide +kernel) (by decide +kernel)
set_option maxRecDepth 20000 in
theorem gX6_player_X3_addPlayer : GoodIn wsX6_player (wsV RX6 87 RX3 yX3_addPlayer wsX3_addPlayer) := goodIn_app (goodIn_of _ (by decide +kernel)) ggX6_player_X3_addPlayer
theorem dX6_player_0 : decode cX6_player 0 = .ok (.iload_n 1, 1) := by decide +kernel
theorem dX6_player_1 : decode cX6_player 1 = .ok (.iconst 1, 1) := by decide +kernel
theorem dX6_player_2 : decode cX6_player 2 = .ok (.bipush 9, 2) := by decide +kernel
theorem dX6_player_4 : decode cX6_player 4 = .ok (.invokestatic 26, 3) := by decide +kernel
theorem dX6_player_7 : decode cX6_player 7 = .ok (.ifCond .ne 13, 3) := by decide +kernel
theorem dX6_player_10 : decode cX6_player 10 = .ok (.new 30, 3) := by decide +kernel
theorem dX6_player_13 : decode cX6_player 13 = .ok (.dup, 1) := by decide +kernel
theorem dX6_player_14 : decode cX6_player 14 = .ok (.ldc 80, 2) := by decide +kernel
theorem dX6_player_16 : decode cX6_player 16 = .ok (.invokespecial 34, 3) := by decide +kernel
theorem dX6_player_19 : decode cX6_player 19 = .ok (.athrow, 1) := by decide +kernel
theorem dX6_player_20 : decode cX6_player 20 = .ok (.aload_n 0, 1) := by decide +kernel
theorem dX6_player_21 : decode cX6_player 21 = .ok (.getfield 12, 3) := by decide +kernel
theorem dX6_player_24 : decode cX6_player 24 = .ok (.getfield 82, 3) := by decide +kernel
theorem dX6_player_27 : decode cX6_player 27 = .ok (.bipush 6, 2) := by decide +kernel
theorem dX6_player_29 : decode cX6_player 29 = .ok (.if_icmp .ge 16, 3) := by decide +kernel
theorem dX6_player_32 : decode cX6_player 32 = .ok (.aload_n 0, 1) := by decide +kernel
theorem dX6_player_33 : decode cX6_player 33 = .ok (.getfield 12, 3) := by decide +kernel
theorem dX6_player_36 : decode cX6_player 36 = .ok (.getfield 41, 3) := by decide +kernel
theorem dX6_player_39 : decode cX6_player 39 = .ok (.getfield 45, 3) := by decide +kernel
theorem dX6_player_42 : decode cX6_player 42 = .ok (.ifCond .eq 13, 3) := by decide +kernel
theorem dX6_player_45 : decode cX6_player 45 = .ok (.new 51, 3) := by decide +kernel
theorem dX6_player_48 : decode cX6_player 48 = .ok (.dup, 1) := by decide +kernel
theorem dX6_player_49 : decode cX6_player 49 = .ok (.ldc 85, 2) := by decide +kernel
theorem dX6_player_51 : decode cX6_player 51 = .ok (.invokespecial 55, 3) := by decide +kernel
theorem dX6_player_54 : decode cX6_player 54 = .ok (.athrow, 1) := by decide +kernel
theorem dX6_player_55 : decode cX6_player 55 = .ok (.aload_n 0, 1) := by decide +kernel
theorem dX6_player_56 : decode cX6_player 56 = .ok (.getfield 12, 3) := by decide +kernel
theorem dX6_player_59 : decode cX6_player 59 = .ok (.iload_n 1, 1) := by decide +kernel
theorem dX6_player_60 : decode cX6_player 60 = .ok (.invokevirtual 87, 3) := by decide +kernel
theorem dX6_player_63 : decode cX6_player 63 = .ok (.ireturn, 1) := by decide +kernel
set_option maxRecDepth 20000 in
theorem ggX6_begin_X3_isExitOpen : GoodIn wsX6_begin wsX3_isExitOpen := goodIn_r _ [11, 12, 13, 14, 15, 10, 16, 17, 18, 19, 20, 21, 22, 41, 42, 43, 44, 45, 46, 47, 48, 49, 50, 51, 52, 60, 61, 62, 63, 64, 65, 66, 67, 68, 69] (by decide +kernel) (by decide +kernel)
set_option maxRecDepth 20000 in
theorem gX6_begin_X3_isExitOpen : GoodIn wsX6_begin (wsV RX6 91 RX3 yX3_isExitOpen wsX3_isExitOpen) := goodIn_app (goodIn_of _ (by decide +kernel)) ggX6_begin_X3_isExitOpen
set_option maxRecDepth 20000 in
theorem ggX6_begin_X3_startGame : GoodIn wsX6_begin wsX3_startGame := goodIn_r _ [26, 27, 28, 29, 30, 31, 32, 33, 34, 35, 36, 37, 41, 42, 43, 44, 45, 46, 47, 48, 49, 50, 51, 52, 53, 54, 55, 56, 57, 58, 59] (by decide +kernel) (by decide +kernel)
set_option maxRecDepth 20000 in
theorem gX6_begin_X3_startGame : GoodIn wsX6_begin (wsV RX6 97 RX3 yX3_startGame wsX3_startGame) := goodIn_app (goodIn_of _ (by decide +kernel)) ggX6_begin_X3_startGame
theorem dX6_begin_0 : decode cX6_begin 0 = .ok (.aload_n 0, 1) := by decide +kernel
theorem dX6_begin_1 : decode cX6_begin 1 = .ok (.getfield 12, 3) := by decide +kernel
theorem dX6_begin_4 : decode cX6_begin 4 = .ok (.getfield 41, 3) := by decide +kernel
theorem dX6_begin_7 : decode cX6_begin 7 = .ok (.getfield 45, 3) := by decide +kernel
theorem dX6_begin_10 : decode cX6_begin 10 = .ok (.ifCond .ne 23, 3) := by decide +kernel
theorem dX6_begin_13 : decode cX6_begin 13 = .ok (.aload_n 0, 1) := by decide +kernel
theorem dX6_begin_14 : decode cX6_begin 14 = .ok (.getfield 12, 3) := by decide +kernel
theorem dX6_begin_17 : decode cX6_begin 17 = .ok (.getfield 82, 3) := by decide +kernel
theorem dX6_begin_20 : decode cX6_begin 20 = .ok (.ifCond .eq 13, 3) := by decide +kernel
theorem dX6_begin_23 : decode cX6_begin 23 = .ok (.aload_n 0, 1) := by decide +kernel
theorem dX6_begin_24 : decode cX6_begin 24 = .ok (.getfield 12, 3) := by decide +kernel
theorem dX6_begin_27 : decode cX6_begin 27 = .ok (.invokevirtual 91, 3) := by decide +kernel
theorem dX6_begin_30 : decode cX6_begin 30 = .ok (.ifCond .eq 13, 3) := by decide +kernel
theorem dX6_begin_33 : decode cX6_begin 33 = .ok (.new 51, 3) := by decide +kernel
theorem dX6_begin_36 : decode cX6_begin 36 = .ok (.dup, 1) := by decide +kernel
theorem dX6_begin_37 : decode cX6_begin 37 = .ok (.ldc 95, 2) := by decide +kernel
theorem dX6_begin_39 : decode cX6_begin 39 = .ok (.invokespecial 55, 3) := by decide +kernel
theorem dX6_begin_42 : decode cX6_begin 42 = .ok (.athrow, 1) := by decide +kernel
theorem dX6_begin_43 : decode cX6_begin 43 = .ok (.aload_n 0, 1) := by decide +kernel
theorem dX6_begin_44 : decode cX6_begin 44 = .ok (.getfield 12, 3) := by decide +kernel
theorem dX6_begin_47 : decode cX6_begin 47 = .ok (.invokevirtual 97, 3) := by decide +kernel
theorem dX6_begin_50 : decode cX6_begin 50 = .ok (.aload_n 0, 1) := by decide +kernel
theorem dX6_begin_51 : decode cX6_begin 51 = .ok (.getfield 12, 3) := by decide +kernel
theorem dX6_begin_54 : decode cX6_begin 54 = .ok (.getfield 82, 3) := by decide +kernel
theorem dX6_begin_57 : decode cX6_begin 57 = .ok (.ireturn, 1) := by decide +kernel
set_option maxRecDepth 20000 in
theorem ggX6_pass_X6_isWithin : GoodIn wsX6_pass wsX6_isWithin := goodIn_r _ [10] (by decide +kernel) (by decide +kernel)
set_option maxRecDepth 20000 in
theorem gX6_pass_X6_isWithin : GoodIn wsX6_pass (va_wsS RX6 26 yX6_isWithin wsX6_isWithin) := goodIn_app (goodIn_of _ (by decide +kernel)) ggX6_pass_X6_isWithin
set_option maxRecDepth 20000 in
theorem ggX6_pass_X3_letMinuteGoBy : GoodIn wsX6_pass wsX3_letMinuteGoBy := goodIn_r _ [15, 16, 17, 18, 19, 20, 21, 22, 23, 24, 14, 25, 26, 27, 28, 29, 30, 31, 32, 33, 34, 35, 36, 37, 38, 39, 40, 41, 42, 43, 44, 45, 46, 47, 48, 49, 50, 51, 52, 53, 54, 55, 56, 57, 58, 59, 60, 61, 62, 63, 64, 65, 66, 67, 68, 69, 70, 71, 72, 73, 74, 75, 76, 77, 78, 79, 80, 81, 82, 83, 84, 85, 86, 9, 87, 88, 89, 90, 91, 92, 93, 94, 95, 96, 97, 98, 99, 100, 101, 102, 103, 104, 105, 106, 107, 108, 109, 110, 111, 112, 113, 114, 115, 116, 117, 118, 119, 120, 121, 122, 123, 124, 125, 126, 127, 128, 129, 130, 131, 132, 133, 134, 135, 136, 137, 138, 139, 143, 144, 145, 146, 147, 148, 149, 150, 151, 152, 153, 154, 155, 156, 157, 158, 159, 160, 161, 162, 163, 164, 165, 166, 167, 168, 169, 170, 171, 172, 173, 174, 175, 176, 177, 178, 179, 180] (by decide +kernel) (by decide +kernel)
set_option maxRecDepth 20000 in
theorem gX6_pass_X3_letMinuteGoBy : GoodIn wsX6_pass (wsV RX6 107 RX3 yX3_letMinuteGoBy wsX3_letMinuteGoBy) := goodIn_app (goodIn_of _ (by decide +kernel)) ggX6_pass_X3_letMinuteGoBy
theorem dX6_pass_0 : decode cX6_pass 0 = .ok (.iload_n 1, 1) := by decide +kernel
theorem dX6_pass_1 : decode cX6_pass 1 = .ok (.iconst 1, 1) := by decide +kernel
theorem dX6_pass_2 : decode cX6_pass 2 = .ok (.bipush 90, 2) := by decide +kernel
theorem dX6_pass_4 : decode cX6_pass 4 = .ok (.invokestatic 26, 3) := by decide +kernel
theorem dX6_pass_7 : decode cX6_pass 7 = .ok (.ifCond .ne 13, 3) := by decide +kernel
theorem dX6_pass_10 : decode cX6_pass 10 = .ok (.new 30, 3) := by decide +kernel
theorem dX6_pass_13 : decode cX6_pass 13 = .ok (.dup, 1) := by decide +kernel
theorem dX6_pass_14 : decode cX6_pass 14 = .ok (.ldc 100, 2) := by decide +kernel
theorem dX6_pass_16 : decode cX6_pass 16 = .ok (.invokespecial 34, 3) := by decide +kernel
theorem dX6_pass_19 : decode cX6_pass 19 = .ok (.athrow, 1) := by decide +kernel
theorem dX6_pass_20 : decode cX6_pass 20 = .ok (.aload_n 0, 1) := by decide +kernel
theorem dX6_pass_21 : decode cX6_pass 21 = .ok (.getfield 12, 3) := by decide +kernel
theorem dX6_pass_24 : decode cX6_pass 24 = .ok (.getfield 102, 3) := by decide +kernel
theorem dX6_pass_27 : decode cX6_pass 27 = .ok (.iload_n 1, 1) := by decide +kernel
theorem dX6_pass_28 : decode cX6_pass 28 = .ok (.iadd, 1) := by decide +kernel
theorem dX6_pass_29 : decode cX6_pass 29 = .ok (.sipush 9999, 3) := by decide +kernel
theorem dX6_pass_32 : decode cX6_pass 32 = .ok (.if_icmp .le 13, 3) := by decide +kernel
theorem dX6_pass_35 : decode cX6_pass 35 = .ok (.new 51, 3) := by decide +kernel
theorem dX6_pass_38 : decode cX6_pass 38 = .ok (.dup, 1) := by decide +kernel
theorem dX6_pass_39 : decode cX6_pass 39 = .ok (.ldc 105, 2) := by decide +kernel
theorem dX6_pass_41 : decode cX6_pass 41 = .ok (.invokespecial 55, 3) := by decide +kernel
theorem dX6_pass_44 : decode cX6_pass 44 = .ok (.athrow, 1) := by decide +kernel
theorem dX6_pass_45 : decode cX6_pass 45 = .ok (.iconst 0, 1) := by decide +kernel
theorem dX6_pass_46 : decode cX6_pass 46 = .ok (.istore_n 2, 1) := by decide +kernel
theorem dX6_pass_47 : decode cX6_pass 47 = .ok (.iconst 0, 1) := by decide +kernel
theorem dX6_pass_48 : decode cX6_pass 48 = .ok (.istore_n 3, 1) := by decide +kernel
theorem dX6_pass_49 : decode cX6_pass 49 = .ok (.iload_n 3, 1) := by decide +kernel
theorem dX6_pass_50 : decode cX6_pass 50 = .ok (.iload_n 1, 1) := by decide +kernel
theorem dX6_pass_51 : decode cX6_pass 51 = .ok (.if_icmp .ge 19, 3) := by decide +kernel
theorem dX6_pass_54 : decode cX6_pass 54 = .ok (.iload_n 2, 1) := by decide +kernel
theorem dX6_pass_55 : decode cX6_pass 55 = .ok (.aload_n 0, 1) := by decide +kernel
theorem dX6_pass_56 : decode cX6_pass 56 = .ok (.getfield 12, 3) := by decide +kernel
theorem dX6_pass_59 : decode cX6_pass 59 = .ok (.invokevirtual 107, 3) := by decide +kernel
theorem dX6_pass_62 : decode cX6_pass 62 = .ok (.iadd, 1) := by decide +kernel
theorem dX6_pass_63 : decode cX6_pass 63 = .ok (.istore_n 2, 1) := by decide +kernel
theorem dX6_pass_64 : decode cX6_pass 64 = .ok (.iinc 3 1, 3) := by decide +kernel
theorem dX6_pass_67 : decode cX6_pass 67 = .ok (.goto (-18), 3) := by decide +kernel
theorem dX6_pass_70 : decode cX6_pass 70 = .ok (.iload_n 2, 1) := by decide +kernel
theorem dX6_pass_71 : decode cX6_pass 71 = .ok (.ireturn, 1) := by decide +kernel
set_option maxRecDepth 20000 in
theorem ggX6_hint_X3_hasLock : GoodIn wsX6_hint wsX3_hasLock := goodIn_r _ [16, 17, 43, 44, 45, 46, 47, 48, 49, 50, 51, 52, 53, 54] (by decide +kernel) (by decide +kernel)
set_option maxRecDepth 20000 in
theorem gX6_hint_X3_hasLock : GoodIn wsX6_hint (wsV RX6 60 RX3 yX3_hasLock wsX3_hasLock) := goodIn_app (goodIn_of _ (by decide +kernel)) ggX6_hint_X3_hasLock
set_option maxRecDepth 20000 in
theorem ggX6_hint_X3_thingsIn : GoodIn wsX6_hint wsX3_thingsIn := goodIn_r _ [21, 22, 23, 24, 43, 44, 45, 46, 47, 48, 49, 50, 51, 52, 53, 54, 72, 73, 74, 75, 76] (by decide +kernel) (by decide +kernel)
set_option maxRecDepth 20000 in
theorem gX6_hint_X3_thingsIn : GoodIn wsX6_hint (wsV RX6 115 RX3 yX3_thingsIn wsX3_thingsIn) := goodIn_app (goodIn_of _ (by decide +kernel)) ggX6_hint_X3_thingsIn
set_option maxRecDepth 20000 in
theorem ggX6_hint_X1_isReady : GoodIn wsX6_hint wsX1_isReady := goodIn_r _ [29, 30, 31, 32, 62, 63, 64, 65, 66, 67, 68, 69, 70, 71] (by decide +kernel) (by decide +kernel)
set_option maxRecDepth 20000 in
theorem gX6_hint_X1_isReady : GoodIn wsX6_hint (wsV RX6 118 RX1 yX1_isReady wsX1_isReady) := goodIn_app (goodIn_of _ (by decide +kernel)) ggX6_hint_X1_isReady
set_option maxRecDepth 20000 in
theorem ggX6_hint_X1_takeHint : GoodIn wsX6_hint wsX1_takeHint := goodIn_r _ [36, 37, 38, 39, 62, 63, 64, 65, 66, 67, 68, 69, 70, 71] (by decide +kernel) (by decide +kernel)
set_option maxRecDepth 20000 in
theorem gX6_hint_X1_takeHint : GoodIn wsX6_hint (wsV RX6 129 RX1 yX1_takeHint wsX1_takeHint) := goodIn_app (goodIn_of _ (by decide +kernel)) ggX6_hint_X1_takeHint
theorem dX6_hint_0 : decode cX6_hint 0 = .ok (.aload_n 0, 1) := by decide +kernel
theorem dX6_hint_1 : decode cX6_hint 1 = .ok (.getfield 12, 3) := by decide +kernel
theorem dX6_hint_4 : decode cX6_hint 4 = .ok (.iload_n 1, 1) := by decide +kernel
theorem dX6_hint_5 : decode cX6_hint 5 = .ok (.invokevirtual 60, 3) := by decide +kernel
theorem dX6_hint_8 : decode cX6_hint 8 = .ok (.ifCond .ne 13, 3) := by decide +kernel
theorem dX6_hint_11 : decode cX6_hint 11 = .ok (.new 64, 3) := by decide +kernel
theorem dX6_hint_14 : decode cX6_hint 14 = .ok (.dup, 1) := by decide +kernel
theorem dX6_hint_15 : decode cX6_hint 15 = .ok (.ldc 66, 2) := by decide +kernel
theorem dX6_hint_17 : decode cX6_hint 17 = .ok (.invokespecial 68, 3) := by decide +kernel
theorem dX6_hint_20 : decode cX6_hint 20 = .ok (.athrow, 1) := by decide +kernel
theorem dX6_hint_21 : decode cX6_hint 21 = .ok (.aload_n 0, 1) := by decide +kernel
theorem dX6_hint_22 : decode cX6_hint 22 = .ok (.getfield 12, 3) := by decide +kernel
theorem dX6_hint_25 : decode cX6_hint 25 = .ok (.getfield 111, 3) := by decide +kernel
theorem dX6_hint_28 : decode cX6_hint 28 = .ok (.iload_n 1, 1) := by decide +kernel
theorem dX6_hint_29 : decode cX6_hint 29 = .ok (.aaload, 1) := by decide +kernel
theorem dX6_hint_30 : decode cX6_hint 30 = .ok (.astore_n 2, 1) := by decide +kernel
theorem dX6_hint_31 : decode cX6_hint 31 = .ok (.aload_n 0, 1) := by decide +kernel
theorem dX6_hint_32 : decode cX6_hint 32 = .ok (.getfield 12, 3) := by decide +kernel
theorem dX6_hint_35 : decode cX6_hint 35 = .ok (.getfield 41, 3) := by decide +kernel
theorem dX6_hint_38 : decode cX6_hint 38 = .ok (.getfield 45, 3) := by decide +kernel
theorem dX6_hint_41 : decode cX6_hint 41 = .ok (.ifCond .eq 26, 3) := by decide +kernel
theorem dX6_hint_44 : decode cX6_hint 44 = .ok (.aload_n 2, 1) := by decide +kernel
theorem dX6_hint_45 : decode cX6_hint 45 = .ok (.aload_n 0, 1) := by decide +kernel
theorem dX6_hint_46 : decode cX6_hint 46 = .ok (.getfield 12, 3) := by decide +kernel
theorem dX6_hint_49 : decode cX6_hint 49 = .ok (.iconst 1, 1) := by decide +kernel
theorem dX6_hint_50 : decode cX6_hint 50 = .ok (.invokevirtual 115, 3) := by decide +kernel
theorem dX6_hint_53 : decode cX6_hint 53 = .ok (.invokevirtual 118, 3) := by decide +kernel
theorem dX6_hint_56 : decode cX6_hint 56 = .ok (.ifCond .eq 11, 3) := by decide +kernel
theorem dX6_hint_59 : decode cX6_hint 59 = .ok (.aload_n 2, 1) := by decide +kernel
theorem dX6_hint_60 : decode cX6_hint 60 = .ok (.getfield 123, 3) := by decide +kernel
theorem dX6_hint_63 : decode cX6_hint 63 = .ok (.iconst 3, 1) := by decide +kernel
theorem dX6_hint_64 : decode cX6_hint 64 = .ok (.if_icmp .lt 13, 3) := by decide +kernel
theorem dX6_hint_67 : decode cX6_hint 67 = .ok (.new 51, 3) := by decide +kernel
theorem dX6_hint_70 : decode cX6_hint 70 = .ok (.dup, 1) := by decide +kernel
theorem dX6_hint_71 : decode cX6_hint 71 = .ok (.ldc 126, 2) := by decide +kernel
theorem dX6_hint_73 : decode cX6_hint 73 = .ok (.invokespecial 55, 3) := by decide +kernel
theorem dX6_hint_76 : decode cX6_hint 76 = .ok (.athrow, 1) := by decide +kernel
theorem dX6_hint_77 : decode cX6_hint 77 = .ok (.aload_n 0, 1) := by decide +kernel
theorem dX6_hint_78 : decode cX6_hint 78 = .ok (.getfield 12, 3) := by decide +kernel
theorem dX6_hint_81 : decode cX6_hint 81 = .ok (.getfield 41, 3) := by decide +kernel
theorem dX6_hint_84 : decode cX6_hint 84 = .ok (.dup, 1) := by decide +kernel
theorem dX6_hint_85 : decode cX6_hint 85 = .ok (.getfield 128, 3) := by decide +kernel
theorem dX6_hint_88 : decode cX6_hint 88 = .ok (.iconst 1, 1) := by decide +kernel
theorem dX6_hint_89 : decode cX6_hint 89 = .ok (.iadd, 1) := by decide +kernel
theorem dX6_hint_90 : decode cX6_hint 90 = .ok (.putfield 128, 3) := by decide +kernel
theorem dX6_hint_93 : decode cX6_hint 93 = .ok (.aload_n 2, 1) := by decide +kernel
theorem dX6_hint_94 : decode cX6_hint 94 = .ok (.invokevirtual 129, 3) := by decide +kernel
theorem dX6_hint_97 : decode cX6_hint 97 = .ok (.aload_n 2, 1) := by decide +kernel
theorem dX6_hint_98 : decode cX6_hint 98 = .ok (.getfield 132, 3) := by decide +kernel
theorem dX6_hint_101 : decode cX6_hint 101 = .ok (.ireturn, 1) := by decide +kernel
set_option maxRecDepth 20000 in
theorem ggX6_stop_X3_loseGame : GoodIn wsX6_stop wsX3_loseGame := goodIn_r _ [11, 12, 13, 14, 15, 16, 17, 18, 19, 20, 24, 25, 26, 27, 28, 29, 30, 31, 32, 33, 34, 35, 36, 37, 38, 39, 40, 41, 42] (by decide +kernel) (by decide +kernel)
set_option maxRecDepth 20000 in
theorem gX6_stop_X3_loseGame : GoodIn wsX6_stop (wsV RX6 137 RX3 yX3_loseGame wsX3_loseGame) := goodIn_app (goodIn_of _ (by decide +kernel)) ggX6_stop_X3_loseGame
theorem dX6_stop_0 : decode cX6_stop 0 = .ok (.aload_n 0, 1) := by decide +kernel
theorem dX6_stop_1 : decode cX6_stop 1 = .ok (.getfield 12, 3) := by decide +kernel
theorem dX6_stop_4 : decode cX6_stop 4 = .ok (.getfield 41, 3) := by decide +kernel
theorem dX6_stop_7 : decode cX6_stop 7 = .ok (.getfield 45, 3) := by decide +kernel
theorem dX6_stop_10 : decode cX6_stop 10 = .ok (.ifCond .ne 13, 3) := by decide +kernel
theorem dX6_stop_13 : decode cX6_stop 13 = .ok (.new 51, 3) := by decide +kernel
theorem dX6_stop_16 : decode cX6_stop 16 = .ok (.dup, 1) := by decide +kernel
theorem dX6_stop_17 : decode cX6_stop 17 = .ok (.ldc 135, 2) := by decide +kernel
theorem dX6_stop_19 : decode cX6_stop 19 = .ok (.invokespecial 55, 3) := by decide +kernel
theorem dX6_stop_22 : decode cX6_stop 22 = .ok (.athrow, 1) := by decide +kernel
theorem dX6_stop_23 : decode cX6_stop 23 = .ok (.aload_n 0, 1) := by decide +kernel
theorem dX6_stop_24 : decode cX6_stop 24 = .ok (.getfield 12, 3) := by decide +kernel
theorem dX6_stop_27 : decode cX6_stop 27 = .ok (.invokevirtual 137, 3) := by decide +kernel
theorem dX6_stop_30 : decode cX6_stop 30 = .ok (.aload_n 0, 1) := by decide +kernel
theorem dX6_stop_31 : decode cX6_stop 31 = .ok (.getfield 12, 3) := by decide +kernel
theorem dX6_stop_34 : decode cX6_stop 34 = .ok (.getfield 41, 3) := by decide +kernel
theorem dX6_stop_37 : decode cX6_stop 37 = .ok (.getfield 140, 3) := by decide +kernel
theorem dX6_stop_40 : decode cX6_stop 40 = .ok (.ireturn, 1) := by decide +kernel
set_option maxRecDepth 20000 in
theorem ggX6_steal_X3_hasThing : GoodIn wsX6_steal wsX3_hasThing := goodIn_r _ [12, 13, 30, 31, 32, 33, 34, 35, 36, 37, 38, 39, 40, 41] (by decide +kernel) (by decide +kernel)
set_option maxRecDepth 20000 in
theorem gX6_steal_X3_hasThing : GoodIn wsX6_steal (wsV RX6 143 RX3 yX3_hasThing wsX3_hasThing) := goodIn_app (goodIn_of _ (by decide +kernel)) ggX6_steal_X3_hasThing
set_option maxRecDepth 20000 in
theorem ggX6_steal_X3_thingsIn : GoodIn wsX6_steal wsX3_thingsIn := goodIn_r _ [17, 13, 18, 19, 30, 31, 32, 33, 34, 35, 36, 37, 38, 39, 40, 41, 42, 43, 44, 45, 46] (by decide +kernel) (by decide +kernel)
set_option maxRecDepth 20000 in
theorem gX6_steal_X3_thingsIn : GoodIn wsX6_steal (wsV RX6 115 RX3 yX3_thingsIn wsX3_thingsIn) := goodIn_app (goodIn_of _ (by decide +kernel)) ggX6_steal_X3_thingsIn
set_option maxRecDepth 20000 in
theorem ggX6_steal_J6_bitCount_0f7a4 : GoodIn wsX6_steal wsJ6_bitCount_0f7a4 := goodIn_r _ [23, 24, 25, 26] (by decide +kernel) (by decide +kernel)
set_option maxRecDepth 20000 in
theorem gX6_steal_J6_bitCount_0f7a4 : GoodIn wsX6_steal (va_wsS RX6 159 yJ6_bitCount_0f7a4 wsJ6_bitCount_0f7a4) := goodIn_app (goodIn_of _ (by decide +kernel)) ggX6_steal_J6_bitCount_0f7a4
theorem dX6_steal_0 : decode cX6_steal 0 = .ok (.aload_n 0, 1) := by decide +kernel
theorem dX6_steal_1 : decode cX6_steal 1 = .ok (.getfield 12, 3) := by decide +kernel
theorem dX6_steal_4 : decode cX6_steal 4 = .ok (.iload_n 1, 1) := by decide +kernel
theorem dX6_steal_5 : decode cX6_steal 5 = .ok (.invokevirtual 143, 3) := by decide +kernel
theorem dX6_steal_8 : decode cX6_steal 8 = .ok (.ifCond .ne 13, 3) := by decide +kernel
theorem dX6_steal_11 : decode cX6_steal 11 = .ok (.new 64, 3) := by decide +kernel
theorem dX6_steal_14 : decode cX6_steal 14 = .ok (.dup, 1) := by decide +kernel
theorem dX6_steal_15 : decode cX6_steal 15 = .ok (.ldc 146, 2) := by decide +kernel
theorem dX6_steal_17 : decode cX6_steal 17 = .ok (.invokespecial 68, 3) := by decide +kernel
theorem dX6_steal_20 : decode cX6_steal 20 = .ok (.athrow, 1) := by decide +kernel
theorem dX6_steal_21 : decode cX6_steal 21 = .ok (.aload_n 0, 1) := by decide +kernel
theorem dX6_steal_22 : decode cX6_steal 22 = .ok (.getfield 12, 3) := by decide +kernel
theorem dX6_steal_25 : decode cX6_steal 25 = .ok (.getfield 148, 3) := by decide +kernel
theorem dX6_steal_28 : decode cX6_steal 28 = .ok (.iload_n 1, 1) := by decide +kernel
theorem dX6_steal_29 : decode cX6_steal 29 = .ok (.aaload, 1) := by decide +kernel
theorem dX6_steal_30 : decode cX6_steal 30 = .ok (.astore_n 2, 1) := by decide +kernel
theorem dX6_steal_31 : decode cX6_steal 31 = .ok (.aload_n 2, 1) := by decide +kernel
theorem dX6_steal_32 : decode cX6_steal 32 = .ok (.getfield 152, 3) := by decide +kernel
theorem dX6_steal_35 : decode cX6_steal 35 = .ok (.iconst 1, 1) := by decide +kernel
theorem dX6_steal_36 : decode cX6_steal 36 = .ok (.if_icmp .eq 13, 3) := by decide +kernel
theorem dX6_steal_39 : decode cX6_steal 39 = .ok (.new 51, 3) := by decide +kernel
theorem dX6_steal_42 : decode cX6_steal 42 = .ok (.dup, 1) := by decide +kernel
theorem dX6_steal_43 : decode cX6_steal 43 = .ok (.ldc 157, 2) := by decide +kernel
theorem dX6_steal_45 : decode cX6_steal 45 = .ok (.invokespecial 55, 3) := by decide +kernel
theorem dX6_steal_48 : decode cX6_steal 48 = .ok (.athrow, 1) := by decide +kernel
theorem dX6_steal_49 : decode cX6_steal 49 = .ok (.aload_n 2, 1) := by decide +kernel
theorem dX6_steal_50 : decode cX6_steal 50 = .ok (.iconst 3, 1) := by decide +kernel
theorem dX6_steal_51 : decode cX6_steal 51 = .ok (.putfield 152, 3) := by decide +kernel
theorem dX6_steal_54 : decode cX6_steal 54 = .ok (.aload_n 0, 1) := by decide +kernel
theorem dX6_steal_55 : decode cX6_steal 55 = .ok (.getfield 12, 3) := by decide +kernel
theorem dX6_steal_58 : decode cX6_steal 58 = .ok (.iconst 3, 1) := by decide +kernel
theorem dX6_steal_59 : decode cX6_steal 59 = .ok (.invokevirtual 115, 3) := by decide +kernel
theorem dX6_steal_62 : decode cX6_steal 62 = .ok (.invokestatic 159, 3) := by decide +kernel
theorem dX6_steal_65 : decode cX6_steal 65 = .ok (.ireturn, 1) := by decide +kernel
set_option maxRecDepth 20000 in
theorem ggX6_spare_X3_hasThing : GoodIn wsX6_spare wsX3_hasThing := goodIn_r _ [13, 14, 25, 26, 27, 28, 29, 30, 31, 32, 33, 34, 35, 36] (by decide +kernel) (by decide +kernel)
set_option maxRecDepth 20000 in
theorem gX6_spare_X3_hasThing : GoodIn wsX6_spare (wsV RX6 143 RX3 yX3_hasThing wsX3_hasThing) := goodIn_app (goodIn_of _ (by decide +kernel)) ggX6_spare_X3_hasThing
set_option maxRecDepth 20000 in
theorem ggX6_spare_X5_layInPlace : GoodIn wsX6_spare wsX5_layInPlace := goodIn_r _ [19, 20, 21, 37, 38, 39, 40, 41] (by decide +kernel) (by decide +kernel)
set_option maxRecDepth 20000 in
theorem gX6_spare_X5_layInPlace : GoodIn wsX6_spare (wsV RX6 166 RX5 yX5_layInPlace wsX5_layInPlace) := goodIn_app (goodIn_of _ (by decide +kernel)) ggX6_spare_X5_layInPlace
theorem dX6_spare_0 : decode cX6_spare 0 = .ok (.aload_n 0, 1) := by decide +kernel
theorem dX6_spare_1 : decode cX6_spare 1 = .ok (.getfield 12, 3) := by decide +kernel
theorem dX6_spare_4 : decode cX6_spare 4 = .ok (.iload_n 1, 1) := by decide +kernel
theorem dX6_spare_5 : decode cX6_spare 5 = .ok (.invokevirtual 143, 3) := by decide +kernel
theorem dX6_spare_8 : decode cX6_spare 8 = .ok (.ifCond .ne 13, 3) := by decide +kernel
theorem dX6_spare_11 : decode cX6_spare 11 = .ok (.new 64, 3) := by decide +kernel
theorem dX6_spare_14 : decode cX6_spare 14 = .ok (.dup, 1) := by decide +kernel
theorem dX6_spare_15 : decode cX6_spare 15 = .ok (.ldc 146, 2) := by decide +kernel
theorem dX6_spare_17 : decode cX6_spare 17 = .ok (.invokespecial 68, 3) := by decide +kernel
theorem dX6_spare_20 : decode cX6_spare 20 = .ok (.athrow, 1) := by decide +kernel
theorem dX6_spare_21 : decode cX6_spare 21 = .ok (.aload_n 0, 1) := by decide +kernel
theorem dX6_spare_22 : decode cX6_spare 22 = .ok (.getfield 12, 3) := by decide +kernel
theorem dX6_spare_25 : decode cX6_spare 25 = .ok (.getfield 148, 3) := by decide +kernel
theorem dX6_spare_28 : decode cX6_spare 28 = .ok (.iload_n 1, 1) := by decide +kernel
theorem dX6_spare_29 : decode cX6_spare 29 = .ok (.aaload, 1) := by decide +kernel
theorem dX6_spare_30 : decode cX6_spare 30 = .ok (.astore_n 2, 1) := by decide +kernel
theorem dX6_spare_31 : decode cX6_spare 31 = .ok (.aload_n 2, 1) := by decide +kernel
theorem dX6_spare_32 : decode cX6_spare 32 = .ok (.getfield 152, 3) := by decide +kernel
theorem dX6_spare_35 : decode cX6_spare 35 = .ok (.iconst 3, 1) := by decide +kernel
theorem dX6_spare_36 : decode cX6_spare 36 = .ok (.if_icmp .eq 13, 3) := by decide +kernel
theorem dX6_spare_39 : decode cX6_spare 39 = .ok (.new 51, 3) := by decide +kernel
theorem dX6_spare_42 : decode cX6_spare 42 = .ok (.dup, 1) := by decide +kernel
theorem dX6_spare_43 : decode cX6_spare 43 = .ok (.ldc 164, 2) := by decide +kernel
theorem dX6_spare_45 : decode cX6_spare 45 = .ok (.invokespecial 55, 3) := by decide +kernel
theorem dX6_spare_48 : decode cX6_spare 48 = .ok (.athrow, 1) := by decide +kernel
theorem dX6_spare_49 : decode cX6_spare 49 = .ok (.aload_n 2, 1) := by decide +kernel
theorem dX6_spare_50 : decode cX6_spare 50 = .ok (.invokevirtual 166, 3) := by decide +kernel
theorem dX6_spare_53 : decode cX6_spare 53 = .ok (.aload_n 0, 1) := by decide +kernel
theorem dX6_spare_54 : decode cX6_spare 54 = .ok (.getfield 12, 3) := by decide +kernel
theorem dX6_spare_57 : decode cX6_spare 57 = .ok (.dup, 1) := by decide +kernel
theorem dX6_spare_58 : decode cX6_spare 58 = .ok (.getfield 169, 3) := by decide +kernel
theorem dX6_spare_61 : decode cX6_spare 61 = .ok (.bipush 15, 2) := by decide +kernel
theorem dX6_spare_63 : decode cX6_spare 63 = .ok (.isub, 1) := by decide +kernel
theorem dX6_spare_64 : decode cX6_spare 64 = .ok (.putfield 169, 3) := by decide +kernel
theorem dX6_spare_67 : decode cX6_spare 67 = .ok (.aload_n 0, 1) := by decide +kernel
theorem dX6_spare_68 : decode cX6_spare 68 = .ok (.getfield 12, 3) := by decide +kernel
theorem dX6_spare_71 : decode cX6_spare 71 = .ok (.getfield 169, 3) := by decide +kernel
theorem dX6_spare_74 : decode cX6_spare 74 = .ok (.ireturn, 1) := by decide +kernel
set_option maxRecDepth 20000 in
theorem ggX6_breaks_X3_hasLock : GoodIn wsX6_breaks wsX3_hasLock := goodIn_r _ [13, 14, 18, 19, 20, 21, 22, 23, 24, 25, 26, 27, 28, 29] (by decide +kernel) (by decide +kernel)
set_option maxRecDepth 20000 in
theorem gX6_breaks_X3_hasLock : GoodIn wsX6_breaks (wsV RX6 60 RX3 yX3_hasLock wsX3_hasLock) := goodIn_app (goodIn_of _ (by decide +kernel)) ggX6_breaks_X3_hasLock
theorem dX6_breaks_0 : decode cX6_breaks 0 = .ok (.aload_n 0, 1) := by decide +kernel
theorem dX6_breaks_1 : decode cX6_breaks 1 = .ok (.getfield 12, 3) := by decide +kernel
theorem dX6_breaks_4 : decode cX6_breaks 4 = .ok (.iload_n 1, 1) := by decide +kernel
theorem dX6_breaks_5 : decode cX6_breaks 5 = .ok (.invokevirtual 60, 3) := by decide +kernel
theorem dX6_breaks_8 : decode cX6_breaks 8 = .ok (.ifCond .ne 13, 3) := by decide +kernel
theorem dX6_breaks_11 : decode cX6_breaks 11 = .ok (.new 64, 3) := by decide +kernel
theorem dX6_breaks_14 : decode cX6_breaks 14 = .ok (.dup, 1) := by decide +kernel
theorem dX6_breaks_15 : decode cX6_breaks 15 = .ok (.ldc 66, 2) := by decide +kernel
theorem dX6_breaks_17 : decode cX6_breaks 17 = .ok (.invokespecial 68, 3) := by decide +kernel
theorem dX6_breaks_20 : decode cX6_breaks 20 = .ok (.athrow, 1) := by decide +kernel
theorem dX6_breaks_21 : decode cX6_breaks 21 = .ok (.aload_n 0, 1) := by decide +kernel
theorem dX6_breaks_22 : decode cX6_breaks 22 = .ok (.getfield 12, 3) := by decide +kernel
theorem dX6_breaks_25 : decode cX6_breaks 25 = .ok (.getfield 111, 3) := by decide +kernel
theorem dX6_breaks_28 : decode cX6_breaks 28 = .ok (.iload_n 1, 1) := by decide +kernel
theorem dX6_breaks_29 : decode cX6_breaks 29 = .ok (.aaload, 1) := by decide +kernel
theorem dX6_breaks_30 : decode cX6_breaks 30 = .ok (.astore_n 2, 1) := by decide +kernel
theorem dX6_breaks_31 : decode cX6_breaks 31 = .ok (.aload_n 2, 1) := by decide +kernel
theorem dX6_breaks_32 : decode cX6_breaks 32 = .ok (.getfield 172, 3) := by decide +kernel
theorem dX6_breaks_35 : decode cX6_breaks 35 = .ok (.ifCond .eq 13, 3) := by decide +kernel
theorem dX6_breaks_38 : decode cX6_breaks 38 = .ok (.new 51, 3) := by decide +kernel
theorem dX6_breaks_41 : decode cX6_breaks 41 = .ok (.dup, 1) := by decide +kernel
theorem dX6_breaks_42 : decode cX6_breaks 42 = .ok (.ldc 175, 2) := by decide +kernel
theorem dX6_breaks_44 : decode cX6_breaks 44 = .ok (.invokespecial 55, 3) := by decide +kernel
theorem dX6_breaks_47 : decode cX6_breaks 47 = .ok (.athrow, 1) := by decide +kernel
theorem dX6_breaks_48 : decode cX6_breaks 48 = .ok (.aload_n 2, 1) := by decide +kernel
theorem dX6_breaks_49 : decode cX6_breaks 49 = .ok (.iconst 1, 1) := by decide +kernel
theorem dX6_breaks_50 : decode cX6_breaks 50 = .ok (.putfield 172, 3) := by decide +kernel
theorem dX6_breaks_53 : decode cX6_breaks 53 = .ok (.aload_n 2, 1) := by decide +kernel
theorem dX6_breaks_54 : decode cX6_breaks 54 = .ok (.getfield 177, 3) := by decide +kernel
theorem dX6_breaks_57 : decode cX6_breaks 57 = .ok (.ireturn, 1) := by decide +kernel
set_option maxRecDepth 20000 in
theorem ggX6_repair_X3_hasLock : GoodIn wsX6_repair wsX3_hasLock := goodIn_r _ [14, 15, 26, 27, 28, 29, 30, 31, 32, 33, 34, 35, 36, 37] (by decide +kernel) (by decide +kernel)
set_option maxRecDepth 20000 in
theorem gX6_repair_X3_hasLock : GoodIn wsX6_repair (wsV RX6 60 RX3 yX3_hasLock wsX3_hasLock) := goodIn_app (goodIn_of _ (by decide +kernel)) ggX6_repair_X3_hasLock
set_option maxRecDepth 20000 in
theorem ggX6_repair_X1_mend : GoodIn wsX6_repair wsX1_mend := goodIn_r _ [20, 21, 22, 38, 39, 40, 41, 42, 43, 44, 45, 46, 47] (by decide +kernel) (by decide +kernel)
set_option maxRecDepth 20000 in
theorem gX6_repair_X1_mend : GoodIn wsX6_repair (wsV RX6 182 RX1 yX1_mend wsX1_mend) := goodIn_app (goodIn_of _ (by decide +kernel)) ggX6_repair_X1_mend
theorem dX6_repair_0 : decode cX6_repair 0 = .ok (.aload_n 0, 1) := by decide +kernel
theorem dX6_repair_1 : decode cX6_repair 1 = .ok (.getfield 12, 3) := by decide +kernel
theorem dX6_repair_4 : decode cX6_repair 4 = .ok (.iload_n 1, 1) := by decide +kernel
theorem dX6_repair_5 : decode cX6_repair 5 = .ok (.invokevirtual 60, 3) := by decide +kernel
theorem dX6_repair_8 : decode cX6_repair 8 = .ok (.ifCond .ne 13, 3) := by decide +kernel
theorem dX6_repair_11 : decode cX6_repair 11 = .ok (.new 64, 3) := by decide +kernel
theorem dX6_repair_14 : decode cX6_repair 14 = .ok (.dup, 1) := by decide +kernel
theorem dX6_repair_15 : decode cX6_repair 15 = .ok (.ldc 66, 2) := by decide +kernel
theorem dX6_repair_17 : decode cX6_repair 17 = .ok (.invokespecial 68, 3) := by decide +kernel
theorem dX6_repair_20 : decode cX6_repair 20 = .ok (.athrow, 1) := by decide +kernel
theorem dX6_repair_21 : decode cX6_repair 21 = .ok (.aload_n 0, 1) := by decide +kernel
theorem dX6_repair_22 : decode cX6_repair 22 = .ok (.getfield 12, 3) := by decide +kernel
theorem dX6_repair_25 : decode cX6_repair 25 = .ok (.getfield 111, 3) := by decide +kernel
theorem dX6_repair_28 : decode cX6_repair 28 = .ok (.iload_n 1, 1) := by decide +kernel
theorem dX6_repair_29 : decode cX6_repair 29 = .ok (.aaload, 1) := by decide +kernel
theorem dX6_repair_30 : decode cX6_repair 30 = .ok (.astore_n 2, 1) := by decide +kernel
theorem dX6_repair_31 : decode cX6_repair 31 = .ok (.aload_n 2, 1) := by decide +kernel
theorem dX6_repair_32 : decode cX6_repair 32 = .ok (.getfield 172, 3) := by decide +kernel
theorem dX6_repair_35 : decode cX6_repair 35 = .ok (.ifCond .ne 13, 3) := by decide +kernel
theorem dX6_repair_38 : decode cX6_repair 38 = .ok (.new 51, 3) := by decide +kernel
theorem dX6_repair_41 : decode cX6_repair 41 = .ok (.dup, 1) := by decide +kernel
theorem dX6_repair_42 : decode cX6_repair 42 = .ok (.ldc 180, 2) := by decide +kernel
theorem dX6_repair_44 : decode cX6_repair 44 = .ok (.invokespecial 55, 3) := by decide +kernel
theorem dX6_repair_47 : decode cX6_repair 47 = .ok (.athrow, 1) := by decide +kernel
theorem dX6_repair_48 : decode cX6_repair 48 = .ok (.aload_n 2, 1) := by decide +kernel
theorem dX6_repair_49 : decode cX6_repair 49 = .ok (.invokevirtual 182, 3) := by decide +kernel
theorem dX6_repair_52 : decode cX6_repair 52 = .ok (.aload_n 0, 1) := by decide +kernel
theorem dX6_repair_53 : decode cX6_repair 53 = .ok (.getfield 12, 3) := by decide +kernel
theorem dX6_repair_56 : decode cX6_repair 56 = .ok (.dup, 1) := by decide +kernel
theorem dX6_repair_57 : decode cX6_repair 57 = .ok (.getfield 169, 3) := by decide +kernel
theorem dX6_repair_60 : decode cX6_repair 60 = .ok (.aload_n 2, 1) := by decide +kernel
theorem dX6_repair_61 : decode cX6_repair 61 = .ok (.getfield 185, 3) := by decide +kernel
theorem dX6_repair_64 : decode cX6_repair 64 = .ok (.isub, 1) := by decide +kernel
theorem dX6_repair_65 : decode cX6_repair 65 = .ok (.putfield 169, 3) := by decide +kernel
theorem dX6_repair_68 : decode cX6_repair 68 = .ok (.aload_n 0, 1) := by decide +kernel
theorem dX6_repair_69 : decode cX6_repair 69 = .ok (.getfield 12, 3) := by decide +kernel
theorem dX6_repair_72 : decode cX6_repair 72 = .ok (.getfield 169, 3) := by decide +kernel
theorem dX6_repair_75 : decode cX6_repair 75 = .ok (.ireturn, 1) := by decide +kernel
set_option maxRecDepth 20000 in
theorem ggX6_power_X3_releaseMagnets : GoodIn wsX6_power wsX3_releaseMagnets := goodIn_r _ [7, 8, 9, 10, 11, 12, 13, 14, 15, 16, 17, 18, 19, 20, 6, 21, 22, 23, 24, 25, 26, 27, 28, 29, 33, 34, 35, 36, 37, 38, 39, 40, 41, 42, 43, 44, 45, 46, 47, 48, 49, 50, 51, 52, 53, 54, 55, 56, 57, 58, 59, 60, 61] (by decide +kernel) (by decide +kernel)
set_option maxRecDepth 20000 in
theorem gX6_power_X3_releaseMagnets : GoodIn wsX6_power (wsV RX6 191 RX3 yX3_releaseMagnets wsX3_releaseMagnets) := goodIn_app (goodIn_of _ (by decide +kernel)) ggX6_power_X3_releaseMagnets
theorem dX6_power_0 : decode cX6_power 0 = .ok (.aload_n 0, 1) := by decide +kernel
theorem dX6_power_1 : decode cX6_power 1 = .ok (.getfield 12, 3) := by decide +kernel
theorem dX6_power_4 : decode cX6_power 4 = .ok (.getfield 188, 3) := by decide +kernel
theorem dX6_power_7 : decode cX6_power 7 = .ok (.ifCond .eq 11, 3) := by decide +kernel
theorem dX6_power_10 : decode cX6_power 10 = .ok (.iload_n 1, 1) := by decide +kernel
theorem dX6_power_11 : decode cX6_power 11 = .ok (.ifCond .ne 7, 3) := by decide +kernel
theorem dX6_power_14 : decode cX6_power 14 = .ok (.iconst 1, 1) := by decide +kernel
theorem dX6_power_15 : decode cX6_power 15 = .ok (.goto 4, 3) := by decide +kernel
theorem dX6_power_18 : decode cX6_power 18 = .ok (.iconst 0, 1) := by decide +kernel
theorem dX6_power_19 : decode cX6_power 19 = .ok (.istore_n 2, 1) := by decide +kernel
theorem dX6_power_20 : decode cX6_power 20 = .ok (.aload_n 0, 1) := by decide +kernel
theorem dX6_power_21 : decode cX6_power 21 = .ok (.getfield 12, 3) := by decide +kernel
theorem dX6_power_24 : decode cX6_power 24 = .ok (.iload_n 1, 1) := by decide +kernel
theorem dX6_power_25 : decode cX6_power 25 = .ok (.putfield 188, 3) := by decide +kernel
theorem dX6_power_28 : decode cX6_power 28 = .ok (.iload_n 2, 1) := by decide +kernel
theorem dX6_power_29 : decode cX6_power 29 = .ok (.ifCond .eq 13, 3) := by decide +kernel
theorem dX6_power_32 : decode cX6_power 32 = .ok (.aload_n 0, 1) := by decide +kernel
theorem dX6_power_33 : decode cX6_power 33 = .ok (.getfield 12, 3) := by decide +kernel
theorem dX6_power_36 : decode cX6_power 36 = .ok (.invokevirtual 191, 3) := by decide +kernel
theorem dX6_power_39 : decode cX6_power 39 = .ok (.goto 4, 3) := by decide +kernel
theorem dX6_power_42 : decode cX6_power 42 = .ok (.iconst 0, 1) := by decide +kernel
theorem dX6_power_43 : decode cX6_power 43 = .ok (.ireturn, 1) := by decide +kernel
set_option maxRecDepth 20000 in
theorem ggX6_put_X3_hasThing : GoodIn wsX6_put wsX3_hasThing := goodIn_r _ [15, 16, 27, 28, 29, 30, 31, 32, 33, 34, 35, 36, 37, 38] (by decide +kernel) (by decide +kernel)
set_option maxRecDepth 20000 in
theorem gX6_put_X3_hasThing : GoodIn wsX6_put (wsV RX6 143 RX3 yX3_hasThing wsX3_hasThing) := goodIn_app (goodIn_of _ (by decide +kernel)) ggX6_put_X3_hasThing
set_option maxRecDepth 20000 in
theorem ggX6_put_X5_layInPlace : GoodIn wsX6_put wsX5_layInPlace := goodIn_r _ [21, 22, 23, 39, 40, 41, 42, 43] (by decide +kernel) (by decide +kernel)
set_option maxRecDepth 20000 in
theorem gX6_put_X5_layInPlace : GoodIn wsX6_put (wsV RX6 166 RX5 yX5_layInPlace wsX5_layInPlace) := goodIn_app (goodIn_of _ (by decide +kernel)) ggX6_put_X5_layInPlace
theorem dX6_put_0 : decode cX6_put 0 = .ok (.aload_n 0, 1) := by decide +kernel
theorem dX6_put_1 : decode cX6_put 1 = .ok (.getfield 12, 3) := by decide +kernel
theorem dX6_put_4 : decode cX6_put 4 = .ok (.iload_n 1, 1) := by decide +kernel
theorem dX6_put_5 : decode cX6_put 5 = .ok (.invokevirtual 143, 3) := by decide +kernel
theorem dX6_put_8 : decode cX6_put 8 = .ok (.ifCond .ne 13, 3) := by decide +kernel
theorem dX6_put_11 : decode cX6_put 11 = .ok (.new 64, 3) := by decide +kernel
theorem dX6_put_14 : decode cX6_put 14 = .ok (.dup, 1) := by decide +kernel
theorem dX6_put_15 : decode cX6_put 15 = .ok (.ldc 146, 2) := by decide +kernel
theorem dX6_put_17 : decode cX6_put 17 = .ok (.invokespecial 68, 3) := by decide +kernel
theorem dX6_put_20 : decode cX6_put 20 = .ok (.athrow, 1) := by decide +kernel
theorem dX6_put_21 : decode cX6_put 21 = .ok (.aload_n 0, 1) := by decide +kernel
theorem dX6_put_22 : decode cX6_put 22 = .ok (.getfield 12, 3) := by decide +kernel
theorem dX6_put_25 : decode cX6_put 25 = .ok (.getfield 148, 3) := by decide +kernel
theorem dX6_put_28 : decode cX6_put 28 = .ok (.iload_n 1, 1) := by decide +kernel
theorem dX6_put_29 : decode cX6_put 29 = .ok (.aaload, 1) := by decide +kernel
theorem dX6_put_30 : decode cX6_put 30 = .ok (.astore_n 2, 1) := by decide +kernel
theorem dX6_put_31 : decode cX6_put 31 = .ok (.aload_n 2, 1) := by decide +kernel
theorem dX6_put_32 : decode cX6_put 32 = .ok (.getfield 152, 3) := by decide +kernel
theorem dX6_put_35 : decode cX6_put 35 = .ok (.istore_n 3, 1) := by decide +kernel
theorem dX6_put_36 : decode cX6_put 36 = .ok (.aload_n 0, 1) := by decide +kernel
theorem dX6_put_37 : decode cX6_put 37 = .ok (.getfield 12, 3) := by decide +kernel
theorem dX6_put_40 : decode cX6_put 40 = .ok (.getfield 41, 3) := by decide +kernel
theorem dX6_put_43 : decode cX6_put 43 = .ok (.getfield 45, 3) := by decide +kernel
theorem dX6_put_46 : decode cX6_put 46 = .ok (.ifCond .ne 26, 3) := by decide +kernel
theorem dX6_put_49 : decode cX6_put 49 = .ok (.iload_n 3, 1) := by decide +kernel
theorem dX6_put_50 : decode cX6_put 50 = .ok (.iconst 1, 1) := by decide +kernel
theorem dX6_put_51 : decode cX6_put 51 = .ok (.if_icmp .eq 8, 3) := by decide +kernel
theorem dX6_put_54 : decode cX6_put 54 = .ok (.iload_n 3, 1) := by decide +kernel
theorem dX6_put_55 : decode cX6_put 55 = .ok (.iconst 2, 1) := by decide +kernel
theorem dX6_put_56 : decode cX6_put 56 = .ok (.if_icmp .ne 16, 3) := by decide +kernel
theorem dX6_put_59 : decode cX6_put 59 = .ok (.aload_n 0, 1) := by decide +kernel
theorem dX6_put_60 : decode cX6_put 60 = .ok (.getfield 12, 3) := by decide +kernel
theorem dX6_put_63 : decode cX6_put 63 = .ok (.getfield 102, 3) := by decide +kernel
theorem dX6_put_66 : decode cX6_put 66 = .ok (.sipush 9999, 3) := by decide +kernel
theorem dX6_put_69 : decode cX6_put 69 = .ok (.if_icmp .lt 13, 3) := by decide +kernel
theorem dX6_put_72 : decode cX6_put 72 = .ok (.new 51, 3) := by decide +kernel
theorem dX6_put_75 : decode cX6_put 75 = .ok (.dup, 1) := by decide +kernel
theorem dX6_put_76 : decode cX6_put 76 = .ok (.ldc 194, 2) := by decide +kernel
theorem dX6_put_78 : decode cX6_put 78 = .ok (.invokespecial 55, 3) := by decide +kernel
theorem dX6_put_81 : decode cX6_put 81 = .ok (.athrow, 1) := by decide +kernel
theorem dX6_put_82 : decode cX6_put 82 = .ok (.aload_n 2, 1) := by decide +kernel
theorem dX6_put_83 : decode cX6_put 83 = .ok (.invokevirtual 166, 3) := by decide +kernel
theorem dX6_put_86 : decode cX6_put 86 = .ok (.aload_n 0, 1) := by decide +kernel
theorem dX6_put_87 : decode cX6_put 87 = .ok (.getfield 12, 3) := by decide +kernel
theorem dX6_put_90 : decode cX6_put 90 = .ok (.dup, 1) := by decide +kernel
theorem dX6_put_91 : decode cX6_put 91 = .ok (.getfield 102, 3) := by decide +kernel
theorem dX6_put_94 : decode cX6_put 94 = .ok (.iconst 1, 1) := by decide +kernel
theorem dX6_put_95 : decode cX6_put 95 = .ok (.iadd, 1) := by decide +kernel
theorem dX6_put_96 : decode cX6_put 96 = .ok (.putfield 102, 3) := by decide +kernel
theorem dX6_put_99 : decode cX6_put 99 = .ok (.iload_n 3, 1) := by decide +kernel
theorem dX6_put_100 : decode cX6_put 100 = .ok (.ireturn, 1) := by decide +kernel
set_option maxRecDepth 20000 in
theorem ggX6_shut_X3_hasLock : GoodIn wsX6_shut wsX3_hasLock := goodIn_r _ [18, 19, 31, 32, 33, 34, 35, 36, 37, 38, 39, 40, 41, 42] (by decide +kernel) (by decide +kernel)
set_option maxRecDepth 20000 in
theorem gX6_shut_X3_hasLock : GoodIn wsX6_shut (wsV RX6 60 RX3 yX3_hasLock wsX3_hasLock) := goodIn_app (goodIn_of _ (by decide +kernel)) ggX6_shut_X3_hasLock
set_option maxRecDepth 20000 in
theorem ggX6_shut_X1_close : GoodIn wsX6_shut wsX1_close := goodIn_r _ [24, 25, 26, 27, 43, 44, 45, 46, 47, 48, 49, 50, 51, 52] (by decide +kernel) (by decide +kernel)
set_option maxRecDepth 20000 in
theorem gX6_shut_X1_close : GoodIn wsX6_shut (wsV RX6 204 RX1 yX1_close wsX1_close) := goodIn_app (goodIn_of _ (by decide +kernel)) ggX6_shut_X1_close
theorem dX6_shut_0 : decode cX6_shut 0 = .ok (.aload_n 0, 1) := by decide +kernel
theorem dX6_shut_1 : decode cX6_shut 1 = .ok (.getfield 12, 3) := by decide +kernel
theorem dX6_shut_4 : decode cX6_shut 4 = .ok (.iload_n 1, 1) := by decide +kernel
theorem dX6_shut_5 : decode cX6_shut 5 = .ok (.invokevirtual 60, 3) := by decide +kernel
theorem dX6_shut_8 : decode cX6_shut 8 = .ok (.ifCond .ne 13, 3) := by decide +kernel
theorem dX6_shut_11 : decode cX6_shut 11 = .ok (.new 64, 3) := by decide +kernel
theorem dX6_shut_14 : decode cX6_shut 14 = .ok (.dup, 1) := by decide +kernel
theorem dX6_shut_15 : decode cX6_shut 15 = .ok (.ldc 66, 2) := by decide +kernel
theorem dX6_shut_17 : decode cX6_shut 17 = .ok (.invokespecial 68, 3) := by decide +kernel
theorem dX6_shut_20 : decode cX6_shut 20 = .ok (.athrow, 1) := by decide +kernel
theorem dX6_shut_21 : decode cX6_shut 21 = .ok (.aload_n 0, 1) := by decide +kernel
theorem dX6_shut_22 : decode cX6_shut 22 = .ok (.getfield 12, 3) := by decide +kernel
theorem dX6_shut_25 : decode cX6_shut 25 = .ok (.getfield 111, 3) := by decide +kernel
theorem dX6_shut_28 : decode cX6_shut 28 = .ok (.iload_n 1, 1) := by decide +kernel
theorem dX6_shut_29 : decode cX6_shut 29 = .ok (.aaload, 1) := by decide +kernel
theorem dX6_shut_30 : decode cX6_shut 30 = .ok (.astore_n 2, 1) := by decide +kernel
theorem dX6_shut_31 : decode cX6_shut 31 = .ok (.aload_n 2, 1) := by decide +kernel
theorem dX6_shut_32 : decode cX6_shut 32 = .ok (.getfield 196, 3) := by decide +kernel
theorem dX6_shut_35 : decode cX6_shut 35 = .ok (.ifCond .eq 17, 3) := by decide +kernel
theorem dX6_shut_38 : decode cX6_shut 38 = .ok (.aload_n 0, 1) := by decide +kernel
theorem dX6_shut_39 : decode cX6_shut 39 = .ok (.getfield 12, 3) := by decide +kernel
theorem dX6_shut_42 : decode cX6_shut 42 = .ok (.getfield 188, 3) := by decide +kernel
theorem dX6_shut_45 : decode cX6_shut 45 = .ok (.ifCond .ne 7, 3) := by decide +kernel
theorem dX6_shut_48 : decode cX6_shut 48 = .ok (.iconst 1, 1) := by decide +kernel
theorem dX6_shut_49 : decode cX6_shut 49 = .ok (.goto 4, 3) := by decide +kernel
theorem dX6_shut_52 : decode cX6_shut 52 = .ok (.iconst 0, 1) := by decide +kernel
theorem dX6_shut_53 : decode cX6_shut 53 = .ok (.istore_n 3, 1) := by decide +kernel
theorem dX6_shut_54 : decode cX6_shut 54 = .ok (.aload_n 0, 1) := by decide +kernel
theorem dX6_shut_55 : decode cX6_shut 55 = .ok (.getfield 12, 3) := by decide +kernel
theorem dX6_shut_58 : decode cX6_shut 58 = .ok (.getfield 41, 3) := by decide +kernel
theorem dX6_shut_61 : decode cX6_shut 61 = .ok (.getfield 45, 3) := by decide +kernel
theorem dX6_shut_64 : decode cX6_shut 64 = .ok (.ifCond .ne 27, 3) := by decide +kernel
theorem dX6_shut_67 : decode cX6_shut 67 = .ok (.aload_n 2, 1) := by decide +kernel
theorem dX6_shut_68 : decode cX6_shut 68 = .ok (.getfield 199, 3) := by decide +kernel
theorem dX6_shut_71 : decode cX6_shut 71 = .ok (.ifCond .eq 20, 3) := by decide +kernel
theorem dX6_shut_74 : decode cX6_shut 74 = .ok (.iload_n 3, 1) := by decide +kernel
theorem dX6_shut_75 : decode cX6_shut 75 = .ok (.ifCond .ne 16, 3) := by decide +kernel
theorem dX6_shut_78 : decode cX6_shut 78 = .ok (.aload_n 0, 1) := by decide +kernel
theorem dX6_shut_79 : decode cX6_shut 79 = .ok (.getfield 12, 3) := by decide +kernel
theorem dX6_shut_82 : decode cX6_shut 82 = .ok (.getfield 102, 3) := by decide +kernel
theorem dX6_shut_85 : decode cX6_shut 85 = .ok (.sipush 9999, 3) := by decide +kernel
theorem dX6_shut_88 : decode cX6_shut 88 = .ok (.if_icmp .lt 13, 3) := by decide +kernel
theorem dX6_shut_91 : decode cX6_shut 91 = .ok (.new 51, 3) := by decide +kernel
theorem dX6_shut_94 : decode cX6_shut 94 = .ok (.dup, 1) := by decide +kernel
theorem dX6_shut_95 : decode cX6_shut 95 = .ok (.ldc 202, 2) := by decide +kernel
theorem dX6_shut_97 : decode cX6_shut 97 = .ok (.invokespecial 55, 3) := by decide +kernel
theorem dX6_shut_100 : decode cX6_shut 100 = .ok (.athrow, 1) := by decide +kernel
theorem dX6_shut_101 : decode cX6_shut 101 = .ok (.aload_n 2, 1) := by decide +kernel
theorem dX6_shut_102 : decode cX6_shut 102 = .ok (.getfield 132, 3) := by decide +kernel
theorem dX6_shut_105 : decode cX6_shut 105 = .ok (.istore 4, 2) := by decide +kernel
theorem dX6_shut_107 : decode cX6_shut 107 = .ok (.aload_n 2, 1) := by decide +kernel
theorem dX6_shut_108 : decode cX6_shut 108 = .ok (.invokevirtual 204, 3) := by decide +kernel
theorem dX6_shut_111 : decode cX6_shut 111 = .ok (.aload_n 0, 1) := by decide +kernel
theorem dX6_shut_112 : decode cX6_shut 112 = .ok (.getfield 12, 3) := by decide +kernel
theorem dX6_shut_115 : decode cX6_shut 115 = .ok (.dup, 1) := by decide +kernel
theorem dX6_shut_116 : decode cX6_shut 116 = .ok (.getfield 102, 3) := by decide +kernel
theorem dX6_shut_119 : decode cX6_shut 119 = .ok (.iconst 1, 1) := by decide +kernel
theorem dX6_shut_120 : decode cX6_shut 120 = .ok (.iadd, 1) := by decide +kernel
theorem dX6_shut_121 : decode cX6_shut 121 = .ok (.putfield 102, 3) := by decide +kernel
theorem dX6_shut_124 : decode cX6_shut 124 = .ok (.iload 4, 2) := by decide +kernel
theorem dX6_shut_126 : decode cX6_shut 126 = .ok (.ireturn, 1) := by decide +kernel
set_option maxRecDepth 20000 in
theorem ggX6_ofLock_X3_hasLock : GoodIn wsX6_ofLock wsX3_hasLock := goodIn_r _ [10, 11, 51, 52, 53, 54, 55, 56, 57, 58, 59, 60, 61, 62] (by decide +kernel) (by decide +kernel)
set_option maxRecDepth 20000 in
theorem gX6_ofLock_X3_hasLock : GoodIn wsX6_ofLock (wsV RX6 60 RX3 yX3_hasLock wsX3_hasLock) := goodIn_app (goodIn_of _ (by decide +kernel)) ggX6_ofLock_X3_hasLock
set_option maxRecDepth 20000 in
theorem ggX6_ofLock_X6_isWithin : GoodIn wsX6_ofLock wsX6_isWithin := goodIn_r _ [15] (by decide +kernel) (by decide +kernel)
set_option maxRecDepth 20000 in
theorem gX6_ofLock_X6_isWithin : GoodIn wsX6_ofLock (va_wsS RX6 26 yX6_isWithin wsX6_isWithin) := goodIn_app (goodIn_of _ (by decide +kernel)) ggX6_ofLock_X6_isWithin
set_option maxRecDepth 20000 in
theorem ggX6_ofLock_X3_tellLock : GoodIn wsX6_ofLock wsX3_tellLock := goodIn_r _ [19, 20, 21, 22, 23, 24, 25, 26, 27, 28, 29, 30, 7, 8, 9, 10, 11, 31, 14, 32, 33, 34, 35, 36, 37, 38, 39, 40, 41, 42, 43, 44, 45, 46, 47, 51, 52, 53, 54, 55, 56, 57, 58, 59, 60, 61, 62, 63, 64, 65, 66, 67, 68, 69, 70, 71, 72, 73, 74, 75, 76, 77] (by decide +kernel) (by decide +kernel)
set_option maxRecDepth 20000 in
theorem gX6_ofLock_X3_tellLock : GoodIn wsX6_ofLock (wsV RX6 209 RX3 yX3_tellLock wsX3_tellLock) := goodIn_app (goodIn_of _ (by decide +kernel)) ggX6_ofLock_X3_tellLock
theorem dX6_ofLock_0 : decode cX6_ofLock 0 = .ok (.aload_n 0, 1) := by decide +kernel
theorem dX6_ofLock_1 : decode cX6_ofLock 1 = .ok (.getfield 12, 3) := by decide +kernel
theorem dX6_ofLock_4 : decode cX6_ofLock 4 = .ok (.iload_n 1, 1) := by decide +kernel
theorem dX6_ofLock_5 : decode cX6_ofLock 5 = .ok (.invokevirtual 60, 3) := by decide +kernel
theorem dX6_ofLock_8 : decode cX6_ofLock 8 = .ok (.ifCond .ne 13, 3) := by decide +kernel
theorem dX6_ofLock_11 : decode cX6_ofLock 11 = .ok (.new 64, 3) := by decide +kernel
theorem dX6_ofLock_14 : decode cX6_ofLock 14 = .ok (.dup, 1) := by decide +kernel
theorem dX6_ofLock_15 : decode cX6_ofLock 15 = .ok (.ldc 66, 2) := by decide +kernel
theorem dX6_ofLock_17 : decode cX6_ofLock 17 = .ok (.invokespecial 68, 3) := by decide +kernel
theorem dX6_ofLock_20 : decode cX6_ofLock 20 = .ok (.athrow, 1) := by decide +kernel
theorem dX6_ofLock_21 : decode cX6_ofLock 21 = .ok (.iload_n 2, 1) := by decide +kernel
theorem dX6_ofLock_22 : decode cX6_ofLock 22 = .ok (.iconst 0, 1) := by decide +kernel
theorem dX6_ofLock_23 : decode cX6_ofLock 23 = .ok (.bipush 9, 2) := by decide +kernel
theorem dX6_ofLock_25 : decode cX6_ofLock 25 = .ok (.invokestatic 26, 3) := by decide +kernel
theorem dX6_ofLock_28 : decode cX6_ofLock 28 = .ok (.ifCond .ne 13, 3) := by decide +kernel
theorem dX6_ofLock_31 : decode cX6_ofLock 31 = .ok (.new 30, 3) := by decide +kernel
theorem dX6_ofLock_34 : decode cX6_ofLock 34 = .ok (.dup, 1) := by decide +kernel
theorem dX6_ofLock_35 : decode cX6_ofLock 35 = .ok (.ldc 207, 2) := by decide +kernel
theorem dX6_ofLock_37 : decode cX6_ofLock 37 = .ok (.invokespecial 34, 3) := by decide +kernel
theorem dX6_ofLock_40 : decode cX6_ofLock 40 = .ok (.athrow, 1) := by decide +kernel
theorem dX6_ofLock_41 : decode cX6_ofLock 41 = .ok (.aload_n 0, 1) := by decide +kernel
theorem dX6_ofLock_42 : decode cX6_ofLock 42 = .ok (.getfield 12, 3) := by decide +kernel
theorem dX6_ofLock_45 : decode cX6_ofLock 45 = .ok (.iload_n 1, 1) := by decide +kernel
theorem dX6_ofLock_46 : decode cX6_ofLock 46 = .ok (.iload_n 2, 1) := by decide +kernel
theorem dX6_ofLock_47 : decode cX6_ofLock 47 = .ok (.invokevirtual 209, 3) := by decide +kernel
theorem dX6_ofLock_50 : decode cX6_ofLock 50 = .ok (.ireturn, 1) := by decide +kernel
set_option maxRecDepth 20000 in
theorem ggX6_ofThing_X3_hasThing : GoodIn wsX6_ofThing wsX3_hasThing := goodIn_r _ [10, 11, 52, 53, 54, 55, 56, 57, 58, 59, 60, 61, 62, 63] (by decide +kernel) (by decide +kernel)
set_option maxRecDepth 20000 in
theorem gX6_ofThing_X3_hasThing : GoodIn wsX6_ofThing (wsV RX6 143 RX3 yX3_hasThing wsX3_hasThing) := goodIn_app (goodIn_of _ (by decide +kernel)) ggX6_ofThing_X3_hasThing
set_option maxRecDepth 20000 in
theorem ggX6_ofThing_X6_isWithin : GoodIn wsX6_ofThing wsX6_isWithin := goodIn_r _ [15] (by decide +kernel) (by decide +kernel)
set_option maxRecDepth 20000 in
theorem gX6_ofThing_X6_isWithin : GoodIn wsX6_ofThing (va_wsS RX6 26 yX6_isWithin wsX6_isWithin) := goodIn_app (goodIn_of _ (by decide +kernel)) ggX6_ofThing_X6_isWithin
set_option maxRecDepth 20000 in
theorem ggX6_ofThing_X3_tellThing : GoodIn wsX6_ofThing wsX3_tellThing := goodIn_r _ [19, 20, 21, 22, 23, 24, 25, 7, 8, 9, 10, 11, 26, 27, 28, 29, 30, 31, 32, 33, 34, 35, 36, 37, 38, 39, 40, 14, 41, 42, 43, 44, 45, 46, 47, 48, 52, 53, 54, 55, 56, 57, 58, 59, 60, 61, 62, 63, 64, 65, 66, 67, 68, 69, 70, 71, 72, 73, 74, 75, 76, 77, 78] (by decide +kernel) (by decide +kernel)
set_option maxRecDepth 20000 in
theorem gX6_ofThing_X3_tellThing : GoodIn wsX6_ofThing (wsV RX6 214 RX3 yX3_tellThing wsX3_tellThing) := goodIn_app (goodIn_of _ (by decide +kernel)) ggX6_ofThing_X3_tellThing
theorem dX6_ofThing_0 : decode cX6_ofThing 0 = .ok (.aload_n 0, 1) := by decide +kernel
theorem dX6_ofThing_1 : decode cX6_ofThing 1 = .ok (.getfield 12, 3) := by decide +kernel
theorem dX6_ofThing_4 : decode cX6_ofThing 4 = .ok (.iload_n 1, 1) := by decide +kernel
theorem dX6_ofThing_5 : decode cX6_ofThing 5 = .ok (.invokevirtual 143, 3) := by decide +kernel
theorem dX6_ofThing_8 : decode cX6_ofThing 8 = .ok (.ifCond .ne 13, 3) := by decide +kernel
theorem dX6_ofThing_11 : decode cX6_ofThing 11 = .ok (.new 64, 3) := by decide +kernel
theorem dX6_ofThing_14 : decode cX6_ofThing 14 = .ok (.dup, 1) := by decide +kernel
theorem dX6_ofThing_15 : decode cX6_ofThing 15 = .ok (.ldc 146, 2) := by decide +kernel
theorem dX6_ofThing_17 : decode cX6_ofThing 17 = .ok (.invokespecial 68, 3) := by decide +kernel
theorem dX6_ofThing_20 : decode cX6_ofThing 20 = .ok (.athrow, 1) := by decide +kernel
theorem dX6_ofThing_21 : decode cX6_ofThing 21 = .ok (.iload_n 2, 1) := by decide +kernel
theorem dX6_ofThing_22 : decode cX6_ofThing 22 = .ok (.iconst 0, 1) := by decide +kernel
theorem dX6_ofThing_23 : decode cX6_ofThing 23 = .ok (.iconst 5, 1) := by decide +kernel
theorem dX6_ofThing_24 : decode cX6_ofThing 24 = .ok (.invokestatic 26, 3) := by decide +kernel
theorem dX6_ofThing_27 : decode cX6_ofThing 27 = .ok (.ifCond .ne 13, 3) := by decide +kernel
theorem dX6_ofThing_30 : decode cX6_ofThing 30 = .ok (.new 30, 3) := by decide +kernel
theorem dX6_ofThing_33 : decode cX6_ofThing 33 = .ok (.dup, 1) := by decide +kernel
theorem dX6_ofThing_34 : decode cX6_ofThing 34 = .ok (.ldc 212, 2) := by decide +kernel
theorem dX6_ofThing_36 : decode cX6_ofThing 36 = .ok (.invokespecial 34, 3) := by decide +kernel
theorem dX6_ofThing_39 : decode cX6_ofThing 39 = .ok (.athrow, 1) := by decide +kernel
theorem dX6_ofThing_40 : decode cX6_ofThing 40 = .ok (.aload_n 0, 1) := by decide +kernel
theorem dX6_ofThing_41 : decode cX6_ofThing 41 = .ok (.getfield 12, 3) := by decide +kernel
theorem dX6_ofThing_44 : decode cX6_ofThing 44 = .ok (.iload_n 1, 1) := by decide +kernel
theorem dX6_ofThing_45 : decode cX6_ofThing 45 = .ok (.iload_n 2, 1) := by decide +kernel
theorem dX6_ofThing_46 : decode cX6_ofThing 46 = .ok (.invokevirtual 214, 3) := by decide +kernel
theorem dX6_ofThing_49 : decode cX6_ofThing 49 = .ok (.ireturn, 1) := by decide +kernel
set_option maxRecDepth 20000 in
theorem ggX6_ofPlayer_X3_hasPlayer : GoodIn wsX6_ofPlayer wsX3_hasPlayer := goodIn_r _ [10, 11, 29, 30, 31, 32, 33, 34, 35, 36, 37, 38, 39, 40] (by decide +kernel) (by decide +kernel)
set_option maxRecDepth 20000 in
theorem gX6_ofPlayer_X3_hasPlayer : GoodIn wsX6_ofPlayer (wsV RX6 217 RX3 yX3_hasPlayer wsX3_hasPlayer) := goodIn_app (goodIn_of _ (by decide +kernel)) ggX6_ofPlayer_X3_hasPlayer
set_option maxRecDepth 20000 in
theorem ggX6_ofPlayer_X6_isWithin : GoodIn wsX6_ofPlayer wsX6_isWithin := goodIn_r _ [15] (by decide +kernel) (by decide +kernel)
set_option maxRecDepth 20000 in
theorem gX6_ofPlayer_X6_isWithin : GoodIn wsX6_ofPlayer (va_wsS RX6 26 yX6_isWithin wsX6_isWithin) := goodIn_app (goodIn_of _ (by decide +kernel)) ggX6_ofPlayer_X6_isWithin
set_option maxRecDepth 20000 in
theorem ggX6_ofPlayer_X3_tellPlayer : GoodIn wsX6_ofPlayer wsX3_tellPlayer := goodIn_r _ [19, 20, 21, 22, 23, 24, 25, 7, 8, 9, 10, 11, 29, 30, 31, 32, 33, 34, 35, 36, 37, 38, 39, 40, 41, 42, 43, 44] (by decide +kernel) (by decide +kernel)
set_option maxRecDepth 20000 in
theorem gX6_ofPlayer_X3_tellPlayer : GoodIn wsX6_ofPlayer (wsV RX6 224 RX3 yX3_tellPlayer wsX3_tellPlayer) := goodIn_app (goodIn_of _ (by decide +kernel)) ggX6_ofPlayer_X3_tellPlayer
theorem dX6_ofPlayer_0 : decode cX6_ofPlayer 0 = .ok (.aload_n 0, 1) := by decide +kernel
theorem dX6_ofPlayer_1 : decode cX6_ofPlayer 1 = .ok (.getfield 12, 3) := by decide +kernel
theorem dX6_ofPlayer_4 : decode cX6_ofPlayer 4 = .ok (.iload_n 1, 1) := by decide +kernel
theorem dX6_ofPlayer_5 : decode cX6_ofPlayer 5 = .ok (.invokevirtual 217, 3) := by decide +kernel
theorem dX6_ofPlayer_8 : decode cX6_ofPlayer 8 = .ok (.ifCond .ne 13, 3) := by decide +kernel
theorem dX6_ofPlayer_11 : decode cX6_ofPlayer 11 = .ok (.new 64, 3) := by decide +kernel
theorem dX6_ofPlayer_14 : decode cX6_ofPlayer 14 = .ok (.dup, 1) := by decide +kernel
theorem dX6_ofPlayer_15 : decode cX6_ofPlayer 15 = .ok (.ldc 220, 2) := by decide +kernel
theorem dX6_ofPlayer_17 : decode cX6_ofPlayer 17 = .ok (.invokespecial 68, 3) := by decide +kernel
theorem dX6_ofPlayer_20 : decode cX6_ofPlayer 20 = .ok (.athrow, 1) := by decide +kernel
theorem dX6_ofPlayer_21 : decode cX6_ofPlayer 21 = .ok (.iload_n 2, 1) := by decide +kernel
theorem dX6_ofPlayer_22 : decode cX6_ofPlayer 22 = .ok (.iconst 0, 1) := by decide +kernel
theorem dX6_ofPlayer_23 : decode cX6_ofPlayer 23 = .ok (.iconst 3, 1) := by decide +kernel
theorem dX6_ofPlayer_24 : decode cX6_ofPlayer 24 = .ok (.invokestatic 26, 3) := by decide +kernel
theorem dX6_ofPlayer_27 : decode cX6_ofPlayer 27 = .ok (.ifCond .ne 13, 3) := by decide +kernel
theorem dX6_ofPlayer_30 : decode cX6_ofPlayer 30 = .ok (.new 30, 3) := by decide +kernel
theorem dX6_ofPlayer_33 : decode cX6_ofPlayer 33 = .ok (.dup, 1) := by decide +kernel
theorem dX6_ofPlayer_34 : decode cX6_ofPlayer 34 = .ok (.ldc 222, 2) := by decide +kernel
theorem dX6_ofPlayer_36 : decode cX6_ofPlayer 36 = .ok (.invokespecial 34, 3) := by decide +kernel
theorem dX6_ofPlayer_39 : decode cX6_ofPlayer 39 = .ok (.athrow, 1) := by decide +kernel
theorem dX6_ofPlayer_40 : decode cX6_ofPlayer 40 = .ok (.aload_n 0, 1) := by decide +kernel
theorem dX6_ofPlayer_41 : decode cX6_ofPlayer 41 = .ok (.getfield 12, 3) := by decide +kernel
theorem dX6_ofPlayer_44 : decode cX6_ofPlayer 44 = .ok (.iload_n 1, 1) := by decide +kernel
theorem dX6_ofPlayer_45 : decode cX6_ofPlayer 45 = .ok (.iload_n 2, 1) := by decide +kernel
theorem dX6_ofPlayer_46 : decode cX6_ofPlayer 46 = .ok (.invokevirtual 224, 3) := by decide +kernel
theorem dX6_ofPlayer_49 : decode cX6_ofPlayer 49 = .ok (.ireturn, 1) := by decide +kernel
set_option maxRecDepth 20000 in
theorem ggX6_many_X6_isWithin : GoodIn wsX6_many wsX6_isWithin := goodIn_r _ [7] (by decide +kernel) (by decide +kernel)
set_option maxRecDepth 20000 in
theorem gX6_many_X6_isWithin : GoodIn wsX6_many (va_wsS RX6 26 yX6_isWithin wsX6_isWithin) := goodIn_app (goodIn_of _ (by decide +kernel)) ggX6_many_X6_isWithin
set_option maxRecDepth 20000 in
theorem ggX6_many_X3_tell : GoodIn wsX6_many wsX3_tell := goodIn_r _ [12, 13, 14, 15, 16, 17, 18, 19, 20, 21, 22, 23, 24, 25, 26, 27, 28, 6, 29, 30, 31, 32, 11, 33, 34, 35, 36, 37, 38, 39, 40, 41, 42, 43, 44, 45, 46, 47, 48, 49, 50, 51, 52, 53, 57, 58, 59, 60, 61, 62, 63, 64, 65, 66, 67, 68, 69, 70, 71, 72, 73, 74, 75, 76, 77, 78, 79, 80, 81, 82, 83, 84, 85, 86, 87, 88, 89, 90] (by decide +kernel) (by decide +kernel)
set_option maxRecDepth 20000 in
theorem gX6_many_X3_tell : GoodIn wsX6_many (wsV RX6 229 RX3 yX3_tell wsX3_tell) := goodIn_app (goodIn_of _ (by decide +kernel)) ggX6_many_X3_tell
theorem dX6_many_0 : decode cX6_many 0 = .ok (.iload_n 1, 1) := by decide +kernel
theorem dX6_many_1 : decode cX6_many 1 = .ok (.iconst 0, 1) := by decide +kernel
theorem dX6_many_2 : decode cX6_many 2 = .ok (.bipush 18, 2) := by decide +kernel
theorem dX6_many_4 : decode cX6_many 4 = .ok (.invokestatic 26, 3) := by decide +kernel
theorem dX6_many_7 : decode cX6_many 7 = .ok (.ifCond .ne 13, 3) := by decide +kernel
theorem dX6_many_10 : decode cX6_many 10 = .ok (.new 30, 3) := by decide +kernel
theorem dX6_many_13 : decode cX6_many 13 = .ok (.dup, 1) := by decide +kernel
theorem dX6_many_14 : decode cX6_many 14 = .ok (.ldc 227, 2) := by decide +kernel
theorem dX6_many_16 : decode cX6_many 16 = .ok (.invokespecial 34, 3) := by decide +kernel
theorem dX6_many_19 : decode cX6_many 19 = .ok (.athrow, 1) := by decide +kernel
theorem dX6_many_20 : decode cX6_many 20 = .ok (.aload_n 0, 1) := by decide +kernel
theorem dX6_many_21 : decode cX6_many 21 = .ok (.getfield 12, 3) := by decide +kernel
theorem dX6_many_24 : decode cX6_many 24 = .ok (.iload_n 1, 1) := by decide +kernel
theorem dX6_many_25 : decode cX6_many 25 = .ok (.invokevirtual 229, 3) := by decide +kernel
theorem dX6_many_28 : decode cX6_many 28 = .ok (.ireturn, 1) := by decide +kernel
theorem dX6_meanScore_0 : decode cX6_meanScore 0 = .ok (.aload_n 0, 1) := by decide +kernel
theorem dX6_meanScore_1 : decode cX6_meanScore 1 = .ok (.getfield 12, 3) := by decide +kernel
theorem dX6_meanScore_4 : decode cX6_meanScore 4 = .ok (.getfield 41, 3) := by decide +kernel
theorem dX6_meanScore_7 : decode cX6_meanScore 7 = .ok (.getfield 232, 3) := by decide +kernel
theorem dX6_meanScore_10 : decode cX6_meanScore 10 = .ok (.ifCond .ne 5, 3) := by decide +kernel
theorem dX6_meanScore_13 : decode cX6_meanScore 13 = .ok (.dconst 0, 1) := by decide +kernel
theorem dX6_meanScore_14 : decode cX6_meanScore 14 = .ok (.dreturn, 1) := by decide +kernel
theorem dX6_meanScore_15 : decode cX6_meanScore 15 = .ok (.aload_n 0, 1) := by decide +kernel
theorem dX6_meanScore_16 : decode cX6_meanScore 16 = .ok (.getfield 12, 3) := by decide +kernel
theorem dX6_meanScore_19 : decode cX6_meanScore 19 = .ok (.getfield 41, 3) := by decide +kernel
theorem dX6_meanScore_22 : decode cX6_meanScore 22 = .ok (.getfield 235, 3) := by decide +kernel
theorem dX6_meanScore_25 : decode cX6_meanScore 25 = .ok (.l2d, 1) := by decide +kernel
theorem dX6_meanScore_26 : decode cX6_meanScore 26 = .ok (.aload_n 0, 1) := by decide +kernel
theorem dX6_meanScore_27 : decode cX6_meanScore 27 = .ok (.getfield 12, 3) := by decide +kernel
theorem dX6_meanScore_30 : decode cX6_meanScore 30 = .ok (.getfield 41, 3) := by decide +kernel
theorem dX6_meanScore_33 : decode cX6_meanScore 33 = .ok (.getfield 232, 3) := by decide +kernel
theorem dX6_meanScore_36 : decode cX6_meanScore 36 = .ok (.i2d, 1) := by decide +kernel
theorem dX6_meanScore_37 : decode cX6_meanScore 37 = .ok (.ddiv, 1) := by decide +kernel
theorem dX6_meanScore_38 : decode cX6_meanScore 38 = .ok (.dreturn, 1) := by decide +kernel
set_option maxRecDepth 20000 in
theorem ggX6_canEnd_X4_findDepth : GoodIn wsX6_canEnd wsX4_findDepth := goodIn_r _ [7, 8, 9, 10, 6, 11, 12, 13, 14, 15, 16, 17, 18, 19, 20, 21, 22, 23, 24, 25, 26, 27, 28, 29, 30, 31, 32, 33, 34, 35, 36, 37, 38, 39, 40, 41, 42, 43, 44, 45, 46, 47, 48, 49, 50, 51, 52, 53, 54, 55, 56, 57, 58, 59, 60, 61, 62, 63, 64, 65, 66, 67, 68, 69, 70, 71, 72, 73, 74, 75, 79, 80, 81, 82, 83, 84, 85, 86, 87, 88, 89, 90, 91, 92, 93, 94, 95, 96, 97, 98, 99, 100, 101, 102, 103, 104, 105, 106, 107, 108] (by decide +kernel) (by decide +kernel)
set_option maxRecDepth 20000 in
theorem gX6_canEnd_X4_findDepth : GoodIn wsX6_canEnd (wsV RX6 239 RX4 yX4_findDepth wsX4_findDepth) := goodIn_app (goodIn_of _ (by decide +kernel)) ggX6_canEnd_X4_findDepth
theorem dX6_canEnd_0 : decode cX6_canEnd 0 = .ok (.aload_n 0, 1) := by decide +kernel
theorem dX6_canEnd_1 : decode cX6_canEnd 1 = .ok (.getfield 22, 3) := by decide +kernel
theorem dX6_canEnd_4 : decode cX6_canEnd 4 = .ok (.aload_n 0, 1) := by decide +kernel
theorem dX6_canEnd_5 : decode cX6_canEnd 5 = .ok (.getfield 12, 3) := by decide +kernel
theorem dX6_canEnd_8 : decode cX6_canEnd 8 = .ok (.invokevirtual 239, 3) := by decide +kernel
theorem dX6_canEnd_11 : decode cX6_canEnd 11 = .ok (.iconst (-1), 1) := by decide +kernel
theorem dX6_canEnd_12 : decode cX6_canEnd 12 = .ok (.if_icmp .eq 7, 3) := by decide +kernel
theorem dX6_canEnd_15 : decode cX6_canEnd 15 = .ok (.iconst 1, 1) := by decide +kernel
theorem dX6_canEnd_16 : decode cX6_canEnd 16 = .ok (.goto 4, 3) := by decide +kernel
theorem dX6_canEnd_19 : decode cX6_canEnd 19 = .ok (.iconst 0, 1) := by decide +kernel
theorem dX6_canEnd_20 : decode cX6_canEnd 20 = .ok (.ireturn, 1) := by decide +kernel
set_option maxRecDepth 20000 in
theorem ggX6_stands_X4_countReached : GoodIn wsX6_stands wsX4_countReached := goodIn_r _ [7, 8, 9, 10, 11, 6, 12, 13, 14, 15, 16, 17, 18, 19, 20, 21, 22, 23, 24, 25, 26, 27, 28, 29, 30, 31, 32, 33, 34, 35, 36, 37, 38, 39, 40, 41, 42, 43, 44, 45, 46, 47, 48, 49, 50, 51, 52, 53, 54, 55, 56, 57, 58, 59, 60, 61, 62, 63, 64, 65, 66, 67, 68, 69, 70, 71, 72, 73, 74, 75, 76, 77, 81, 82, 83, 84, 85, 86, 87, 88, 89, 90, 91, 92, 93, 94, 95, 96, 97, 98, 99, 100, 101, 102, 103, 104, 105, 106, 107, 108, 109, 110] (by decide +kernel) (by decide +kernel)
set_option maxRecDepth 20000 in
theorem gX6_stands_X4_countReached : GoodIn wsX6_stands (wsV RX6 243 RX4 yX4_countReached wsX4_countReached) := goodIn_app (goodIn_of _ (by decide +kernel)) ggX6_stands_X4_countReached
theorem dX6_stands_0 : decode cX6_stands 0 = .ok (.aload_n 0, 1) := by decide +kernel
theorem dX6_stands_1 : decode cX6_stands 1 = .ok (.getfield 22, 3) := by decide +kernel
theorem dX6_stands_4 : decode cX6_stands 4 = .ok (.aload_n 0, 1) := by decide +kernel
theorem dX6_stands_5 : decode cX6_stands 5 = .ok (.getfield 12, 3) := by decide +kernel
theorem dX6_stands_8 : decode cX6_stands 8 = .ok (.invokevirtual 243, 3) := by decide +kernel
theorem dX6_stands_11 : decode cX6_stands 11 = .ok (.ireturn, 1) := by decide +kernel
set_option maxRecDepth 20000 in
theorem ggX6_deadEnds_X4_countDeadEnds : GoodIn wsX6_deadEnds wsX4_countDeadEnds := goodIn_r _ [7, 8, 9, 10, 11, 12, 6, 13, 14, 15, 16, 17, 18, 19, 20, 21, 22, 23, 24, 25, 26, 27, 28, 29, 30, 31, 32, 33, 34, 35, 36, 37, 38, 39, 40, 41, 42, 43, 44, 45, 46, 47, 48, 49, 50, 51, 52, 53, 54, 55, 56, 57, 58, 59, 60, 61, 62, 63, 64, 65, 66, 67, 68, 69, 70, 71, 72, 73, 74, 75, 76, 77, 81, 82, 83, 84, 85, 86, 87, 88, 89, 90, 91, 92, 93, 94, 95, 96, 97, 98, 99, 100, 101, 102, 103, 104, 105, 106, 107, 108, 109, 110] (by decide +kernel) (by decide +kernel)
set_option maxRecDepth 20000 in
theorem gX6_deadEnds_X4_countDeadEnds : GoodIn wsX6_deadEnds (wsV RX6 246 RX4 yX4_countDeadEnds wsX4_countDeadEnds) := goodIn_app (goodIn_of _ (by decide +kernel)) ggX6_deadEnds_X4_countDeadEnds
theorem dX6_deadEnds_0 : decode cX6_deadEnds 0 = .ok (.aload_n 0, 1) := by decide +kernel
theorem dX6_deadEnds_1 : decode cX6_deadEnds 1 = .ok (.getfield 22, 3) := by decide +kernel
theorem dX6_deadEnds_4 : decode cX6_deadEnds 4 = .ok (.aload_n 0, 1) := by decide +kernel
theorem dX6_deadEnds_5 : decode cX6_deadEnds 5 = .ok (.getfield 12, 3) := by decide +kernel
theorem dX6_deadEnds_8 : decode cX6_deadEnds 8 = .ok (.invokevirtual 246, 3) := by decide +kernel
theorem dX6_deadEnds_11 : decode cX6_deadEnds 11 = .ok (.ireturn, 1) := by decide +kernel
set_option maxRecDepth 20000 in
theorem ggX6_depth_X4_findDepth : GoodIn wsX6_depth wsX4_findDepth := goodIn_r _ [7, 8, 9, 10, 6, 11, 12, 13, 14, 15, 16, 17, 18, 19, 20, 21, 22, 23, 24, 25, 26, 27, 28, 29, 30, 31, 32, 33, 34, 35, 36, 37, 38, 39, 40, 41, 42, 43, 44, 45, 46, 47, 48, 49, 50, 51, 52, 53, 54, 55, 56, 57, 58, 59, 60, 61, 62, 63, 64, 65, 66, 67, 68, 69, 70, 71, 72, 73, 74, 75, 79, 80, 81, 82, 83, 84, 85, 86, 87, 88, 89, 90, 91, 92, 93, 94, 95, 96, 97, 98, 99, 100, 101, 102, 103, 104, 105, 106, 107, 108] (by decide +kernel) (by decide +kernel)
set_option maxRecDepth 20000 in
theorem gX6_depth_X4_findDepth : GoodIn wsX6_depth (wsV RX6 239 RX4 yX4_findDepth wsX4_findDepth) := goodIn_app (goodIn_of _ (by decide +kernel)) ggX6_depth_X4_findDepth
theorem dX6_depth_0 : decode cX6_depth 0 = .ok (.aload_n 0, 1) := by decide +kernel
theorem dX6_depth_1 : decode cX6_depth 1 = .ok (.getfield 22, 3) := by decide +kernel
theorem dX6_depth_4 : decode cX6_depth 4 = .ok (.aload_n 0, 1) := by decide +kernel
theorem dX6_depth_5 : decode cX6_depth 5 = .ok (.getfield 12, 3) := by decide +kernel
theorem dX6_depth_8 : decode cX6_depth 8 = .ok (.invokevirtual 239, 3) := by decide +kernel
theorem dX6_depth_11 : decode cX6_depth 11 = .ok (.ireturn, 1) := by decide +kernel
set_option maxRecDepth 20000 in
theorem ggX6_cannotMiss_X4_findMusts : GoodIn wsX6_cannotMiss wsX4_findMusts := goodIn_r _ [7, 8, 9, 10, 11, 12, 13, 14, 15, 16, 17, 18, 19, 6, 20, 21, 22, 23, 24, 25, 26, 27, 28, 29, 30, 31, 32, 33, 34, 35, 36, 37, 38, 39, 40, 41, 42, 43, 44, 45, 46, 47, 48, 49, 50, 51, 52, 53, 54, 55, 56, 57, 58, 59, 60, 61, 62, 63, 64, 65, 66, 67, 68, 69, 70, 71, 72, 73, 74, 75, 76, 80, 81, 82, 83, 84, 85, 86, 87, 88, 89, 90, 91, 92, 93, 94, 95, 96, 97, 98, 99, 100, 101, 102, 103, 104, 105, 106, 107, 108, 109] (by decide +kernel) (by decide +kernel)
set_option maxRecDepth 20000 in
theorem gX6_cannotMiss_X4_findMusts : GoodIn wsX6_cannotMiss (wsV RX6 249 RX4 yX4_findMusts wsX4_findMusts) := goodIn_app (goodIn_of _ (by decide +kernel)) ggX6_cannotMiss_X4_findMusts
theorem dX6_cannotMiss_0 : decode cX6_cannotMiss 0 = .ok (.aload_n 0, 1) := by decide +kernel
theorem dX6_cannotMiss_1 : decode cX6_cannotMiss 1 = .ok (.getfield 22, 3) := by decide +kernel
theorem dX6_cannotMiss_4 : decode cX6_cannotMiss 4 = .ok (.aload_n 0, 1) := by decide +kernel
theorem dX6_cannotMiss_5 : decode cX6_cannotMiss 5 = .ok (.getfield 12, 3) := by decide +kernel
theorem dX6_cannotMiss_8 : decode cX6_cannotMiss 8 = .ok (.invokevirtual 249, 3) := by decide +kernel
theorem dX6_cannotMiss_11 : decode cX6_cannotMiss 11 = .ok (.ireturn, 1) := by decide +kernel
set_option maxRecDepth 20000 in
theorem ggX6_bestHint_X4_findBestReady : GoodIn wsX6_bestHint wsX4_findBestReady := goodIn_r _ [7, 8, 9, 10, 11, 6, 12, 13, 14, 15, 16, 17, 18, 19, 20, 21, 22, 23, 24, 25, 26, 27, 28, 29, 30, 31, 32, 33, 34, 35, 36, 37, 38, 39, 40, 41, 42, 43, 44, 45, 46, 47, 48, 49, 50, 51, 52, 53, 54, 55, 56, 57, 58, 59, 60, 61, 62, 63, 64, 65, 66, 67, 68, 69, 70, 71, 72, 73, 74, 75, 76, 77, 78, 79, 80, 84, 85, 86, 87, 88, 89, 90, 91, 92, 93, 94, 95, 96, 97, 98, 99, 100, 101, 102, 103, 104, 105, 106, 107, 108, 109, 110, 111, 112, 113] (by decide +kernel) (by decide +kernel)
set_option maxRecDepth 20000 in
theorem gX6_bestHint_X4_findBestReady : GoodIn wsX6_bestHint (wsV RX6 252 RX4 yX4_findBestReady wsX4_findBestReady) := goodIn_app (goodIn_of _ (by decide +kernel)) ggX6_bestHint_X4_findBestReady
theorem dX6_bestHint_0 : decode cX6_bestHint 0 = .ok (.aload_n 0, 1) := by decide +kernel
theorem dX6_bestHint_1 : decode cX6_bestHint 1 = .ok (.getfield 22, 3) := by decide +kernel
theorem dX6_bestHint_4 : decode cX6_bestHint 4 = .ok (.aload_n 0, 1) := by decide +kernel
theorem dX6_bestHint_5 : decode cX6_bestHint 5 = .ok (.getfield 12, 3) := by decide +kernel
theorem dX6_bestHint_8 : decode cX6_bestHint 8 = .ok (.invokevirtual 252, 3) := by decide +kernel
theorem dX6_bestHint_11 : decode cX6_bestHint 11 = .ok (.ireturn, 1) := by decide +kernel
set_option maxRecDepth 20000 in
theorem ggX6_endsAt_X3_copyFrom : GoodIn wsX6_endsAt wsX3_copyFrom := goodIn_r _ [11, 12, 13, 14, 15, 16, 17, 18, 19, 20, 21, 22, 23, 24, 25, 26, 27, 28, 29, 30, 31, 32, 33, 34, 35, 36, 37, 38, 39, 40, 41, 42, 43, 44, 45, 46, 47, 48, 49, 50, 51, 52, 53, 54, 55, 56, 57, 58, 59, 60, 61, 62, 63, 64, 65, 66, 67, 68, 69, 173, 174, 175, 176, 177, 178, 179, 180, 181, 182, 183, 184, 192, 193, 194, 195, 196, 197, 198, 199, 200, 201, 202, 203, 204, 205, 206, 207, 208, 209, 210, 185, 186, 187, 188, 189, 190, 191] (by decide +kernel) (by decide +kernel)
set_option maxRecDepth 20000 in
theorem gX6_endsAt_X3_copyFrom : GoodIn wsX6_endsAt (wsV RX6 255 RX3 yX3_copyFrom wsX3_copyFrom) := goodIn_app (goodIn_of _ (by decide +kernel)) ggX6_endsAt_X3_copyFrom
set_option maxRecDepth 20000 in
theorem ggX6_endsAt_X3_letMinuteGoBy : GoodIn wsX6_endsAt wsX3_letMinuteGoBy := goodIn_r _ [73, 21, 18, 74, 75, 16, 17, 76, 77, 78, 10, 79, 12, 13, 80, 14, 15, 81, 82, 83, 84, 52, 85, 55, 56, 86, 87, 88, 89, 90, 91, 92, 93, 23, 94, 95, 96, 97, 98, 99, 100, 101, 102, 103, 104, 105, 27, 106, 33, 34, 29, 107, 108, 109, 110, 111, 112, 113, 114, 115, 116, 117, 19, 118, 119, 120, 121, 37, 122, 123, 124, 125, 126, 127, 128, 129, 130, 131, 132, 133, 134, 135, 61, 136, 63, 66, 64, 65, 69, 68, 137, 138, 139, 140, 141, 142, 143, 144, 145, 146, 147, 148, 42, 149, 47, 44, 150, 151, 152, 153, 154, 155, 156, 157, 158, 159, 160, 161, 162, 163, 164, 165, 166, 167, 168, 169, 67, 173, 174, 175, 176, 177, 178, 179, 180, 181, 182, 183, 184, 185, 186, 187, 188, 189, 190, 191, 192, 193, 194, 195, 196, 197, 198, 199, 200, 201, 202, 203, 204, 205, 206, 207, 208, 209, 210] (by decide +kernel) (by decide +kernel)
set_option maxRecDepth 20000 in
theorem gX6_endsAt_X3_letMinuteGoBy : GoodIn wsX6_endsAt (wsV RX6 107 RX3 yX3_letMinuteGoBy wsX3_letMinuteGoBy) := goodIn_app (goodIn_of _ (by decide +kernel)) ggX6_endsAt_X3_letMinuteGoBy
theorem dX6_endsAt_0 : decode cX6_endsAt 0 = .ok (.aload_n 0, 1) := by decide +kernel
theorem dX6_endsAt_1 : decode cX6_endsAt 1 = .ok (.getfield 12, 3) := by decide +kernel
theorem dX6_endsAt_4 : decode cX6_endsAt 4 = .ok (.getfield 41, 3) := by decide +kernel
theorem dX6_endsAt_7 : decode cX6_endsAt 7 = .ok (.getfield 45, 3) := by decide +kernel
theorem dX6_endsAt_10 : decode cX6_endsAt 10 = .ok (.ifCond .ne 5, 3) := by decide +kernel
theorem dX6_endsAt_13 : decode cX6_endsAt 13 = .ok (.iconst (-1), 1) := by decide +kernel
theorem dX6_endsAt_14 : decode cX6_endsAt 14 = .ok (.ireturn, 1) := by decide +kernel
theorem dX6_endsAt_15 : decode cX6_endsAt 15 = .ok (.aload_n 0, 1) := by decide +kernel
theorem dX6_endsAt_16 : decode cX6_endsAt 16 = .ok (.getfield 16, 3) := by decide +kernel
theorem dX6_endsAt_19 : decode cX6_endsAt 19 = .ok (.aload_n 0, 1) := by decide +kernel
theorem dX6_endsAt_20 : decode cX6_endsAt 20 = .ok (.getfield 12, 3) := by decide +kernel
theorem dX6_endsAt_23 : decode cX6_endsAt 23 = .ok (.invokevirtual 255, 3) := by decide +kernel
theorem dX6_endsAt_26 : decode cX6_endsAt 26 = .ok (.iconst 0, 1) := by decide +kernel
theorem dX6_endsAt_27 : decode cX6_endsAt 27 = .ok (.istore_n 1, 1) := by decide +kernel
theorem dX6_endsAt_28 : decode cX6_endsAt 28 = .ok (.iload_n 1, 1) := by decide +kernel
theorem dX6_endsAt_29 : decode cX6_endsAt 29 = .ok (.bipush 60, 2) := by decide +kernel
theorem dX6_endsAt_31 : decode cX6_endsAt 31 = .ok (.if_icmp .ge 30, 3) := by decide +kernel
theorem dX6_endsAt_34 : decode cX6_endsAt 34 = .ok (.aload_n 0, 1) := by decide +kernel
theorem dX6_endsAt_35 : decode cX6_endsAt 35 = .ok (.getfield 16, 3) := by decide +kernel
theorem dX6_endsAt_38 : decode cX6_endsAt 38 = .ok (.getfield 41, 3) := by decide +kernel
theorem dX6_endsAt_41 : decode cX6_endsAt 41 = .ok (.getfield 45, 3) := by decide +kernel
theorem dX6_endsAt_44 : decode cX6_endsAt 44 = .ok (.ifCond .eq 17, 3) := by decide +kernel
theorem dX6_endsAt_47 : decode cX6_endsAt 47 = .ok (.aload_n 0, 1) := by decide +kernel
theorem dX6_endsAt_48 : decode cX6_endsAt 48 = .ok (.getfield 16, 3) := by decide +kernel
theorem dX6_endsAt_51 : decode cX6_endsAt 51 = .ok (.invokevirtual 107, 3) := by decide +kernel
theorem dX6_endsAt_54 : decode cX6_endsAt 54 = .ok (.pop, 1) := by decide +kernel
theorem dX6_endsAt_55 : decode cX6_endsAt 55 = .ok (.iinc 1 1, 3) := by decide +kernel
theorem dX6_endsAt_58 : decode cX6_endsAt 58 = .ok (.goto (-30), 3) := by decide +kernel
theorem dX6_endsAt_61 : decode cX6_endsAt 61 = .ok (.aload_n 0, 1) := by decide +kernel
theorem dX6_endsAt_62 : decode cX6_endsAt 62 = .ok (.getfield 16, 3) := by decide +kernel
theorem dX6_endsAt_65 : decode cX6_endsAt 65 = .ok (.getfield 41, 3) := by decide +kernel
theorem dX6_endsAt_68 : decode cX6_endsAt 68 = .ok (.getfield 232, 3) := by decide +kernel
theorem dX6_endsAt_71 : decode cX6_endsAt 71 = .ok (.aload_n 0, 1) := by decide +kernel
theorem dX6_endsAt_72 : decode cX6_endsAt 72 = .ok (.getfield 12, 3) := by decide +kernel
theorem dX6_endsAt_75 : decode cX6_endsAt 75 = .ok (.getfield 41, 3) := by decide +kernel
theorem dX6_endsAt_78 : decode cX6_endsAt 78 = .ok (.getfield 232, 3) := by decide +kernel
theorem dX6_endsAt_81 : decode cX6_endsAt 81 = .ok (.if_icmp .le 16, 3) := by decide +kernel
theorem dX6_endsAt_84 : decode cX6_endsAt 84 = .ok (.aload_n 0, 1) := by decide +kernel
theorem dX6_endsAt_85 : decode cX6_endsAt 85 = .ok (.getfield 16, 3) := by decide +kernel
theorem dX6_endsAt_88 : decode cX6_endsAt 88 = .ok (.getfield 41, 3) := by decide +kernel
theorem dX6_endsAt_91 : decode cX6_endsAt 91 = .ok (.getfield 140, 3) := by decide +kernel
theorem dX6_endsAt_94 : decode cX6_endsAt 94 = .ok (.goto 4, 3) := by decide +kernel
theorem dX6_endsAt_97 : decode cX6_endsAt 97 = .ok (.iconst (-1), 1) := by decide +kernel
theorem dX6_endsAt_98 : decode cX6_endsAt 98 = .ok (.ireturn, 1) := by decide +kernel
set_option maxRecDepth 20000 in
theorem ggX6_digest_X3_tell : GoodIn wsX6_digest wsX3_tell := goodIn_r _ [7, 8, 9, 10, 11, 12, 13, 14, 15, 16, 17, 18, 19, 20, 21, 22, 23, 24, 25, 26, 27, 28, 6, 29, 30, 31, 32, 33, 34, 35, 36, 37, 38, 39, 40, 41, 42, 43, 44, 45, 46, 47, 48, 49, 319, 320, 321, 322, 323, 324, 325, 326, 327, 328, 329, 330, 331, 332, 333, 334, 335, 336, 337, 338, 339, 340, 341, 342, 343, 344, 345, 346, 347, 348, 349, 350, 351, 352] (by decide +kernel) (by decide +kernel)
set_option maxRecDepth 20000 in
theorem gX6_digest_X3_tell : GoodIn wsX6_digest (wsV RX6 229 RX3 yX3_tell wsX3_tell) := goodIn_app (goodIn_of _ (by decide +kernel)) ggX6_digest_X3_tell
set_option maxRecDepth 20000 in
theorem ggX6_digest_X6_mix : GoodIn wsX6_digest wsX6_mix := goodIn_r _ [52, 53] (by decide +kernel) (by decide +kernel)
set_option maxRecDepth 20000 in
theorem gX6_digest_X6_mix : GoodIn wsX6_digest (va_wsS RX6 261 yX6_mix wsX6_mix) := goodIn_app (goodIn_of _ (by decide +kernel)) ggX6_digest_X6_mix
set_option maxRecDepth 20000 in
theorem ggX6_digest_X6_mixLocks : GoodIn wsX6_digest wsX6_mixLocks := goodIn_r _ [57, 2, 58, 59, 60, 61, 6, 62, 30, 63, 64, 65, 66, 31, 67, 68, 69, 70, 71, 72, 73, 74, 9, 23, 24, 25, 36, 37, 38, 39, 10, 40, 41, 42, 43, 44, 45, 46, 47, 48, 49, 50, 51, 52, 53, 316, 317, 318, 319, 320, 321, 322, 323, 324, 325, 326, 327, 328, 329, 330, 338, 339, 340, 341, 342, 343, 344, 345, 346, 347, 348, 349, 350, 351, 352] (by decide +kernel) (by decide +kernel)
set_option maxRecDepth 20000 in
theorem gX6_digest_X6_mixLocks : GoodIn wsX6_digest (wsV RX6 265 RX6 yX6_mixLocks wsX6_mixLocks) := goodIn_app (goodIn_of _ (by decide +kernel)) ggX6_digest_X6_mixLocks
set_option maxRecDepth 20000 in
theorem ggX6_digest_X6_mixThings : GoodIn wsX6_digest wsX6_mixThings := goodIn_r _ [78, 2, 79, 80, 81, 82, 6, 83, 40, 84, 85, 86, 41, 87, 88, 89, 90, 10, 26, 27, 28, 29, 9, 30, 31, 91, 92, 93, 94, 95, 96, 97, 23, 24, 25, 98, 99, 100, 101, 63, 102, 103, 50, 51, 52, 53, 316, 317, 318, 319, 320, 321, 322, 323, 324, 325, 326, 327, 328, 329, 330, 348, 349, 350, 351, 352, 338, 339, 340, 341, 342, 343, 344, 345, 346, 347] (by decide +kernel) (by decide +kernel)
set_option maxRecDepth 20000 in
theorem gX6_digest_X6_mixThings : GoodIn wsX6_digest (wsV RX6 269 RX6 yX6_mixThings wsX6_mixThings) := goodIn_app (goodIn_of _ (by decide +kernel)) ggX6_digest_X6_mixThings
set_option maxRecDepth 20000 in
theorem ggX6_digest_X6_mixPlayers : GoodIn wsX6_digest wsX6_mixPlayers := goodIn_r _ [107, 2, 108, 109, 110, 111, 6, 112, 113, 114, 115, 116, 117, 118, 119, 120, 121, 11, 50, 51, 24, 52, 53, 316, 317, 318, 319, 320, 321, 322, 323, 324, 325, 326, 327, 328, 329, 330, 353, 354, 355, 356] (by decide +kernel) (by decide +kernel)
set_option maxRecDepth 20000 in
theorem gX6_digest_X6_mixPlayers : GoodIn wsX6_digest (wsV RX6 272 RX6 yX6_mixPlayers wsX6_mixPlayers) := goodIn_app (goodIn_of _ (by decide +kernel)) ggX6_digest_X6_mixPlayers
set_option maxRecDepth 20000 in
theorem ggX6_digest_X6_canEnd : GoodIn wsX6_digest wsX6_canEnd := goodIn_r _ [125, 126, 2, 127, 128, 129, 130, 131, 132, 133, 134, 135, 136, 137, 138, 139, 140, 141, 142, 143, 144, 145, 146, 147, 148, 27, 28, 6, 29, 9, 30, 31, 149, 150, 151, 152, 153, 154, 155, 156, 157, 158, 10, 40, 64, 36, 37, 38, 39, 41, 91, 92, 93, 94, 95, 96, 97, 102, 24, 103, 159, 43, 44, 45, 46, 47, 48, 49, 160, 161, 162, 163, 164, 165, 166, 167, 316, 317, 318, 357, 358, 359, 319, 320, 321, 322, 323, 324, 325, 326, 327, 328, 329, 330, 338, 339, 340, 341, 342, 343, 344, 345, 346, 347, 348, 349, 350, 351, 352] (by decide +kernel) (by decide +kernel)
set_option maxRecDepth 20000 in
theorem gX6_digest_X6_canEnd : GoodIn wsX6_digest (wsV RX6 275 RX6 yX6_canEnd wsX6_canEnd) := goodIn_app (goodIn_of _ (by decide +kernel)) ggX6_digest_X6_canEnd
set_option maxRecDepth 20000 in
theorem ggX6_digest_X6_stands : GoodIn wsX6_digest wsX6_stands := goodIn_r _ [171, 126, 2, 172, 173, 174, 130, 175, 136, 132, 133, 134, 135, 137, 138, 139, 140, 141, 142, 143, 144, 145, 146, 147, 148, 27, 28, 6, 29, 9, 30, 31, 149, 150, 151, 152, 153, 154, 155, 156, 157, 158, 10, 40, 64, 36, 37, 38, 39, 41, 91, 92, 93, 94, 95, 96, 97, 102, 24, 103, 159, 43, 44, 45, 46, 47, 48, 49, 160, 161, 162, 163, 164, 165, 166, 167, 23, 25, 316, 317, 318, 357, 358, 359, 319, 320, 321, 322, 323, 324, 325, 326, 327, 328, 329, 330, 338, 339, 340, 341, 342, 343, 344, 345, 346, 347, 348, 349, 350, 351, 352] (by decide +kernel) (by decide +kernel)
set_option maxRecDepth 20000 in
theorem gX6_digest_X6_stands : GoodIn wsX6_digest (wsV RX6 278 RX6 yX6_stands wsX6_stands) := goodIn_app (goodIn_of _ (by decide +kernel)) ggX6_digest_X6_stands
set_option maxRecDepth 20000 in
theorem ggX6_digest_X6_deadEnds : GoodIn wsX6_digest wsX6_deadEnds := goodIn_r _ [179, 126, 2, 180, 181, 182, 130, 183, 136, 137, 132, 133, 134, 135, 138, 139, 140, 141, 142, 143, 144, 145, 146, 147, 148, 27, 28, 6, 29, 9, 30, 31, 149, 150, 151, 152, 153, 154, 155, 156, 157, 158, 10, 40, 64, 36, 37, 38, 39, 41, 91, 92, 93, 94, 95, 96, 97, 102, 24, 103, 159, 43, 44, 45, 46, 47, 48, 49, 160, 161, 162, 163, 164, 165, 166, 167, 23, 25, 316, 317, 318, 357, 358, 359, 319, 320, 321, 322, 323, 324, 325, 326, 327, 328, 329, 330, 338, 339, 340, 341, 342, 343, 344, 345, 346, 347, 348, 349, 350, 351, 352] (by decide +kernel) (by decide +kernel)
set_option maxRecDepth 20000 in
theorem gX6_digest_X6_deadEnds : GoodIn wsX6_digest (wsV RX6 281 RX6 yX6_deadEnds wsX6_deadEnds) := goodIn_app (goodIn_of _ (by decide +kernel)) ggX6_digest_X6_deadEnds
set_option maxRecDepth 20000 in
theorem ggX6_digest_X6_depth : GoodIn wsX6_digest wsX6_depth := goodIn_r _ [187, 126, 2, 127, 128, 129, 130, 131, 132, 133, 134, 135, 136, 137, 138, 139, 140, 141, 142, 143, 144, 145, 146, 147, 148, 27, 28, 6, 29, 9, 30, 31, 149, 150, 151, 152, 153, 154, 155, 156, 157, 158, 10, 40, 64, 36, 37, 38, 39, 41, 91, 92, 93, 94, 95, 96, 97, 102, 24, 103, 159, 43, 44, 45, 46, 47, 48, 49, 160, 161, 162, 163, 164, 165, 166, 167, 316, 317, 318, 357, 358, 359, 319, 320, 321, 322, 323, 324, 325, 326, 327, 328, 329, 330, 338, 339, 340, 341, 342, 343, 344, 345, 346, 347, 348, 349, 350, 351, 352] (by decide +kernel) (by decide +kernel)
set_option maxRecDepth 20000 in
theorem gX6_digest_X6_depth : GoodIn wsX6_digest (wsV RX6 284 RX6 yX6_depth wsX6_depth) := goodIn_app (goodIn_of _ (by decide +kernel)) ggX6_digest_X6_depth
set_option maxRecDepth 20000 in
theorem ggX6_digest_X6_cannotMiss : GoodIn wsX6_digest wsX6_cannotMiss := goodIn_r _ [191, 126, 2, 192, 193, 194, 130, 195, 196, 148, 27, 28, 6, 29, 9, 30, 31, 132, 133, 134, 135, 136, 137, 138, 139, 140, 141, 142, 143, 144, 145, 146, 147, 149, 150, 151, 152, 153, 154, 155, 156, 157, 158, 10, 40, 64, 36, 37, 38, 39, 41, 91, 92, 93, 94, 95, 96, 97, 102, 24, 103, 159, 43, 44, 45, 46, 47, 48, 49, 160, 161, 162, 163, 164, 165, 166, 167, 316, 317, 318, 319, 320, 321, 322, 323, 324, 325, 326, 327, 328, 329, 330, 338, 339, 340, 341, 342, 343, 344, 345, 346, 347, 357, 358, 359, 348, 349, 350, 351, 352] (by decide +kernel) (by decide +kernel)
set_option maxRecDepth 20000 in
theorem gX6_digest_X6_cannotMiss : GoodIn wsX6_digest (wsV RX6 287 RX6 yX6_cannotMiss wsX6_cannotMiss) := goodIn_app (goodIn_of _ (by decide +kernel)) ggX6_digest_X6_cannotMiss
set_option maxRecDepth 20000 in
theorem ggX6_digest_X6_bestHint : GoodIn wsX6_digest wsX6_bestHint := goodIn_r _ [200, 126, 2, 201, 202, 203, 130, 204, 143, 132, 133, 134, 135, 136, 137, 138, 139, 140, 141, 142, 144, 145, 146, 147, 148, 27, 28, 6, 29, 9, 30, 31, 149, 150, 151, 152, 153, 154, 155, 156, 157, 158, 10, 40, 64, 36, 37, 38, 39, 41, 91, 92, 93, 94, 95, 96, 97, 102, 24, 103, 159, 43, 44, 45, 46, 47, 48, 49, 160, 161, 162, 163, 164, 165, 166, 167, 205, 33, 34, 35, 42, 316, 317, 318, 319, 320, 321, 322, 323, 324, 325, 326, 327, 328, 329, 330, 357, 358, 359, 338, 339, 340, 341, 342, 343, 344, 345, 346, 347, 348, 349, 350, 351, 352] (by decide +kernel) (by decide +kernel)
set_option maxRecDepth 20000 in
theorem gX6_digest_X6_bestHint : GoodIn wsX6_digest (wsV RX6 290 RX6 yX6_bestHint wsX6_bestHint) := goodIn_app (goodIn_of _ (by decide +kernel)) ggX6_digest_X6_bestHint
set_option maxRecDepth 20000 in
theorem ggX6_digest_X6_endsAt : GoodIn wsX6_digest wsX6_endsAt := goodIn_r _ [209, 2, 210, 211, 212, 213, 214, 215, 216, 217, 6, 218, 9, 30, 10, 40, 11, 113, 12, 20, 21, 8, 18, 22, 219, 220, 221, 45, 222, 49, 223, 224, 225, 47, 48, 226, 227, 228, 229, 230, 231, 232, 94, 233, 97, 234, 235, 96, 236, 237, 238, 239, 240, 241, 242, 243, 244, 245, 246, 247, 248, 249, 250, 251, 252, 253, 254, 255, 256, 257, 258, 259, 260, 261, 13, 14, 262, 263, 264, 265, 266, 267, 268, 269, 270, 271, 272, 273, 274, 275, 115, 114, 116, 117, 276, 277, 278, 279, 36, 37, 38, 39, 41, 42, 43, 44, 46, 71, 72, 73, 74, 280, 281, 282, 283, 67, 65, 64, 284, 285, 286, 287, 288, 289, 290, 291, 102, 24, 103, 292, 293, 294, 295, 296, 297, 298, 299, 300, 301, 302, 303, 26, 27, 28, 29, 31, 91, 92, 93, 95, 87, 88, 89, 90, 304, 305, 306, 307, 86, 85, 23, 25, 308, 309, 310, 311, 312, 313, 314, 315, 316, 317, 318, 319, 320, 321, 322, 323, 324, 325, 326, 327, 328, 329, 330, 331, 332, 333, 334, 335, 336, 337, 338, 339, 340, 341, 342, 343, 344, 345, 346, 347, 348, 349, 350, 351, 352, 353, 354, 355, 356] (by decide +kernel) (by decide +kernel)
set_option maxRecDepth 20000 in
theorem gX6_digest_X6_endsAt : GoodIn wsX6_digest (wsV RX6 293 RX6 yX6_endsAt wsX6_endsAt) := goodIn_app (goodIn_of _ (by decide +kernel)) ggX6_digest_X6_endsAt
theorem dX6_digest_0 : decode cX6_digest 0 = .ok (.ldc2_w 259, 3) := by decide +kernel
theorem dX6_digest_3 : decode cX6_digest 3 = .ok (.lstore_n 1, 1) := by decide +kernel
theorem dX6_digest_4 : decode cX6_digest 4 = .ok (.iconst 0, 1) := by decide +kernel
theorem dX6_digest_5 : decode cX6_digest 5 = .ok (.istore_n 3, 1) := by decide +kernel
theorem dX6_digest_6 : decode cX6_digest 6 = .ok (.iload_n 3, 1) := by decide +kernel
theorem dX6_digest_7 : decode cX6_digest 7 = .ok (.bipush 19, 2) := by decide +kernel
theorem dX6_digest_9 : decode cX6_digest 9 = .ok (.if_icmp .ge 22, 3) := by decide +kernel
theorem dX6_digest_12 : decode cX6_digest 12 = .ok (.lload_n 1, 1) := by decide +kernel
theorem dX6_digest_13 : decode cX6_digest 13 = .ok (.aload_n 0, 1) := by decide +kernel
theorem dX6_digest_14 : decode cX6_digest 14 = .ok (.getfield 12, 3) := by decide +kernel
theorem dX6_digest_17 : decode cX6_digest 17 = .ok (.iload_n 3, 1) := by decide +kernel
theorem dX6_digest_18 : decode cX6_digest 18 = .ok (.invokevirtual 229, 3) := by decide +kernel
theorem dX6_digest_21 : decode cX6_digest 21 = .ok (.invokestatic 261, 3) := by decide +kernel
theorem dX6_digest_24 : decode cX6_digest 24 = .ok (.lstore_n 1, 1) := by decide +kernel
theorem dX6_digest_25 : decode cX6_digest 25 = .ok (.iinc 3 1, 3) := by decide +kernel
theorem dX6_digest_28 : decode cX6_digest 28 = .ok (.goto (-22), 3) := by decide +kernel
theorem dX6_digest_31 : decode cX6_digest 31 = .ok (.aload_n 0, 1) := by decide +kernel
theorem dX6_digest_32 : decode cX6_digest 32 = .ok (.lload_n 1, 1) := by decide +kernel
theorem dX6_digest_33 : decode cX6_digest 33 = .ok (.invokevirtual 265, 3) := by decide +kernel
theorem dX6_digest_36 : decode cX6_digest 36 = .ok (.lstore_n 1, 1) := by decide +kernel
theorem dX6_digest_37 : decode cX6_digest 37 = .ok (.aload_n 0, 1) := by decide +kernel
theorem dX6_digest_38 : decode cX6_digest 38 = .ok (.lload_n 1, 1) := by decide +kernel
theorem dX6_digest_39 : decode cX6_digest 39 = .ok (.invokevirtual 269, 3) := by decide +kernel
theorem dX6_digest_42 : decode cX6_digest 42 = .ok (.lstore_n 1, 1) := by decide +kernel
theorem dX6_digest_43 : decode cX6_digest 43 = .ok (.aload_n 0, 1) := by decide +kernel
theorem dX6_digest_44 : decode cX6_digest 44 = .ok (.lload_n 1, 1) := by decide +kernel
theorem dX6_digest_45 : decode cX6_digest 45 = .ok (.invokevirtual 272, 3) := by decide +kernel
theorem dX6_digest_48 : decode cX6_digest 48 = .ok (.lstore_n 1, 1) := by decide +kernel
theorem dX6_digest_49 : decode cX6_digest 49 = .ok (.lload_n 1, 1) := by decide +kernel
theorem dX6_digest_50 : decode cX6_digest 50 = .ok (.aload_n 0, 1) := by decide +kernel
theorem dX6_digest_51 : decode cX6_digest 51 = .ok (.invokevirtual 275, 3) := by decide +kernel
theorem dX6_digest_54 : decode cX6_digest 54 = .ok (.ifCond .eq 7, 3) := by decide +kernel
theorem dX6_digest_57 : decode cX6_digest 57 = .ok (.iconst 1, 1) := by decide +kernel
theorem dX6_digest_58 : decode cX6_digest 58 = .ok (.goto 4, 3) := by decide +kernel
theorem dX6_digest_61 : decode cX6_digest 61 = .ok (.iconst 0, 1) := by decide +kernel
theorem dX6_digest_62 : decode cX6_digest 62 = .ok (.invokestatic 261, 3) := by decide +kernel
theorem dX6_digest_65 : decode cX6_digest 65 = .ok (.lstore_n 1, 1) := by decide +kernel
theorem dX6_digest_66 : decode cX6_digest 66 = .ok (.lload_n 1, 1) := by decide +kernel
theorem dX6_digest_67 : decode cX6_digest 67 = .ok (.aload_n 0, 1) := by decide +kernel
theorem dX6_digest_68 : decode cX6_digest 68 = .ok (.invokevirtual 278, 3) := by decide +kernel
theorem dX6_digest_71 : decode cX6_digest 71 = .ok (.invokestatic 261, 3) := by decide +kernel
theorem dX6_digest_74 : decode cX6_digest 74 = .ok (.lstore_n 1, 1) := by decide +kernel
theorem dX6_digest_75 : decode cX6_digest 75 = .ok (.lload_n 1, 1) := by decide +kernel
theorem dX6_digest_76 : decode cX6_digest 76 = .ok (.aload_n 0, 1) := by decide +kernel
theorem dX6_digest_77 : decode cX6_digest 77 = .ok (.invokevirtual 281, 3) := by decide +kernel
theorem dX6_digest_80 : decode cX6_digest 80 = .ok (.invokestatic 261, 3) := by decide +kernel
theorem dX6_digest_83 : decode cX6_digest 83 = .ok (.lstore_n 1, 1) := by decide +kernel
theorem dX6_digest_84 : decode cX6_digest 84 = .ok (.lload_n 1, 1) := by decide +kernel
theorem dX6_digest_85 : decode cX6_digest 85 = .ok (.aload_n 0, 1) := by decide +kernel
theorem dX6_digest_86 : decode cX6_digest 86 = .ok (.invokevirtual 284, 3) := by decide +kernel
theorem dX6_digest_89 : decode cX6_digest 89 = .ok (.invokestatic 261, 3) := by decide +kernel
theorem dX6_digest_92 : decode cX6_digest 92 = .ok (.lstore_n 1, 1) := by decide +kernel
theorem dX6_digest_93 : decode cX6_digest 93 = .ok (.lload_n 1, 1) := by decide +kernel
theorem dX6_digest_94 : decode cX6_digest 94 = .ok (.aload_n 0, 1) := by decide +kernel
theorem dX6_digest_95 : decode cX6_digest 95 = .ok (.invokevirtual 287, 3) := by decide +kernel
theorem dX6_digest_98 : decode cX6_digest 98 = .ok (.invokestatic 261, 3) := by decide +kernel
theorem dX6_digest_101 : decode cX6_digest 101 = .ok (.lstore_n 1, 1) := by decide +kernel
theorem dX6_digest_102 : decode cX6_digest 102 = .ok (.lload_n 1, 1) := by decide +kernel
theorem dX6_digest_103 : decode cX6_digest 103 = .ok (.aload_n 0, 1) := by decide +kernel
theorem dX6_digest_104 : decode cX6_digest 104 = .ok (.invokevirtual 290, 3) := by decide +kernel
theorem dX6_digest_107 : decode cX6_digest 107 = .ok (.invokestatic 261, 3) := by decide +kernel
theorem dX6_digest_110 : decode cX6_digest 110 = .ok (.lstore_n 1, 1) := by decide +kernel
theorem dX6_digest_111 : decode cX6_digest 111 = .ok (.lload_n 1, 1) := by decide +kernel
theorem dX6_digest_112 : decode cX6_digest 112 = .ok (.aload_n 0, 1) := by decide +kernel
theorem dX6_digest_113 : decode cX6_digest 113 = .ok (.invokevirtual 293, 3) := by decide +kernel
theorem dX6_digest_116 : decode cX6_digest 116 = .ok (.invokestatic 261, 3) := by decide +kernel
theorem dX6_digest_119 : decode cX6_digest 119 = .ok (.lreturn, 1) := by decide +kernel
set_option maxRecDepth 20000 in
theorem ggX6_mixLocks_X3_tellLock : GoodIn wsX6_mixLocks wsX3_tellLock := goodIn_r _ [7, 8, 9, 10, 11, 12, 13, 14, 15, 16, 17, 18, 19, 20, 6, 21, 22, 23, 24, 25, 26, 27, 28, 29, 30, 31, 32, 33, 34, 35, 36, 37, 38, 39, 40, 48, 49, 50, 51, 52, 53, 54, 55, 56, 57, 58, 59, 60, 61, 62, 63, 64, 65, 66, 67, 68, 69, 70, 71, 72, 73, 74] (by decide +kernel) (by decide +kernel)
set_option maxRecDepth 20000 in
theorem gX6_mixLocks_X3_tellLock : GoodIn wsX6_mixLocks (wsV RX6 209 RX3 yX3_tellLock wsX3_tellLock) := goodIn_app (goodIn_of _ (by decide +kernel)) ggX6_mixLocks_X3_tellLock
set_option maxRecDepth 20000 in
theorem ggX6_mixLocks_X6_mix : GoodIn wsX6_mixLocks wsX6_mix := goodIn_r _ [43, 44] (by decide +kernel) (by decide +kernel)
set_option maxRecDepth 20000 in
theorem gX6_mixLocks_X6_mix : GoodIn wsX6_mixLocks (va_wsS RX6 261 yX6_mix wsX6_mix) := goodIn_app (goodIn_of _ (by decide +kernel)) ggX6_mixLocks_X6_mix
theorem dX6_mixLocks_0 : decode cX6_mixLocks 0 = .ok (.lload_n 1, 1) := by decide +kernel
theorem dX6_mixLocks_1 : decode cX6_mixLocks 1 = .ok (.lstore_n 3, 1) := by decide +kernel
theorem dX6_mixLocks_2 : decode cX6_mixLocks 2 = .ok (.iconst 0, 1) := by decide +kernel
theorem dX6_mixLocks_3 : decode cX6_mixLocks 3 = .ok (.istore 5, 2) := by decide +kernel
theorem dX6_mixLocks_5 : decode cX6_mixLocks 5 = .ok (.iload 5, 2) := by decide +kernel
theorem dX6_mixLocks_7 : decode cX6_mixLocks 7 = .ok (.aload_n 0, 1) := by decide +kernel
theorem dX6_mixLocks_8 : decode cX6_mixLocks 8 = .ok (.getfield 12, 3) := by decide +kernel
theorem dX6_mixLocks_11 : decode cX6_mixLocks 11 = .ok (.getfield 37, 3) := by decide +kernel
theorem dX6_mixLocks_14 : decode cX6_mixLocks 14 = .ok (.if_icmp .ge 41, 3) := by decide +kernel
theorem dX6_mixLocks_17 : decode cX6_mixLocks 17 = .ok (.iconst 0, 1) := by decide +kernel
theorem dX6_mixLocks_18 : decode cX6_mixLocks 18 = .ok (.istore 6, 2) := by decide +kernel
theorem dX6_mixLocks_20 : decode cX6_mixLocks 20 = .ok (.iload 6, 2) := by decide +kernel
theorem dX6_mixLocks_22 : decode cX6_mixLocks 22 = .ok (.bipush 10, 2) := by decide +kernel
theorem dX6_mixLocks_24 : decode cX6_mixLocks 24 = .ok (.if_icmp .ge 25, 3) := by decide +kernel
theorem dX6_mixLocks_27 : decode cX6_mixLocks 27 = .ok (.lload_n 3, 1) := by decide +kernel
theorem dX6_mixLocks_28 : decode cX6_mixLocks 28 = .ok (.aload_n 0, 1) := by decide +kernel
theorem dX6_mixLocks_29 : decode cX6_mixLocks 29 = .ok (.getfield 12, 3) := by decide +kernel
theorem dX6_mixLocks_32 : decode cX6_mixLocks 32 = .ok (.iload 5, 2) := by decide +kernel
theorem dX6_mixLocks_34 : decode cX6_mixLocks 34 = .ok (.iload 6, 2) := by decide +kernel
theorem dX6_mixLocks_36 : decode cX6_mixLocks 36 = .ok (.invokevirtual 209, 3) := by decide +kernel
theorem dX6_mixLocks_39 : decode cX6_mixLocks 39 = .ok (.invokestatic 261, 3) := by decide +kernel
theorem dX6_mixLocks_42 : decode cX6_mixLocks 42 = .ok (.lstore_n 3, 1) := by decide +kernel
theorem dX6_mixLocks_43 : decode cX6_mixLocks 43 = .ok (.iinc 6 1, 3) := by decide +kernel
theorem dX6_mixLocks_46 : decode cX6_mixLocks 46 = .ok (.goto (-26), 3) := by decide +kernel
theorem dX6_mixLocks_49 : decode cX6_mixLocks 49 = .ok (.iinc 5 1, 3) := by decide +kernel
theorem dX6_mixLocks_52 : decode cX6_mixLocks 52 = .ok (.goto (-47), 3) := by decide +kernel
theorem dX6_mixLocks_55 : decode cX6_mixLocks 55 = .ok (.lload_n 3, 1) := by decide +kernel
theorem dX6_mixLocks_56 : decode cX6_mixLocks 56 = .ok (.lreturn, 1) := by decide +kernel
set_option maxRecDepth 20000 in
theorem ggX6_mixThings_X3_tellThing : GoodIn wsX6_mixThings wsX3_tellThing := goodIn_r _ [7, 8, 9, 10, 11, 12, 13, 14, 15, 6, 16, 17, 18, 19, 20, 21, 22, 23, 24, 25, 26, 27, 28, 29, 30, 31, 32, 33, 34, 35, 36, 37, 38, 39, 40, 41, 49, 50, 51, 52, 53, 54, 55, 56, 57, 58, 59, 60, 61, 62, 63, 64, 65, 66, 67, 68, 69, 70, 71, 72, 73, 74, 75] (by decide +kernel) (by decide +kernel)
set_option maxRecDepth 20000 in
theorem gX6_mixThings_X3_tellThing : GoodIn wsX6_mixThings (wsV RX6 214 RX3 yX3_tellThing wsX3_tellThing) := goodIn_app (goodIn_of _ (by decide +kernel)) ggX6_mixThings_X3_tellThing
set_option maxRecDepth 20000 in
theorem ggX6_mixThings_X6_mix : GoodIn wsX6_mixThings wsX6_mix := goodIn_r _ [44, 45] (by decide +kernel) (by decide +kernel)
set_option maxRecDepth 20000 in
theorem gX6_mixThings_X6_mix : GoodIn wsX6_mixThings (va_wsS RX6 261 yX6_mix wsX6_mix) := goodIn_app (goodIn_of _ (by decide +kernel)) ggX6_mixThings_X6_mix
theorem dX6_mixThings_0 : decode cX6_mixThings 0 = .ok (.lload_n 1, 1) := by decide +kernel
theorem dX6_mixThings_1 : decode cX6_mixThings 1 = .ok (.lstore_n 3, 1) := by decide +kernel
theorem dX6_mixThings_2 : decode cX6_mixThings 2 = .ok (.iconst 0, 1) := by decide +kernel
theorem dX6_mixThings_3 : decode cX6_mixThings 3 = .ok (.istore 5, 2) := by decide +kernel
theorem dX6_mixThings_5 : decode cX6_mixThings 5 = .ok (.iload 5, 2) := by decide +kernel
theorem dX6_mixThings_7 : decode cX6_mixThings 7 = .ok (.aload_n 0, 1) := by decide +kernel
theorem dX6_mixThings_8 : decode cX6_mixThings 8 = .ok (.getfield 12, 3) := by decide +kernel
theorem dX6_mixThings_11 : decode cX6_mixThings 11 = .ok (.getfield 71, 3) := by decide +kernel
theorem dX6_mixThings_14 : decode cX6_mixThings 14 = .ok (.if_icmp .ge 41, 3) := by decide +kernel
theorem dX6_mixThings_17 : decode cX6_mixThings 17 = .ok (.iconst 0, 1) := by decide +kernel
theorem dX6_mixThings_18 : decode cX6_mixThings 18 = .ok (.istore 6, 2) := by decide +kernel
theorem dX6_mixThings_20 : decode cX6_mixThings 20 = .ok (.iload 6, 2) := by decide +kernel
theorem dX6_mixThings_22 : decode cX6_mixThings 22 = .ok (.bipush 6, 2) := by decide +kernel
theorem dX6_mixThings_24 : decode cX6_mixThings 24 = .ok (.if_icmp .ge 25, 3) := by decide +kernel
theorem dX6_mixThings_27 : decode cX6_mixThings 27 = .ok (.lload_n 3, 1) := by decide +kernel
theorem dX6_mixThings_28 : decode cX6_mixThings 28 = .ok (.aload_n 0, 1) := by decide +kernel
theorem dX6_mixThings_29 : decode cX6_mixThings 29 = .ok (.getfield 12, 3) := by decide +kernel
theorem dX6_mixThings_32 : decode cX6_mixThings 32 = .ok (.iload 5, 2) := by decide +kernel
theorem dX6_mixThings_34 : decode cX6_mixThings 34 = .ok (.iload 6, 2) := by decide +kernel
theorem dX6_mixThings_36 : decode cX6_mixThings 36 = .ok (.invokevirtual 214, 3) := by decide +kernel
theorem dX6_mixThings_39 : decode cX6_mixThings 39 = .ok (.invokestatic 261, 3) := by decide +kernel
theorem dX6_mixThings_42 : decode cX6_mixThings 42 = .ok (.lstore_n 3, 1) := by decide +kernel
theorem dX6_mixThings_43 : decode cX6_mixThings 43 = .ok (.iinc 6 1, 3) := by decide +kernel
theorem dX6_mixThings_46 : decode cX6_mixThings 46 = .ok (.goto (-26), 3) := by decide +kernel
theorem dX6_mixThings_49 : decode cX6_mixThings 49 = .ok (.iinc 5 1, 3) := by decide +kernel
theorem dX6_mixThings_52 : decode cX6_mixThings 52 = .ok (.goto (-47), 3) := by decide +kernel
theorem dX6_mixThings_55 : decode cX6_mixThings 55 = .ok (.lload_n 3, 1) := by decide +kernel
theorem dX6_mixThings_56 : decode cX6_mixThings 56 = .ok (.lreturn, 1) := by decide +kernel
set_option maxRecDepth 20000 in
theorem ggX6_mixPlayers_X3_tellPlayer : GoodIn wsX6_mixPlayers wsX3_tellPlayer := goodIn_r _ [7, 8, 9, 10, 11, 12, 13, 14, 15, 6, 16, 17, 26, 27, 28, 29, 30, 31, 32, 33, 34, 35, 36, 37, 38, 39, 40, 41] (by decide +kernel) (by decide +kernel)
set_option maxRecDepth 20000 in
theorem gX6_mixPlayers_X3_tellPlayer : GoodIn wsX6_mixPlayers (wsV RX6 224 RX3 yX3_tellPlayer wsX3_tellPlayer) := goodIn_app (goodIn_of _ (by decide +kernel)) ggX6_mixPlayers_X3_tellPlayer
set_option maxRecDepth 20000 in
theorem ggX6_mixPlayers_X6_mix : GoodIn wsX6_mixPlayers wsX6_mix := goodIn_r _ [21, 22] (by decide +kernel) (by decide +kernel)
set_option maxRecDepth 20000 in
theorem gX6_mixPlayers_X6_mix : GoodIn wsX6_mixPlayers (va_wsS RX6 261 yX6_mix wsX6_mix) := goodIn_app (goodIn_of _ (by decide +kernel)) ggX6_mixPlayers_X6_mix
theorem dX6_mixPlayers_0 : decode cX6_mixPlayers 0 = .ok (.lload_n 1, 1) := by decide +kernel
theorem dX6_mixPlayers_1 : decode cX6_mixPlayers 1 = .ok (.lstore_n 3, 1) := by decide +kernel
theorem dX6_mixPlayers_2 : decode cX6_mixPlayers 2 = .ok (.iconst 0, 1) := by decide +kernel
theorem dX6_mixPlayers_3 : decode cX6_mixPlayers 3 = .ok (.istore 5, 2) := by decide +kernel
theorem dX6_mixPlayers_5 : decode cX6_mixPlayers 5 = .ok (.iload 5, 2) := by decide +kernel
theorem dX6_mixPlayers_7 : decode cX6_mixPlayers 7 = .ok (.aload_n 0, 1) := by decide +kernel
theorem dX6_mixPlayers_8 : decode cX6_mixPlayers 8 = .ok (.getfield 12, 3) := by decide +kernel
theorem dX6_mixPlayers_11 : decode cX6_mixPlayers 11 = .ok (.getfield 82, 3) := by decide +kernel
theorem dX6_mixPlayers_14 : decode cX6_mixPlayers 14 = .ok (.if_icmp .ge 40, 3) := by decide +kernel
theorem dX6_mixPlayers_17 : decode cX6_mixPlayers 17 = .ok (.iconst 0, 1) := by decide +kernel
theorem dX6_mixPlayers_18 : decode cX6_mixPlayers 18 = .ok (.istore 6, 2) := by decide +kernel
theorem dX6_mixPlayers_20 : decode cX6_mixPlayers 20 = .ok (.iload 6, 2) := by decide +kernel
theorem dX6_mixPlayers_22 : decode cX6_mixPlayers 22 = .ok (.iconst 4, 1) := by decide +kernel
theorem dX6_mixPlayers_23 : decode cX6_mixPlayers 23 = .ok (.if_icmp .ge 25, 3) := by decide +kernel
theorem dX6_mixPlayers_26 : decode cX6_mixPlayers 26 = .ok (.lload_n 3, 1) := by decide +kernel
theorem dX6_mixPlayers_27 : decode cX6_mixPlayers 27 = .ok (.aload_n 0, 1) := by decide +kernel
theorem dX6_mixPlayers_28 : decode cX6_mixPlayers 28 = .ok (.getfield 12, 3) := by decide +kernel
theorem dX6_mixPlayers_31 : decode cX6_mixPlayers 31 = .ok (.iload 5, 2) := by decide +kernel
theorem dX6_mixPlayers_33 : decode cX6_mixPlayers 33 = .ok (.iload 6, 2) := by decide +kernel
theorem dX6_mixPlayers_35 : decode cX6_mixPlayers 35 = .ok (.invokevirtual 224, 3) := by decide +kernel
theorem dX6_mixPlayers_38 : decode cX6_mixPlayers 38 = .ok (.invokestatic 261, 3) := by decide +kernel
theorem dX6_mixPlayers_41 : decode cX6_mixPlayers 41 = .ok (.lstore_n 3, 1) := by decide +kernel
theorem dX6_mixPlayers_42 : decode cX6_mixPlayers 42 = .ok (.iinc 6 1, 3) := by decide +kernel
theorem dX6_mixPlayers_45 : decode cX6_mixPlayers 45 = .ok (.goto (-25), 3) := by decide +kernel
theorem dX6_mixPlayers_48 : decode cX6_mixPlayers 48 = .ok (.iinc 5 1, 3) := by decide +kernel
theorem dX6_mixPlayers_51 : decode cX6_mixPlayers 51 = .ok (.goto (-46), 3) := by decide +kernel
theorem dX6_mixPlayers_54 : decode cX6_mixPlayers 54 = .ok (.lload_n 3, 1) := by decide +kernel
theorem dX6_mixPlayers_55 : decode cX6_mixPlayers 55 = .ok (.lreturn, 1) := by decide +kernel
theorem dX6_mix_0 : decode cX6_mix 0 = .ok (.lload_n 0, 1) := by decide +kernel
theorem dX6_mix_1 : decode cX6_mix 1 = .ok (.ldc2_w 296, 3) := by decide +kernel
theorem dX6_mix_4 : decode cX6_mix 4 = .ok (.lmul, 1) := by decide +kernel
theorem dX6_mix_5 : decode cX6_mix 5 = .ok (.iload_n 2, 1) := by decide +kernel
theorem dX6_mix_6 : decode cX6_mix 6 = .ok (.i2l, 1) := by decide +kernel
theorem dX6_mix_7 : decode cX6_mix 7 = .ok (.ladd, 1) := by decide +kernel
theorem dX6_mix_8 : decode cX6_mix 8 = .ok (.lreturn, 1) := by decide +kernel
theorem dX6_isWithin_0 : decode cX6_isWithin 0 = .ok (.iload_n 0, 1) := by decide +kernel
theorem dX6_isWithin_1 : decode cX6_isWithin 1 = .ok (.iload_n 1, 1) := by decide +kernel
theorem dX6_isWithin_2 : decode cX6_isWithin 2 = .ok (.if_icmp .lt 12, 3) := by decide +kernel
theorem dX6_isWithin_5 : decode cX6_isWithin 5 = .ok (.iload_n 0, 1) := by decide +kernel
theorem dX6_isWithin_6 : decode cX6_isWithin 6 = .ok (.iload_n 2, 1) := by decide +kernel
theorem dX6_isWithin_7 : decode cX6_isWithin 7 = .ok (.if_icmp .gt 7, 3) := by decide +kernel
theorem dX6_isWithin_10 : decode cX6_isWithin 10 = .ok (.iconst 1, 1) := by decide +kernel
theorem dX6_isWithin_11 : decode cX6_isWithin 11 = .ok (.goto 4, 3) := by decide +kernel
theorem dX6_isWithin_14 : decode cX6_isWithin 14 = .ok (.iconst 0, 1) := by decide +kernel
theorem dX6_isWithin_15 : decode cX6_isWithin 15 = .ok (.ireturn, 1) := by decide +kernel
theorem dX6_isIn_0 : decode cX6_isIn 0 = .ok (.iload_n 1, 1) := by decide +kernel
theorem dX6_isIn_1 : decode cX6_isIn 1 = .ok (.iconst (-1), 1) := by decide +kernel
theorem dX6_isIn_2 : decode cX6_isIn 2 = .ok (.if_icmp .eq 16, 3) := by decide +kernel
theorem dX6_isIn_5 : decode cX6_isIn 5 = .ok (.iload_n 0, 1) := by decide +kernel
theorem dX6_isIn_6 : decode cX6_isIn 6 = .ok (.iload_n 1, 1) := by decide +kernel
theorem dX6_isIn_7 : decode cX6_isIn 7 = .ok (.ishr, 1) := by decide +kernel
theorem dX6_isIn_8 : decode cX6_isIn 8 = .ok (.iconst 1, 1) := by decide +kernel
theorem dX6_isIn_9 : decode cX6_isIn 9 = .ok (.iand, 1) := by decide +kernel
theorem dX6_isIn_10 : decode cX6_isIn 10 = .ok (.iconst 1, 1) := by decide +kernel
theorem dX6_isIn_11 : decode cX6_isIn 11 = .ok (.if_icmp .ne 7, 3) := by decide +kernel
theorem dX6_isIn_14 : decode cX6_isIn 14 = .ok (.iconst 1, 1) := by decide +kernel
theorem dX6_isIn_15 : decode cX6_isIn 15 = .ok (.goto 4, 3) := by decide +kernel
theorem dX6_isIn_18 : decode cX6_isIn 18 = .ok (.iconst 0, 1) := by decide +kernel
theorem dX6_isIn_19 : decode cX6_isIn 19 = .ok (.ireturn, 1) := by decide +kernel
theorem dX6_oneIf_0 : decode cX6_oneIf 0 = .ok (.iload_n 0, 1) := by decide +kernel
theorem dX6_oneIf_1 : decode cX6_oneIf 1 = .ok (.ifCond .eq 7, 3) := by decide +kernel
theorem dX6_oneIf_4 : decode cX6_oneIf 4 = .ok (.iconst 1, 1) := by decide +kernel
theorem dX6_oneIf_5 : decode cX6_oneIf 5 = .ok (.goto 4, 3) := by decide +kernel
theorem dX6_oneIf_8 : decode cX6_oneIf 8 = .ok (.iconst 0, 1) := by decide +kernel
theorem dX6_oneIf_9 : decode cX6_oneIf 9 = .ok (.ireturn, 1) := by decide +kernel
set_option maxRecDepth 20000 in
theorem ggX7_init_Jx4a65c_init_da8c8 : GoodIn wsX7_init wsJx4a65c_init_da8c8 := goodIn_r _ [14, 15, 16, 17, 18, 19, 20, 21, 22, 23, 24, 25, 26, 2, 3, 27, 28, 29] (by decide +kernel) (by decide +kernel)
set_option maxRecDepth 20000 in
theorem gX7_init_Jx4a65c_init_da8c8 : GoodIn wsX7_init (wsJx4a65c_init_da8c8) := ggX7_init_Jx4a65c_init_da8c8
theorem dX7_init_0 : decode cX7_init 0 = .ok (.aload_n 0, 1) := by decide +kernel
theorem dX7_init_1 : decode cX7_init 1 = .ok (.invokespecial 3, 3) := by decide +kernel
theorem dX7_init_4 : decode cX7_init 4 = .ok (.aload_n 0, 1) := by decide +kernel
theorem dX7_init_5 : decode cX7_init 5 = .ok (.new 9, 3) := by decide +kernel
theorem dX7_init_8 : decode cX7_init 8 = .ok (.dup, 1) := by decide +kernel
theorem dX7_init_9 : decode cX7_init 9 = .ok (.invokespecial 11, 3) := by decide +kernel
theorem dX7_init_12 : decode cX7_init 12 = .ok (.putfield 12, 3) := by decide +kernel
theorem dX7_init_15 : decode cX7_init 15 = .ok (.aload_n 0, 1) := by decide +kernel
theorem dX7_init_16 : decode cX7_init 16 = .ok (.new 9, 3) := by decide +kernel
theorem dX7_init_19 : decode cX7_init 19 = .ok (.dup, 1) := by decide +kernel
theorem dX7_init_20 : decode cX7_init 20 = .ok (.invokespecial 11, 3) := by decide +kernel
theorem dX7_init_23 : decode cX7_init 23 = .ok (.putfield 18, 3) := by decide +kernel
theorem dX7_init_26 : decode cX7_init 26 = .ok (.aload_n 0, 1) := by decide +kernel
theorem dX7_init_27 : decode cX7_init 27 = .ok (.new 9, 3) := by decide +kernel
theorem dX7_init_30 : decode cX7_init 30 = .ok (.dup, 1) := by decide +kernel
theorem dX7_init_31 : decode cX7_init 31 = .ok (.invokespecial 11, 3) := by decide +kernel
theorem dX7_init_34 : decode cX7_init 34 = .ok (.putfield 21, 3) := by decide +kernel
theorem dX7_init_37 : decode cX7_init 37 = .ok (.aload_n 0, 1) := by decide +kernel
theorem dX7_init_38 : decode cX7_init 38 = .ok (.iconst (-1), 1) := by decide +kernel
theorem dX7_init_39 : decode cX7_init 39 = .ok (.putfield 24, 3) := by decide +kernel
theorem dX7_init_42 : decode cX7_init 42 = .ok (.aload_n 0, 1) := by decide +kernel
theorem dX7_init_43 : decode cX7_init 43 = .ok (.iconst (-1), 1) := by decide +kernel
theorem dX7_init_44 : decode cX7_init 44 = .ok (.putfield 28, 3) := by decide +kernel
theorem dX7_init_47 : decode cX7_init 47 = .ok (.return_, 1) := by decide +kernel
set_option maxRecDepth 20000 in
theorem ggX7_copy_X7_init : GoodIn wsX7_copy wsX7_init := goodIn_r _ [18, 19, 20, 21, 22, 23, 24, 4, 11, 12, 13, 25, 26, 27, 28, 29, 30, 31, 32, 33, 34, 35, 36, 37, 38, 39, 40, 137, 138, 139, 123, 124, 125, 126, 127, 128, 129, 130, 131, 132, 133, 134, 135, 136] (by decide +kernel) (by decide +kernel)
set_option maxRecDepth 20000 in
theorem gX7_copy_X7_init : GoodIn wsX7_copy (wsX7_init) := ggX7_copy_X7_init
set_option maxRecDepth 20000 in
theorem ggX7_copy_Jx4a65c_iterator_32c93 : GoodIn wsX7_copy wsJx4a65c_iterator_32c93 := goodIn_r _ [44, 45, 46, 47, 48, 49, 50, 51, 52, 20, 21, 53, 54, 55, 56, 140, 141, 142, 143, 137, 138, 139] (by decide +kernel) (by decide +kernel)
set_option maxRecDepth 20000 in
theorem gX7_copy_Jx4a65c_iterator_32c93 : GoodIn wsX7_copy (wsV RX7 32 RJx4a65c yJx4a65c_iterator_32c93 wsJx4a65c_iterator_32c93) := goodIn_app (goodIn_of _ (by decide +kernel)) ggX7_copy_Jx4a65c_iterator_32c93
set_option maxRecDepth 20000 in
theorem ggX7_copy_Jx35411_hasNext_aae02 : GoodIn wsX7_copy wsJx35411_hasNext_aae02 := goodIn_r _ [60, 61, 51, 140, 141, 142, 143, 137, 138, 139] (by decide +kernel) (by decide +kernel)
set_option maxRecDepth 20000 in
theorem gX7_copy_Jx35411_hasNext_aae02_f36Jx35411 : GoodIn wsX7_copy (va_wsF RX7 36 RJx35411 ⟨"java/util/Iterator", "hasNext", "()Z"⟩ yJx35411_hasNext_aae02 wsJx35411_hasNext_aae02) := goodIn_app (goodIn_of _ (by decide +kernel)) ggX7_copy_Jx35411_hasNext_aae02
set_option maxRecDepth 20000 in
theorem ggX7_copy_Jx35411_next_0502b : GoodIn wsX7_copy wsJx35411_next_0502b := goodIn_r _ [65, 61, 51, 66, 53, 67, 68, 69, 47, 70, 54, 55, 56, 140, 141, 142, 143, 137, 138, 139] (by decide +kernel) (by decide +kernel)
set_option maxRecDepth 20000 in
theorem gX7_copy_Jx35411_next_0502b_f42Jx35411 : GoodIn wsX7_copy (va_wsF RX7 42 RJx35411 ⟨"java/util/Iterator", "next", "()Ljava/lang/Object;"⟩ yJx35411_next_0502b wsJx35411_next_0502b) := goodIn_app (goodIn_of _ (by decide +kernel)) ggX7_copy_Jx35411_next_0502b
set_option maxRecDepth 20000 in
theorem ggX7_copy_Jx4a65c_add_9ea2d : GoodIn wsX7_copy wsJx4a65c_add_9ea2d := goodIn_r _ [74, 75, 55, 30, 76, 77, 78, 79, 24, 80, 81, 82, 83, 84, 85, 86, 87, 88, 29, 89, 90, 91, 92, 93, 94, 95, 96, 97, 98, 99, 100, 101, 102, 103, 104, 105, 106, 107, 108, 109, 110, 111, 112, 113, 114, 115, 116, 117, 118, 119, 120, 121, 122, 137, 138, 139] (by decide +kernel) (by decide +kernel)
set_option maxRecDepth 20000 in
theorem gX7_copy_Jx4a65c_add_9ea2d : GoodIn wsX7_copy (wsV RX7 51 RJx4a65c yJx4a65c_add_9ea2d wsJx4a65c_add_9ea2d) := goodIn_app (goodIn_of _ (by decide +kernel)) ggX7_copy_Jx4a65c_add_9ea2d
theorem dX7_copy_0 : decode cX7_copy 0 = .ok (.new 13, 3) := by decide +kernel
theorem dX7_copy_3 : decode cX7_copy 3 = .ok (.dup, 1) := by decide +kernel
theorem dX7_copy_4 : decode cX7_copy 4 = .ok (.invokespecial 31, 3) := by decide +kernel
theorem dX7_copy_7 : decode cX7_copy 7 = .ok (.astore_n 1, 1) := by decide +kernel
theorem dX7_copy_8 : decode cX7_copy 8 = .ok (.aload_n 0, 1) := by decide +kernel
theorem dX7_copy_9 : decode cX7_copy 9 = .ok (.getfield 12, 3) := by decide +kernel
theorem dX7_copy_12 : decode cX7_copy 12 = .ok (.invokevirtual 32, 3) := by decide +kernel
theorem dX7_copy_15 : decode cX7_copy 15 = .ok (.astore_n 2, 1) := by decide +kernel
theorem dX7_copy_16 : decode cX7_copy 16 = .ok (.aload_n 2, 1) := by decide +kernel
theorem dX7_copy_17 : decode cX7_copy 17 = .ok (.invokeinterface 36 1, 5) := by decide +kernel
theorem dX7_copy_22 : decode cX7_copy 22 = .ok (.ifCond .eq 31, 3) := by decide +kernel
theorem dX7_copy_25 : decode cX7_copy 25 = .ok (.aload_n 2, 1) := by decide +kernel
theorem dX7_copy_26 : decode cX7_copy 26 = .ok (.invokeinterface 42 1, 5) := by decide +kernel
theorem dX7_copy_31 : decode cX7_copy 31 = .ok (.checkcast 46, 3) := by decide +kernel
theorem dX7_copy_34 : decode cX7_copy 34 = .ok (.astore_n 3, 1) := by decide +kernel
theorem dX7_copy_35 : decode cX7_copy 35 = .ok (.aload_n 1, 1) := by decide +kernel
theorem dX7_copy_36 : decode cX7_copy 36 = .ok (.getfield 12, 3) := by decide +kernel
theorem dX7_copy_39 : decode cX7_copy 39 = .ok (.aload_n 3, 1) := by decide +kernel
theorem dX7_copy_40 : decode cX7_copy 40 = .ok (.invokevirtual 48, 3) := by decide +kernel
theorem dX7_copy_43 : decode cX7_copy 43 = .ok (.checkcast 46, 3) := by decide +kernel
theorem dX7_copy_46 : decode cX7_copy 46 = .ok (.invokevirtual 51, 3) := by decide +kernel
theorem dX7_copy_49 : decode cX7_copy 49 = .ok (.pop, 1) := by decide +kernel
theorem dX7_copy_50 : decode cX7_copy 50 = .ok (.goto (-34), 3) := by decide +kernel
theorem dX7_copy_53 : decode cX7_copy 53 = .ok (.aload_n 0, 1) := by decide +kernel
theorem dX7_copy_54 : decode cX7_copy 54 = .ok (.getfield 18, 3) := by decide +kernel
theorem dX7_copy_57 : decode cX7_copy 57 = .ok (.invokevirtual 32, 3) := by decide +kernel
theorem dX7_copy_60 : decode cX7_copy 60 = .ok (.astore_n 2, 1) := by decide +kernel
theorem dX7_copy_61 : decode cX7_copy 61 = .ok (.aload_n 2, 1) := by decide +kernel
theorem dX7_copy_62 : decode cX7_copy 62 = .ok (.invokeinterface 36 1, 5) := by decide +kernel
theorem dX7_copy_67 : decode cX7_copy 67 = .ok (.ifCond .eq 31, 3) := by decide +kernel
theorem dX7_copy_70 : decode cX7_copy 70 = .ok (.aload_n 2, 1) := by decide +kernel
theorem dX7_copy_71 : decode cX7_copy 71 = .ok (.invokeinterface 42 1, 5) := by decide +kernel
theorem dX7_copy_76 : decode cX7_copy 76 = .ok (.checkcast 46, 3) := by decide +kernel
theorem dX7_copy_79 : decode cX7_copy 79 = .ok (.astore_n 3, 1) := by decide +kernel
theorem dX7_copy_80 : decode cX7_copy 80 = .ok (.aload_n 1, 1) := by decide +kernel
theorem dX7_copy_81 : decode cX7_copy 81 = .ok (.getfield 18, 3) := by decide +kernel
theorem dX7_copy_84 : decode cX7_copy 84 = .ok (.aload_n 3, 1) := by decide +kernel
theorem dX7_copy_85 : decode cX7_copy 85 = .ok (.invokevirtual 48, 3) := by decide +kernel
theorem dX7_copy_88 : decode cX7_copy 88 = .ok (.checkcast 46, 3) := by decide +kernel
theorem dX7_copy_91 : decode cX7_copy 91 = .ok (.invokevirtual 51, 3) := by decide +kernel
theorem dX7_copy_94 : decode cX7_copy 94 = .ok (.pop, 1) := by decide +kernel
theorem dX7_copy_95 : decode cX7_copy 95 = .ok (.goto (-34), 3) := by decide +kernel
theorem dX7_copy_98 : decode cX7_copy 98 = .ok (.aload_n 0, 1) := by decide +kernel
theorem dX7_copy_99 : decode cX7_copy 99 = .ok (.getfield 21, 3) := by decide +kernel
theorem dX7_copy_102 : decode cX7_copy 102 = .ok (.invokevirtual 32, 3) := by decide +kernel
theorem dX7_copy_105 : decode cX7_copy 105 = .ok (.astore_n 2, 1) := by decide +kernel
theorem dX7_copy_106 : decode cX7_copy 106 = .ok (.aload_n 2, 1) := by decide +kernel
theorem dX7_copy_107 : decode cX7_copy 107 = .ok (.invokeinterface 36 1, 5) := by decide +kernel
theorem dX7_copy_112 : decode cX7_copy 112 = .ok (.ifCond .eq 31, 3) := by decide +kernel
theorem dX7_copy_115 : decode cX7_copy 115 = .ok (.aload_n 2, 1) := by decide +kernel
theorem dX7_copy_116 : decode cX7_copy 116 = .ok (.invokeinterface 42 1, 5) := by decide +kernel
theorem dX7_copy_121 : decode cX7_copy 121 = .ok (.checkcast 46, 3) := by decide +kernel
theorem dX7_copy_124 : decode cX7_copy 124 = .ok (.astore_n 3, 1) := by decide +kernel
theorem dX7_copy_125 : decode cX7_copy 125 = .ok (.aload_n 1, 1) := by decide +kernel
theorem dX7_copy_126 : decode cX7_copy 126 = .ok (.getfield 21, 3) := by decide +kernel
theorem dX7_copy_129 : decode cX7_copy 129 = .ok (.aload_n 3, 1) := by decide +kernel
theorem dX7_copy_130 : decode cX7_copy 130 = .ok (.invokevirtual 48, 3) := by decide +kernel
theorem dX7_copy_133 : decode cX7_copy 133 = .ok (.checkcast 46, 3) := by decide +kernel
theorem dX7_copy_136 : decode cX7_copy 136 = .ok (.invokevirtual 51, 3) := by decide +kernel
theorem dX7_copy_139 : decode cX7_copy 139 = .ok (.pop, 1) := by decide +kernel
theorem dX7_copy_140 : decode cX7_copy 140 = .ok (.goto (-34), 3) := by decide +kernel
theorem dX7_copy_143 : decode cX7_copy 143 = .ok (.aload_n 1, 1) := by decide +kernel
theorem dX7_copy_144 : decode cX7_copy 144 = .ok (.aload_n 0, 1) := by decide +kernel
theorem dX7_copy_145 : decode cX7_copy 145 = .ok (.getfield 24, 3) := by decide +kernel
theorem dX7_copy_148 : decode cX7_copy 148 = .ok (.putfield 24, 3) := by decide +kernel
theorem dX7_copy_151 : decode cX7_copy 151 = .ok (.aload_n 1, 1) := by decide +kernel
theorem dX7_copy_152 : decode cX7_copy 152 = .ok (.aload_n 0, 1) := by decide +kernel
theorem dX7_copy_153 : decode cX7_copy 153 = .ok (.getfield 55, 3) := by decide +kernel
theorem dX7_copy_156 : decode cX7_copy 156 = .ok (.putfield 55, 3) := by decide +kernel
theorem dX7_copy_159 : decode cX7_copy 159 = .ok (.aload_n 1, 1) := by decide +kernel
theorem dX7_copy_160 : decode cX7_copy 160 = .ok (.aload_n 0, 1) := by decide +kernel
theorem dX7_copy_161 : decode cX7_copy 161 = .ok (.getfield 59, 3) := by decide +kernel
theorem dX7_copy_164 : decode cX7_copy 164 = .ok (.putfield 59, 3) := by decide +kernel
theorem dX7_copy_167 : decode cX7_copy 167 = .ok (.aload_n 1, 1) := by decide +kernel
theorem dX7_copy_168 : decode cX7_copy 168 = .ok (.areturn, 1) := by decide +kernel
set_option maxRecDepth 20000 in
theorem ggX7_inState_Jx4a65c_size_8abf5 : GoodIn wsX7_inState wsJx4a65c_size_8abf5 := goodIn_r _ [7, 8, 40, 41, 42] (by decide +kernel) (by decide +kernel)
set_option maxRecDepth 20000 in
theorem gX7_inState_Jx4a65c_size_8abf5 : GoodIn wsX7_inState (wsV RX7 62 RJx4a65c yJx4a65c_size_8abf5 wsJx4a65c_size_8abf5) := goodIn_app (goodIn_of _ (by decide +kernel)) ggX7_inState_Jx4a65c_size_8abf5
set_option maxRecDepth 20000 in
theorem ggX7_inState_Jx4a65c_get_915e3 : GoodIn wsX7_inState wsJx4a65c_get_915e3 := goodIn_r _ [12, 8, 13, 14, 15, 16, 17, 18, 19, 20, 21, 22, 23, 6, 24, 25, 40, 41, 42] (by decide +kernel) (by decide +kernel)
set_option maxRecDepth 20000 in
theorem gX7_inState_Jx4a65c_get_915e3 : GoodIn wsX7_inState (wsV RX7 66 RJx4a65c yJx4a65c_get_915e3 wsJx4a65c_get_915e3) := goodIn_app (goodIn_of _ (by decide +kernel)) ggX7_inState_Jx4a65c_get_915e3
theorem dX7_inState_0 : decode cX7_inState 0 = .ok (.iconst 0, 1) := by decide +kernel
theorem dX7_inState_1 : decode cX7_inState 1 = .ok (.istore_n 2, 1) := by decide +kernel
theorem dX7_inState_2 : decode cX7_inState 2 = .ok (.iconst 0, 1) := by decide +kernel
theorem dX7_inState_3 : decode cX7_inState 3 = .ok (.istore_n 3, 1) := by decide +kernel
theorem dX7_inState_4 : decode cX7_inState 4 = .ok (.iload_n 3, 1) := by decide +kernel
theorem dX7_inState_5 : decode cX7_inState 5 = .ok (.aload_n 0, 1) := by decide +kernel
theorem dX7_inState_6 : decode cX7_inState 6 = .ok (.getfield 18, 3) := by decide +kernel
theorem dX7_inState_9 : decode cX7_inState 9 = .ok (.invokevirtual 62, 3) := by decide +kernel
theorem dX7_inState_12 : decode cX7_inState 12 = .ok (.if_icmp .ge 32, 3) := by decide +kernel
theorem dX7_inState_15 : decode cX7_inState 15 = .ok (.aload_n 0, 1) := by decide +kernel
theorem dX7_inState_16 : decode cX7_inState 16 = .ok (.getfield 18, 3) := by decide +kernel
theorem dX7_inState_19 : decode cX7_inState 19 = .ok (.iload_n 3, 1) := by decide +kernel
theorem dX7_inState_20 : decode cX7_inState 20 = .ok (.invokevirtual 66, 3) := by decide +kernel
theorem dX7_inState_23 : decode cX7_inState 23 = .ok (.checkcast 46, 3) := by decide +kernel
theorem dX7_inState_26 : decode cX7_inState 26 = .ok (.iconst 3, 1) := by decide +kernel
theorem dX7_inState_27 : decode cX7_inState 27 = .ok (.iaload, 1) := by decide +kernel
theorem dX7_inState_28 : decode cX7_inState 28 = .ok (.iload_n 1, 1) := by decide +kernel
theorem dX7_inState_29 : decode cX7_inState 29 = .ok (.if_icmp .ne 9, 3) := by decide +kernel
theorem dX7_inState_32 : decode cX7_inState 32 = .ok (.iload_n 2, 1) := by decide +kernel
theorem dX7_inState_33 : decode cX7_inState 33 = .ok (.iconst 1, 1) := by decide +kernel
theorem dX7_inState_34 : decode cX7_inState 34 = .ok (.iload_n 3, 1) := by decide +kernel
theorem dX7_inState_35 : decode cX7_inState 35 = .ok (.ishl, 1) := by decide +kernel
theorem dX7_inState_36 : decode cX7_inState 36 = .ok (.ior, 1) := by decide +kernel
theorem dX7_inState_37 : decode cX7_inState 37 = .ok (.istore_n 2, 1) := by decide +kernel
theorem dX7_inState_38 : decode cX7_inState 38 = .ok (.iinc 3 1, 3) := by decide +kernel
theorem dX7_inState_41 : decode cX7_inState 41 = .ok (.goto (-37), 3) := by decide +kernel
theorem dX7_inState_44 : decode cX7_inState 44 = .ok (.iload_n 2, 1) := by decide +kernel
theorem dX7_inState_45 : decode cX7_inState 45 = .ok (.ireturn, 1) := by decide +kernel
set_option maxRecDepth 20000 in
theorem ggX7_opened_Jx4a65c_size_8abf5 : GoodIn wsX7_opened wsJx4a65c_size_8abf5 := goodIn_r _ [7, 8, 40, 41, 42] (by decide +kernel) (by decide +kernel)
set_option maxRecDepth 20000 in
theorem gX7_opened_Jx4a65c_size_8abf5 : GoodIn wsX7_opened (wsV RX7 62 RJx4a65c yJx4a65c_size_8abf5 wsJx4a65c_size_8abf5) := goodIn_app (goodIn_of _ (by decide +kernel)) ggX7_opened_Jx4a65c_size_8abf5
set_option maxRecDepth 20000 in
theorem ggX7_opened_Jx4a65c_get_915e3 : GoodIn wsX7_opened wsJx4a65c_get_915e3 := goodIn_r _ [12, 8, 13, 14, 15, 16, 17, 18, 19, 20, 21, 22, 23, 6, 24, 25, 40, 41, 42] (by decide +kernel) (by decide +kernel)
set_option maxRecDepth 20000 in
theorem gX7_opened_Jx4a65c_get_915e3 : GoodIn wsX7_opened (wsV RX7 66 RJx4a65c yJx4a65c_get_915e3 wsJx4a65c_get_915e3) := goodIn_app (goodIn_of _ (by decide +kernel)) ggX7_opened_Jx4a65c_get_915e3
theorem dX7_opened_0 : decode cX7_opened 0 = .ok (.iconst 0, 1) := by decide +kernel
theorem dX7_opened_1 : decode cX7_opened 1 = .ok (.istore_n 1, 1) := by decide +kernel
theorem dX7_opened_2 : decode cX7_opened 2 = .ok (.iconst 0, 1) := by decide +kernel
theorem dX7_opened_3 : decode cX7_opened 3 = .ok (.istore_n 2, 1) := by decide +kernel
theorem dX7_opened_4 : decode cX7_opened 4 = .ok (.iload_n 2, 1) := by decide +kernel
theorem dX7_opened_5 : decode cX7_opened 5 = .ok (.aload_n 0, 1) := by decide +kernel
theorem dX7_opened_6 : decode cX7_opened 6 = .ok (.getfield 12, 3) := by decide +kernel
theorem dX7_opened_9 : decode cX7_opened 9 = .ok (.invokevirtual 62, 3) := by decide +kernel
theorem dX7_opened_12 : decode cX7_opened 12 = .ok (.if_icmp .ge 32, 3) := by decide +kernel
theorem dX7_opened_15 : decode cX7_opened 15 = .ok (.aload_n 0, 1) := by decide +kernel
theorem dX7_opened_16 : decode cX7_opened 16 = .ok (.getfield 12, 3) := by decide +kernel
theorem dX7_opened_19 : decode cX7_opened 19 = .ok (.iload_n 2, 1) := by decide +kernel
theorem dX7_opened_20 : decode cX7_opened 20 = .ok (.invokevirtual 66, 3) := by decide +kernel
theorem dX7_opened_23 : decode cX7_opened 23 = .ok (.checkcast 46, 3) := by decide +kernel
theorem dX7_opened_26 : decode cX7_opened 26 = .ok (.iconst 4, 1) := by decide +kernel
theorem dX7_opened_27 : decode cX7_opened 27 = .ok (.iaload, 1) := by decide +kernel
theorem dX7_opened_28 : decode cX7_opened 28 = .ok (.iconst 1, 1) := by decide +kernel
theorem dX7_opened_29 : decode cX7_opened 29 = .ok (.if_icmp .ne 9, 3) := by decide +kernel
theorem dX7_opened_32 : decode cX7_opened 32 = .ok (.iload_n 1, 1) := by decide +kernel
theorem dX7_opened_33 : decode cX7_opened 33 = .ok (.iconst 1, 1) := by decide +kernel
theorem dX7_opened_34 : decode cX7_opened 34 = .ok (.iload_n 2, 1) := by decide +kernel
theorem dX7_opened_35 : decode cX7_opened 35 = .ok (.ishl, 1) := by decide +kernel
theorem dX7_opened_36 : decode cX7_opened 36 = .ok (.ior, 1) := by decide +kernel
theorem dX7_opened_37 : decode cX7_opened 37 = .ok (.istore_n 1, 1) := by decide +kernel
theorem dX7_opened_38 : decode cX7_opened 38 = .ok (.iinc 2 1, 3) := by decide +kernel
theorem dX7_opened_41 : decode cX7_opened 41 = .ok (.goto (-37), 3) := by decide +kernel
theorem dX7_opened_44 : decode cX7_opened 44 = .ok (.iload_n 1, 1) := by decide +kernel
theorem dX7_opened_45 : decode cX7_opened 45 = .ok (.ireturn, 1) := by decide +kernel
set_option maxRecDepth 20000 in
theorem ggX7_isReady_Jx4a65c_get_915e3 : GoodIn wsX7_isReady wsJx4a65c_get_915e3 := goodIn_r _ [7, 8, 9, 10, 11, 12, 13, 14, 15, 16, 17, 18, 19, 6, 20, 21, 46, 47, 48] (by decide +kernel) (by decide +kernel)
set_option maxRecDepth 20000 in
theorem gX7_isReady_Jx4a65c_get_915e3 : GoodIn wsX7_isReady (wsV RX7 66 RJx4a65c yJx4a65c_get_915e3 wsJx4a65c_get_915e3) := goodIn_app (goodIn_of _ (by decide +kernel)) ggX7_isReady_Jx4a65c_get_915e3
set_option maxRecDepth 20000 in
theorem ggX7_isReady_X7_inState : GoodIn wsX7_isReady wsX7_inState := goodIn_r _ [26, 27, 2, 28, 29, 30, 6, 31, 8, 3, 4, 5, 7, 9, 10, 11, 12, 13, 14, 15, 16, 17, 18, 19, 20, 21, 32, 33, 34, 35, 36, 37, 38, 39, 40, 41, 42, 43, 44, 45, 46, 47, 48] (by decide +kernel) (by decide +kernel)
set_option maxRecDepth 20000 in
theorem gX7_isReady_X7_inState : GoodIn wsX7_isReady (wsV RX7 70 RX7 yX7_inState wsX7_inState) := goodIn_app (goodIn_of _ (by decide +kernel)) ggX7_isReady_X7_inState
theorem dX7_isReady_0 : decode cX7_isReady 0 = .ok (.aload_n 0, 1) := by decide +kernel
theorem dX7_isReady_1 : decode cX7_isReady 1 = .ok (.getfield 12, 3) := by decide +kernel
theorem dX7_isReady_4 : decode cX7_isReady 4 = .ok (.iload_n 1, 1) := by decide +kernel
theorem dX7_isReady_5 : decode cX7_isReady 5 = .ok (.invokevirtual 66, 3) := by decide +kernel
theorem dX7_isReady_8 : decode cX7_isReady 8 = .ok (.checkcast 46, 3) := by decide +kernel
theorem dX7_isReady_11 : decode cX7_isReady 11 = .ok (.astore_n 2, 1) := by decide +kernel
theorem dX7_isReady_12 : decode cX7_isReady 12 = .ok (.aload_n 2, 1) := by decide +kernel
theorem dX7_isReady_13 : decode cX7_isReady 13 = .ok (.iconst 4, 1) := by decide +kernel
theorem dX7_isReady_14 : decode cX7_isReady 14 = .ok (.iaload, 1) := by decide +kernel
theorem dX7_isReady_15 : decode cX7_isReady 15 = .ok (.ifCond .ne 28, 3) := by decide +kernel
theorem dX7_isReady_18 : decode cX7_isReady 18 = .ok (.aload_n 2, 1) := by decide +kernel
theorem dX7_isReady_19 : decode cX7_isReady 19 = .ok (.bipush 8, 2) := by decide +kernel
theorem dX7_isReady_21 : decode cX7_isReady 21 = .ok (.iaload, 1) := by decide +kernel
theorem dX7_isReady_22 : decode cX7_isReady 22 = .ok (.ifCond .ne 21, 3) := by decide +kernel
theorem dX7_isReady_25 : decode cX7_isReady 25 = .ok (.aload_n 2, 1) := by decide +kernel
theorem dX7_isReady_26 : decode cX7_isReady 26 = .ok (.iconst 0, 1) := by decide +kernel
theorem dX7_isReady_27 : decode cX7_isReady 27 = .ok (.iaload, 1) := by decide +kernel
theorem dX7_isReady_28 : decode cX7_isReady 28 = .ok (.aload_n 0, 1) := by decide +kernel
theorem dX7_isReady_29 : decode cX7_isReady 29 = .ok (.iconst 1, 1) := by decide +kernel
theorem dX7_isReady_30 : decode cX7_isReady 30 = .ok (.invokevirtual 70, 3) := by decide +kernel
theorem dX7_isReady_33 : decode cX7_isReady 33 = .ok (.iconst (-1), 1) := by decide +kernel
theorem dX7_isReady_34 : decode cX7_isReady 34 = .ok (.ixor, 1) := by decide +kernel
theorem dX7_isReady_35 : decode cX7_isReady 35 = .ok (.iand, 1) := by decide +kernel
theorem dX7_isReady_36 : decode cX7_isReady 36 = .ok (.ifCond .ne 7, 3) := by decide +kernel
theorem dX7_isReady_39 : decode cX7_isReady 39 = .ok (.iconst 1, 1) := by decide +kernel
theorem dX7_isReady_40 : decode cX7_isReady 40 = .ok (.goto 4, 3) := by decide +kernel
theorem dX7_isReady_43 : decode cX7_isReady 43 = .ok (.iconst 0, 1) := by decide +kernel
theorem dX7_isReady_44 : decode cX7_isReady 44 = .ok (.ireturn, 1) := by decide +kernel
set_option maxRecDepth 20000 in
theorem ggX7_ready_Jx4a65c_size_8abf5 : GoodIn wsX7_ready wsJx4a65c_size_8abf5 := goodIn_r _ [6, 7, 50, 51, 52] (by decide +kernel) (by decide +kernel)
set_option maxRecDepth 20000 in
theorem gX7_ready_Jx4a65c_size_8abf5 : GoodIn wsX7_ready (wsV RX7 62 RJx4a65c yJx4a65c_size_8abf5 wsJx4a65c_size_8abf5) := goodIn_app (goodIn_of _ (by decide +kernel)) ggX7_ready_Jx4a65c_size_8abf5
set_option maxRecDepth 20000 in
theorem ggX7_ready_X7_isReady : GoodIn wsX7_ready wsX7_isReady := goodIn_r _ [12, 1, 13, 14, 15, 16, 5, 17, 7, 18, 19, 20, 21, 22, 23, 24, 25, 26, 27, 28, 29, 30, 31, 32, 33, 11, 34, 35, 2, 3, 4, 6, 36, 37, 38, 39, 40, 41, 42, 43, 44, 45, 46, 47, 48, 49, 50, 51, 52] (by decide +kernel) (by decide +kernel)
set_option maxRecDepth 20000 in
theorem gX7_ready_X7_isReady : GoodIn wsX7_ready (wsV RX7 74 RX7 yX7_isReady wsX7_isReady) := goodIn_app (goodIn_of _ (by decide +kernel)) ggX7_ready_X7_isReady
theorem dX7_ready_0 : decode cX7_ready 0 = .ok (.iconst 0, 1) := by decide +kernel
theorem dX7_ready_1 : decode cX7_ready 1 = .ok (.istore_n 1, 1) := by decide +kernel
theorem dX7_ready_2 : decode cX7_ready 2 = .ok (.iconst 0, 1) := by decide +kernel
theorem dX7_ready_3 : decode cX7_ready 3 = .ok (.istore_n 2, 1) := by decide +kernel
theorem dX7_ready_4 : decode cX7_ready 4 = .ok (.iload_n 2, 1) := by decide +kernel
theorem dX7_ready_5 : decode cX7_ready 5 = .ok (.aload_n 0, 1) := by decide +kernel
theorem dX7_ready_6 : decode cX7_ready 6 = .ok (.getfield 12, 3) := by decide +kernel
theorem dX7_ready_9 : decode cX7_ready 9 = .ok (.invokevirtual 62, 3) := by decide +kernel
theorem dX7_ready_12 : decode cX7_ready 12 = .ok (.if_icmp .ge 23, 3) := by decide +kernel
theorem dX7_ready_15 : decode cX7_ready 15 = .ok (.aload_n 0, 1) := by decide +kernel
theorem dX7_ready_16 : decode cX7_ready 16 = .ok (.iload_n 2, 1) := by decide +kernel
theorem dX7_ready_17 : decode cX7_ready 17 = .ok (.invokevirtual 74, 3) := by decide +kernel
theorem dX7_ready_20 : decode cX7_ready 20 = .ok (.ifCond .eq 9, 3) := by decide +kernel
theorem dX7_ready_23 : decode cX7_ready 23 = .ok (.iload_n 1, 1) := by decide +kernel
theorem dX7_ready_24 : decode cX7_ready 24 = .ok (.iconst 1, 1) := by decide +kernel
theorem dX7_ready_25 : decode cX7_ready 25 = .ok (.iload_n 2, 1) := by decide +kernel
theorem dX7_ready_26 : decode cX7_ready 26 = .ok (.ishl, 1) := by decide +kernel
theorem dX7_ready_27 : decode cX7_ready 27 = .ok (.ior, 1) := by decide +kernel
theorem dX7_ready_28 : decode cX7_ready 28 = .ok (.istore_n 1, 1) := by decide +kernel
theorem dX7_ready_29 : decode cX7_ready 29 = .ok (.iinc 2 1, 3) := by decide +kernel
theorem dX7_ready_32 : decode cX7_ready 32 = .ok (.goto (-28), 3) := by decide +kernel
theorem dX7_ready_35 : decode cX7_ready 35 = .ok (.iload_n 1, 1) := by decide +kernel
theorem dX7_ready_36 : decode cX7_ready 36 = .ok (.ireturn, 1) := by decide +kernel
set_option maxRecDepth 20000 in
theorem ggX7_isReached_Jx4a65c_get_915e3 : GoodIn wsX7_isReached wsJx4a65c_get_915e3 := goodIn_r _ [8, 9, 10, 11, 12, 13, 14, 15, 16, 17, 18, 19, 20, 7, 21, 22, 37, 38, 39] (by decide +kernel) (by decide +kernel)
set_option maxRecDepth 20000 in
theorem gX7_isReached_Jx4a65c_get_915e3 : GoodIn wsX7_isReached (wsV RX7 66 RJx4a65c yJx4a65c_get_915e3 wsJx4a65c_get_915e3) := goodIn_app (goodIn_of _ (by decide +kernel)) ggX7_isReached_Jx4a65c_get_915e3
theorem dX7_isReached_0 : decode cX7_isReached 0 = .ok (.aload_n 0, 1) := by decide +kernel
theorem dX7_isReached_1 : decode cX7_isReached 1 = .ok (.getfield 18, 3) := by decide +kernel
theorem dX7_isReached_4 : decode cX7_isReached 4 = .ok (.iload_n 1, 1) := by decide +kernel
theorem dX7_isReached_5 : decode cX7_isReached 5 = .ok (.invokevirtual 66, 3) := by decide +kernel
theorem dX7_isReached_8 : decode cX7_isReached 8 = .ok (.checkcast 46, 3) := by decide +kernel
theorem dX7_isReached_11 : decode cX7_isReached 11 = .ok (.astore_n 2, 1) := by decide +kernel
theorem dX7_isReached_12 : decode cX7_isReached 12 = .ok (.aload_n 2, 1) := by decide +kernel
theorem dX7_isReached_13 : decode cX7_isReached 13 = .ok (.iconst 3, 1) := by decide +kernel
theorem dX7_isReached_14 : decode cX7_isReached 14 = .ok (.iaload, 1) := by decide +kernel
theorem dX7_isReached_15 : decode cX7_isReached 15 = .ok (.ifCond .ne 33, 3) := by decide +kernel
theorem dX7_isReached_18 : decode cX7_isReached 18 = .ok (.aload_n 2, 1) := by decide +kernel
theorem dX7_isReached_19 : decode cX7_isReached 19 = .ok (.iconst 0, 1) := by decide +kernel
theorem dX7_isReached_20 : decode cX7_isReached 20 = .ok (.iaload, 1) := by decide +kernel
theorem dX7_isReached_21 : decode cX7_isReached 21 = .ok (.iconst (-1), 1) := by decide +kernel
theorem dX7_isReached_22 : decode cX7_isReached 22 = .ok (.if_icmp .eq 22, 3) := by decide +kernel
theorem dX7_isReached_25 : decode cX7_isReached 25 = .ok (.aload_n 0, 1) := by decide +kernel
theorem dX7_isReached_26 : decode cX7_isReached 26 = .ok (.getfield 12, 3) := by decide +kernel
theorem dX7_isReached_29 : decode cX7_isReached 29 = .ok (.aload_n 2, 1) := by decide +kernel
theorem dX7_isReached_30 : decode cX7_isReached 30 = .ok (.iconst 0, 1) := by decide +kernel
theorem dX7_isReached_31 : decode cX7_isReached 31 = .ok (.iaload, 1) := by decide +kernel
theorem dX7_isReached_32 : decode cX7_isReached 32 = .ok (.invokevirtual 66, 3) := by decide +kernel
theorem dX7_isReached_35 : decode cX7_isReached 35 = .ok (.checkcast 46, 3) := by decide +kernel
theorem dX7_isReached_38 : decode cX7_isReached 38 = .ok (.iconst 4, 1) := by decide +kernel
theorem dX7_isReached_39 : decode cX7_isReached 39 = .ok (.iaload, 1) := by decide +kernel
theorem dX7_isReached_40 : decode cX7_isReached 40 = .ok (.iconst 1, 1) := by decide +kernel
theorem dX7_isReached_41 : decode cX7_isReached 41 = .ok (.if_icmp .ne 7, 3) := by decide +kernel
theorem dX7_isReached_44 : decode cX7_isReached 44 = .ok (.iconst 1, 1) := by decide +kernel
theorem dX7_isReached_45 : decode cX7_isReached 45 = .ok (.goto 4, 3) := by decide +kernel
theorem dX7_isReached_48 : decode cX7_isReached 48 = .ok (.iconst 0, 1) := by decide +kernel
theorem dX7_isReached_49 : decode cX7_isReached 49 = .ok (.ireturn, 1) := by decide +kernel
set_option maxRecDepth 20000 in
theorem ggX7_isOut_Jx4a65c_get_915e3 : GoodIn wsX7_isOut wsJx4a65c_get_915e3 := goodIn_r _ [8, 9, 10, 11, 12, 13, 14, 15, 16, 17, 18, 19, 20, 7, 21, 22, 37, 38, 39] (by decide +kernel) (by decide +kernel)
set_option maxRecDepth 20000 in
theorem gX7_isOut_Jx4a65c_get_915e3 : GoodIn wsX7_isOut (wsV RX7 66 RJx4a65c yJx4a65c_get_915e3 wsJx4a65c_get_915e3) := goodIn_app (goodIn_of _ (by decide +kernel)) ggX7_isOut_Jx4a65c_get_915e3
theorem dX7_isOut_0 : decode cX7_isOut 0 = .ok (.aload_n 0, 1) := by decide +kernel
theorem dX7_isOut_1 : decode cX7_isOut 1 = .ok (.getfield 24, 3) := by decide +kernel
theorem dX7_isOut_4 : decode cX7_isOut 4 = .ok (.iconst (-1), 1) := by decide +kernel
theorem dX7_isOut_5 : decode cX7_isOut 5 = .ok (.if_icmp .eq 27, 3) := by decide +kernel
theorem dX7_isOut_8 : decode cX7_isOut 8 = .ok (.aload_n 0, 1) := by decide +kernel
theorem dX7_isOut_9 : decode cX7_isOut 9 = .ok (.getfield 12, 3) := by decide +kernel
theorem dX7_isOut_12 : decode cX7_isOut 12 = .ok (.aload_n 0, 1) := by decide +kernel
theorem dX7_isOut_13 : decode cX7_isOut 13 = .ok (.getfield 24, 3) := by decide +kernel
theorem dX7_isOut_16 : decode cX7_isOut 16 = .ok (.invokevirtual 66, 3) := by decide +kernel
theorem dX7_isOut_19 : decode cX7_isOut 19 = .ok (.checkcast 46, 3) := by decide +kernel
theorem dX7_isOut_22 : decode cX7_isOut 22 = .ok (.iconst 4, 1) := by decide +kernel
theorem dX7_isOut_23 : decode cX7_isOut 23 = .ok (.iaload, 1) := by decide +kernel
theorem dX7_isOut_24 : decode cX7_isOut 24 = .ok (.iconst 1, 1) := by decide +kernel
theorem dX7_isOut_25 : decode cX7_isOut 25 = .ok (.if_icmp .ne 7, 3) := by decide +kernel
theorem dX7_isOut_28 : decode cX7_isOut 28 = .ok (.iconst 1, 1) := by decide +kernel
theorem dX7_isOut_29 : decode cX7_isOut 29 = .ok (.goto 4, 3) := by decide +kernel
theorem dX7_isOut_32 : decode cX7_isOut 32 = .ok (.iconst 0, 1) := by decide +kernel
theorem dX7_isOut_33 : decode cX7_isOut 33 = .ok (.ireturn, 1) := by decide +kernel
set_option maxRecDepth 20000 in
theorem ggX7_open_Jx4a65c_get_915e3 : GoodIn wsX7_open wsJx4a65c_get_915e3 := goodIn_r _ [8, 9, 10, 11, 12, 13, 14, 15, 16, 17, 18, 19, 20, 7, 21, 22, 41, 42, 43] (by decide +kernel) (by decide +kernel)
set_option maxRecDepth 20000 in
theorem gX7_open_Jx4a65c_get_915e3 : GoodIn wsX7_open (wsV RX7 66 RJx4a65c yJx4a65c_get_915e3 wsJx4a65c_get_915e3) := goodIn_app (goodIn_of _ (by decide +kernel)) ggX7_open_Jx4a65c_get_915e3
set_option maxRecDepth 20000 in
theorem ggX7_open_Jx4a65c_size_8abf5 : GoodIn wsX7_open wsJx4a65c_size_8abf5 := goodIn_r _ [26, 9, 41, 42, 43] (by decide +kernel) (by decide +kernel)
set_option maxRecDepth 20000 in
theorem gX7_open_Jx4a65c_size_8abf5 : GoodIn wsX7_open (wsV RX7 62 RJx4a65c yJx4a65c_size_8abf5 wsJx4a65c_size_8abf5) := goodIn_app (goodIn_of _ (by decide +kernel)) ggX7_open_Jx4a65c_size_8abf5
theorem dX7_open_0 : decode cX7_open 0 = .ok (.aload_n 0, 1) := by decide +kernel
theorem dX7_open_1 : decode cX7_open 1 = .ok (.getfield 12, 3) := by decide +kernel
theorem dX7_open_4 : decode cX7_open 4 = .ok (.iload_n 1, 1) := by decide +kernel
theorem dX7_open_5 : decode cX7_open 5 = .ok (.invokevirtual 66, 3) := by decide +kernel
theorem dX7_open_8 : decode cX7_open 8 = .ok (.checkcast 46, 3) := by decide +kernel
theorem dX7_open_11 : decode cX7_open 11 = .ok (.astore_n 2, 1) := by decide +kernel
theorem dX7_open_12 : decode cX7_open 12 = .ok (.aload_n 2, 1) := by decide +kernel
theorem dX7_open_13 : decode cX7_open 13 = .ok (.iconst 4, 1) := by decide +kernel
theorem dX7_open_14 : decode cX7_open 14 = .ok (.iconst 1, 1) := by decide +kernel
theorem dX7_open_15 : decode cX7_open 15 = .ok (.iastore, 1) := by decide +kernel
theorem dX7_open_16 : decode cX7_open 16 = .ok (.aload_n 2, 1) := by decide +kernel
theorem dX7_open_17 : decode cX7_open 17 = .ok (.bipush 7, 2) := by decide +kernel
theorem dX7_open_19 : decode cX7_open 19 = .ok (.dup2, 1) := by decide +kernel
theorem dX7_open_20 : decode cX7_open 20 = .ok (.iaload, 1) := by decide +kernel
theorem dX7_open_21 : decode cX7_open 21 = .ok (.iconst 1, 1) := by decide +kernel
theorem dX7_open_22 : decode cX7_open 22 = .ok (.iadd, 1) := by decide +kernel
theorem dX7_open_23 : decode cX7_open 23 = .ok (.iastore, 1) := by decide +kernel
theorem dX7_open_24 : decode cX7_open 24 = .ok (.aload_n 2, 1) := by decide +kernel
theorem dX7_open_25 : decode cX7_open 25 = .ok (.bipush 7, 2) := by decide +kernel
theorem dX7_open_27 : decode cX7_open 27 = .ok (.iaload, 1) := by decide +kernel
theorem dX7_open_28 : decode cX7_open 28 = .ok (.iconst 3, 1) := by decide +kernel
theorem dX7_open_29 : decode cX7_open 29 = .ok (.if_icmp .ne 8, 3) := by decide +kernel
theorem dX7_open_32 : decode cX7_open 32 = .ok (.aload_n 2, 1) := by decide +kernel
theorem dX7_open_33 : decode cX7_open 33 = .ok (.bipush 8, 2) := by decide +kernel
theorem dX7_open_35 : decode cX7_open 35 = .ok (.iconst 1, 1) := by decide +kernel
theorem dX7_open_36 : decode cX7_open 36 = .ok (.iastore, 1) := by decide +kernel
theorem dX7_open_37 : decode cX7_open 37 = .ok (.iconst 0, 1) := by decide +kernel
theorem dX7_open_38 : decode cX7_open 38 = .ok (.istore_n 3, 1) := by decide +kernel
theorem dX7_open_39 : decode cX7_open 39 = .ok (.iload_n 3, 1) := by decide +kernel
theorem dX7_open_40 : decode cX7_open 40 = .ok (.aload_n 0, 1) := by decide +kernel
theorem dX7_open_41 : decode cX7_open 41 = .ok (.getfield 18, 3) := by decide +kernel
theorem dX7_open_44 : decode cX7_open 44 = .ok (.invokevirtual 62, 3) := by decide +kernel
theorem dX7_open_47 : decode cX7_open 47 = .ok (.if_icmp .ge 34, 3) := by decide +kernel
theorem dX7_open_50 : decode cX7_open 50 = .ok (.aload_n 2, 1) := by decide +kernel
theorem dX7_open_51 : decode cX7_open 51 = .ok (.iconst 1, 1) := by decide +kernel
theorem dX7_open_52 : decode cX7_open 52 = .ok (.iaload, 1) := by decide +kernel
theorem dX7_open_53 : decode cX7_open 53 = .ok (.iload_n 3, 1) := by decide +kernel
theorem dX7_open_54 : decode cX7_open 54 = .ok (.ishr, 1) := by decide +kernel
theorem dX7_open_55 : decode cX7_open 55 = .ok (.iconst 1, 1) := by decide +kernel
theorem dX7_open_56 : decode cX7_open 56 = .ok (.iand, 1) := by decide +kernel
theorem dX7_open_57 : decode cX7_open 57 = .ok (.iconst 1, 1) := by decide +kernel
theorem dX7_open_58 : decode cX7_open 58 = .ok (.if_icmp .ne 17, 3) := by decide +kernel
theorem dX7_open_61 : decode cX7_open 61 = .ok (.aload_n 0, 1) := by decide +kernel
theorem dX7_open_62 : decode cX7_open 62 = .ok (.getfield 18, 3) := by decide +kernel
theorem dX7_open_65 : decode cX7_open 65 = .ok (.iload_n 3, 1) := by decide +kernel
theorem dX7_open_66 : decode cX7_open 66 = .ok (.invokevirtual 66, 3) := by decide +kernel
theorem dX7_open_69 : decode cX7_open 69 = .ok (.checkcast 46, 3) := by decide +kernel
theorem dX7_open_72 : decode cX7_open 72 = .ok (.iconst 3, 1) := by decide +kernel
theorem dX7_open_73 : decode cX7_open 73 = .ok (.iconst 2, 1) := by decide +kernel
theorem dX7_open_74 : decode cX7_open 74 = .ok (.iastore, 1) := by decide +kernel
theorem dX7_open_75 : decode cX7_open 75 = .ok (.iinc 3 1, 3) := by decide +kernel
theorem dX7_open_78 : decode cX7_open 78 = .ok (.goto (-39), 3) := by decide +kernel
theorem dX7_open_81 : decode cX7_open 81 = .ok (.return_, 1) := by decide +kernel
set_option maxRecDepth 20000 in
theorem ggX7_end_Jx4a65c_clear_da8c8 : GoodIn wsX7_end wsJx4a65c_clear_da8c8 := goodIn_r _ [17, 18, 19, 20, 21, 36, 37, 38] (by decide +kernel) (by decide +kernel)
set_option maxRecDepth 20000 in
theorem gX7_end_Jx4a65c_clear_da8c8 : GoodIn wsX7_end (wsV RX7 78 RJx4a65c yJx4a65c_clear_da8c8 wsJx4a65c_clear_da8c8) := goodIn_app (goodIn_of _ (by decide +kernel)) ggX7_end_Jx4a65c_clear_da8c8
theorem dX7_end_0 : decode cX7_end 0 = .ok (.aload_n 0, 1) := by decide +kernel
theorem dX7_end_1 : decode cX7_end 1 = .ok (.iconst 0, 1) := by decide +kernel
theorem dX7_end_2 : decode cX7_end 2 = .ok (.putfield 55, 3) := by decide +kernel
theorem dX7_end_5 : decode cX7_end 5 = .ok (.aload_n 0, 1) := by decide +kernel
theorem dX7_end_6 : decode cX7_end 6 = .ok (.getfield 21, 3) := by decide +kernel
theorem dX7_end_9 : decode cX7_end 9 = .ok (.invokevirtual 78, 3) := by decide +kernel
theorem dX7_end_12 : decode cX7_end 12 = .ok (.iload_n 1, 1) := by decide +kernel
theorem dX7_end_13 : decode cX7_end 13 = .ok (.ifCond .ne 14, 3) := by decide +kernel
theorem dX7_end_16 : decode cX7_end 16 = .ok (.aload_n 0, 1) := by decide +kernel
theorem dX7_end_17 : decode cX7_end 17 = .ok (.dup, 1) := by decide +kernel
theorem dX7_end_18 : decode cX7_end 18 = .ok (.getfield 81, 3) := by decide +kernel
theorem dX7_end_21 : decode cX7_end 21 = .ok (.iconst 1, 1) := by decide +kernel
theorem dX7_end_22 : decode cX7_end 22 = .ok (.iadd, 1) := by decide +kernel
theorem dX7_end_23 : decode cX7_end 23 = .ok (.putfield 81, 3) := by decide +kernel
theorem dX7_end_26 : decode cX7_end 26 = .ok (.return_, 1) := by decide +kernel
theorem dX7_end_27 : decode cX7_end 27 = .ok (.aload_n 0, 1) := by decide +kernel
theorem dX7_end_28 : decode cX7_end 28 = .ok (.getfield 59, 3) := by decide +kernel
theorem dX7_end_31 : decode cX7_end 31 = .ok (.iconst 2, 1) := by decide +kernel
theorem dX7_end_32 : decode cX7_end 32 = .ok (.aload_n 0, 1) := by decide +kernel
theorem dX7_end_33 : decode cX7_end 33 = .ok (.getfield 84, 3) := by decide +kernel
theorem dX7_end_36 : decode cX7_end 36 = .ok (.imul, 1) := by decide +kernel
theorem dX7_end_37 : decode cX7_end 37 = .ok (.iadd, 1) := by decide +kernel
theorem dX7_end_38 : decode cX7_end 38 = .ok (.istore_n 2, 1) := by decide +kernel
theorem dX7_end_39 : decode cX7_end 39 = .ok (.aload_n 0, 1) := by decide +kernel
theorem dX7_end_40 : decode cX7_end 40 = .ok (.dup, 1) := by decide +kernel
theorem dX7_end_41 : decode cX7_end 41 = .ok (.getfield 87, 3) := by decide +kernel
theorem dX7_end_44 : decode cX7_end 44 = .ok (.iconst 1, 1) := by decide +kernel
theorem dX7_end_45 : decode cX7_end 45 = .ok (.iadd, 1) := by decide +kernel
theorem dX7_end_46 : decode cX7_end 46 = .ok (.putfield 87, 3) := by decide +kernel
theorem dX7_end_49 : decode cX7_end 49 = .ok (.aload_n 0, 1) := by decide +kernel
theorem dX7_end_50 : decode cX7_end 50 = .ok (.dup, 1) := by decide +kernel
theorem dX7_end_51 : decode cX7_end 51 = .ok (.getfield 90, 3) := by decide +kernel
theorem dX7_end_54 : decode cX7_end 54 = .ok (.iload_n 2, 1) := by decide +kernel
theorem dX7_end_55 : decode cX7_end 55 = .ok (.iadd, 1) := by decide +kernel
theorem dX7_end_56 : decode cX7_end 56 = .ok (.putfield 90, 3) := by decide +kernel
theorem dX7_end_59 : decode cX7_end 59 = .ok (.aload_n 0, 1) := by decide +kernel
theorem dX7_end_60 : decode cX7_end 60 = .ok (.aload_n 0, 1) := by decide +kernel
theorem dX7_end_61 : decode cX7_end 61 = .ok (.getfield 28, 3) := by decide +kernel
theorem dX7_end_64 : decode cX7_end 64 = .ok (.iconst (-1), 1) := by decide +kernel
theorem dX7_end_65 : decode cX7_end 65 = .ok (.if_icmp .ne 7, 3) := by decide +kernel
theorem dX7_end_68 : decode cX7_end 68 = .ok (.iload_n 2, 1) := by decide +kernel
theorem dX7_end_69 : decode cX7_end 69 = .ok (.goto 11, 3) := by decide +kernel
theorem dX7_end_72 : decode cX7_end 72 = .ok (.aload_n 0, 1) := by decide +kernel
theorem dX7_end_73 : decode cX7_end 73 = .ok (.getfield 28, 3) := by decide +kernel
theorem dX7_end_76 : decode cX7_end 76 = .ok (.iload_n 2, 1) := by decide +kernel
theorem dX7_end_77 : decode cX7_end 77 = .ok (.invokestatic 93, 3) := by decide +kernel
theorem dX7_end_80 : decode cX7_end 80 = .ok (.putfield 28, 3) := by decide +kernel
theorem dX7_end_83 : decode cX7_end 83 = .ok (.return_, 1) := by decide +kernel
set_option maxRecDepth 20000 in
theorem ggX7_pass_Jx4a65c_iterator_32c93 : GoodIn wsX7_pass wsJx4a65c_iterator_32c93 := goodIn_r _ [12, 13, 14, 15, 16, 17, 18, 19, 20, 21, 22, 23, 24, 25, 26, 122, 123, 124, 125, 126, 127, 128] (by decide +kernel) (by decide +kernel)
set_option maxRecDepth 20000 in
theorem gX7_pass_Jx4a65c_iterator_32c93 : GoodIn wsX7_pass (wsV RX7 32 RJx4a65c yJx4a65c_iterator_32c93 wsJx4a65c_iterator_32c93) := goodIn_app (goodIn_of _ (by decide +kernel)) ggX7_pass_Jx4a65c_iterator_32c93
set_option maxRecDepth 20000 in
theorem ggX7_pass_Jx35411_hasNext_aae02 : GoodIn wsX7_pass wsJx35411_hasNext_aae02 := goodIn_r _ [30, 31, 19, 122, 123, 124, 125, 126, 127, 128] (by decide +kernel) (by decide +kernel)
set_option maxRecDepth 20000 in
theorem gX7_pass_Jx35411_hasNext_aae02_f36Jx35411 : GoodIn wsX7_pass (va_wsF RX7 36 RJx35411 ⟨"java/util/Iterator", "hasNext", "()Z"⟩ yJx35411_hasNext_aae02 wsJx35411_hasNext_aae02) := goodIn_app (goodIn_of _ (by decide +kernel)) ggX7_pass_Jx35411_hasNext_aae02
set_option maxRecDepth 20000 in
theorem ggX7_pass_Jx35411_next_0502b : GoodIn wsX7_pass wsJx35411_next_0502b := goodIn_r _ [35, 31, 19, 36, 23, 37, 38, 39, 15, 40, 24, 25, 26, 122, 123, 124, 125, 126, 127, 128] (by decide +kernel) (by decide +kernel)
set_option maxRecDepth 20000 in
theorem gX7_pass_Jx35411_next_0502b_f42Jx35411 : GoodIn wsX7_pass (va_wsF RX7 42 RJx35411 ⟨"java/util/Iterator", "next", "()Ljava/lang/Object;"⟩ yJx35411_next_0502b wsJx35411_next_0502b) := goodIn_app (goodIn_of _ (by decide +kernel)) ggX7_pass_Jx35411_next_0502b
set_option maxRecDepth 20000 in
theorem ggX7_pass_Jx4a65c_size_8abf5 : GoodIn wsX7_pass wsJx4a65c_size_8abf5 := goodIn_r _ [44, 45, 126, 127, 128] (by decide +kernel) (by decide +kernel)
set_option maxRecDepth 20000 in
theorem gX7_pass_Jx4a65c_size_8abf5 : GoodIn wsX7_pass (wsV RX7 62 RJx4a65c yJx4a65c_size_8abf5 wsJx4a65c_size_8abf5) := goodIn_app (goodIn_of _ (by decide +kernel)) ggX7_pass_Jx4a65c_size_8abf5
set_option maxRecDepth 20000 in
theorem ggX7_pass_Jx4a65c_get_915e3 : GoodIn wsX7_pass wsJx4a65c_get_915e3 := goodIn_r _ [49, 45, 50, 51, 52, 53, 54, 55, 56, 57, 58, 59, 60, 11, 61, 62, 126, 127, 128] (by decide +kernel) (by decide +kernel)
set_option maxRecDepth 20000 in
theorem gX7_pass_Jx4a65c_get_915e3 : GoodIn wsX7_pass (wsV RX7 66 RJx4a65c yJx4a65c_get_915e3 wsJx4a65c_get_915e3) := goodIn_app (goodIn_of _ (by decide +kernel)) ggX7_pass_Jx4a65c_get_915e3
set_option maxRecDepth 20000 in
theorem ggX7_pass_X7_act : GoodIn wsX7_pass wsX7_act := goodIn_r _ [67, 4, 5, 6, 68, 41, 42, 43, 11, 44, 45, 46, 47, 48, 49, 50, 51, 52, 53, 54, 55, 56, 57, 58, 59, 60, 61, 62, 69, 70, 71, 66, 72, 73, 74, 75, 76, 77, 78, 79, 80, 81, 82, 83, 84, 108, 109, 110, 111, 112, 113, 114, 115, 116, 117, 118, 119, 120, 121, 126, 127, 128] (by decide +kernel) (by decide +kernel)
set_option maxRecDepth 20000 in
theorem gX7_pass_X7_act : GoodIn wsX7_pass (wsV RX7 102 RX7 yX7_act wsX7_act) := goodIn_app (goodIn_of _ (by decide +kernel)) ggX7_pass_X7_act
set_option maxRecDepth 20000 in
theorem ggX7_pass_X7_isOut : GoodIn wsX7_pass wsX7_isOut := goodIn_r _ [88, 89, 4, 5, 46, 47, 48, 11, 49, 45, 50, 51, 52, 53, 54, 55, 56, 57, 58, 59, 60, 61, 62, 108, 109, 110, 111, 112, 113, 114, 115, 116, 117, 118, 119, 120, 121, 126, 127, 128] (by decide +kernel) (by decide +kernel)
set_option maxRecDepth 20000 in
theorem gX7_pass_X7_isOut : GoodIn wsX7_pass (wsV RX7 106 RX7 yX7_isOut wsX7_isOut) := goodIn_app (goodIn_of _ (by decide +kernel)) ggX7_pass_X7_isOut
set_option maxRecDepth 20000 in
theorem ggX7_pass_X7_end : GoodIn wsX7_pass wsX7_end := goodIn_r _ [93, 2, 7, 94, 3, 95, 96, 97, 98, 99, 100, 101, 102, 103, 104, 105, 11, 106, 107, 25, 62, 45, 108, 109, 110, 111, 112, 113, 114, 115, 116, 117, 118, 119, 120, 121, 126, 127, 128] (by decide +kernel) (by decide +kernel)
set_option maxRecDepth 20000 in
theorem gX7_pass_X7_end : GoodIn wsX7_pass (wsV RX7 109 RX7 yX7_end wsX7_end) := goodIn_app (goodIn_of _ (by decide +kernel)) ggX7_pass_X7_end
theorem dX7_pass_0 : decode cX7_pass 0 = .ok (.aload_n 0, 1) := by decide +kernel
theorem dX7_pass_1 : decode cX7_pass 1 = .ok (.dup, 1) := by decide +kernel
theorem dX7_pass_2 : decode cX7_pass 2 = .ok (.getfield 99, 3) := by decide +kernel
theorem dX7_pass_5 : decode cX7_pass 5 = .ok (.iconst 1, 1) := by decide +kernel
theorem dX7_pass_6 : decode cX7_pass 6 = .ok (.iadd, 1) := by decide +kernel
theorem dX7_pass_7 : decode cX7_pass 7 = .ok (.putfield 99, 3) := by decide +kernel
theorem dX7_pass_10 : decode cX7_pass 10 = .ok (.aload_n 0, 1) := by decide +kernel
theorem dX7_pass_11 : decode cX7_pass 11 = .ok (.getfield 55, 3) := by decide +kernel
theorem dX7_pass_14 : decode cX7_pass 14 = .ok (.ifCond .ne 5, 3) := by decide +kernel
theorem dX7_pass_17 : decode cX7_pass 17 = .ok (.iconst 0, 1) := by decide +kernel
theorem dX7_pass_18 : decode cX7_pass 18 = .ok (.ireturn, 1) := by decide +kernel
theorem dX7_pass_19 : decode cX7_pass 19 = .ok (.aload_n 0, 1) := by decide +kernel
theorem dX7_pass_20 : decode cX7_pass 20 = .ok (.dup, 1) := by decide +kernel
theorem dX7_pass_21 : decode cX7_pass 21 = .ok (.getfield 59, 3) := by decide +kernel
theorem dX7_pass_24 : decode cX7_pass 24 = .ok (.iconst 1, 1) := by decide +kernel
theorem dX7_pass_25 : decode cX7_pass 25 = .ok (.iadd, 1) := by decide +kernel
theorem dX7_pass_26 : decode cX7_pass 26 = .ok (.putfield 59, 3) := by decide +kernel
theorem dX7_pass_29 : decode cX7_pass 29 = .ok (.aload_n 0, 1) := by decide +kernel
theorem dX7_pass_30 : decode cX7_pass 30 = .ok (.getfield 12, 3) := by decide +kernel
theorem dX7_pass_33 : decode cX7_pass 33 = .ok (.invokevirtual 32, 3) := by decide +kernel
theorem dX7_pass_36 : decode cX7_pass 36 = .ok (.astore_n 1, 1) := by decide +kernel
theorem dX7_pass_37 : decode cX7_pass 37 = .ok (.aload_n 1, 1) := by decide +kernel
theorem dX7_pass_38 : decode cX7_pass 38 = .ok (.invokeinterface 36 1, 5) := by decide +kernel
theorem dX7_pass_43 : decode cX7_pass 43 = .ok (.ifCond .eq 21, 3) := by decide +kernel
theorem dX7_pass_46 : decode cX7_pass 46 = .ok (.aload_n 1, 1) := by decide +kernel
theorem dX7_pass_47 : decode cX7_pass 47 = .ok (.invokeinterface 42 1, 5) := by decide +kernel
theorem dX7_pass_52 : decode cX7_pass 52 = .ok (.checkcast 46, 3) := by decide +kernel
theorem dX7_pass_55 : decode cX7_pass 55 = .ok (.astore_n 2, 1) := by decide +kernel
theorem dX7_pass_56 : decode cX7_pass 56 = .ok (.aload_n 2, 1) := by decide +kernel
theorem dX7_pass_57 : decode cX7_pass 57 = .ok (.bipush 9, 2) := by decide +kernel
theorem dX7_pass_59 : decode cX7_pass 59 = .ok (.iconst 0, 1) := by decide +kernel
theorem dX7_pass_60 : decode cX7_pass 60 = .ok (.iastore, 1) := by decide +kernel
theorem dX7_pass_61 : decode cX7_pass 61 = .ok (.goto (-24), 3) := by decide +kernel
theorem dX7_pass_64 : decode cX7_pass 64 = .ok (.aload_n 0, 1) := by decide +kernel
theorem dX7_pass_65 : decode cX7_pass 65 = .ok (.getfield 18, 3) := by decide +kernel
theorem dX7_pass_68 : decode cX7_pass 68 = .ok (.invokevirtual 32, 3) := by decide +kernel
theorem dX7_pass_71 : decode cX7_pass 71 = .ok (.astore_n 1, 1) := by decide +kernel
theorem dX7_pass_72 : decode cX7_pass 72 = .ok (.aload_n 1, 1) := by decide +kernel
theorem dX7_pass_73 : decode cX7_pass 73 = .ok (.invokeinterface 36 1, 5) := by decide +kernel
theorem dX7_pass_78 : decode cX7_pass 78 = .ok (.ifCond .eq 20, 3) := by decide +kernel
theorem dX7_pass_81 : decode cX7_pass 81 = .ok (.aload_n 1, 1) := by decide +kernel
theorem dX7_pass_82 : decode cX7_pass 82 = .ok (.invokeinterface 42 1, 5) := by decide +kernel
theorem dX7_pass_87 : decode cX7_pass 87 = .ok (.checkcast 46, 3) := by decide +kernel
theorem dX7_pass_90 : decode cX7_pass 90 = .ok (.astore_n 2, 1) := by decide +kernel
theorem dX7_pass_91 : decode cX7_pass 91 = .ok (.aload_n 2, 1) := by decide +kernel
theorem dX7_pass_92 : decode cX7_pass 92 = .ok (.iconst 4, 1) := by decide +kernel
theorem dX7_pass_93 : decode cX7_pass 93 = .ok (.iconst 0, 1) := by decide +kernel
theorem dX7_pass_94 : decode cX7_pass 94 = .ok (.iastore, 1) := by decide +kernel
theorem dX7_pass_95 : decode cX7_pass 95 = .ok (.goto (-23), 3) := by decide +kernel
theorem dX7_pass_98 : decode cX7_pass 98 = .ok (.iconst 0, 1) := by decide +kernel
theorem dX7_pass_99 : decode cX7_pass 99 = .ok (.istore_n 1, 1) := by decide +kernel
theorem dX7_pass_100 : decode cX7_pass 100 = .ok (.iconst 0, 1) := by decide +kernel
theorem dX7_pass_101 : decode cX7_pass 101 = .ok (.istore_n 2, 1) := by decide +kernel
theorem dX7_pass_102 : decode cX7_pass 102 = .ok (.aload_n 0, 1) := by decide +kernel
theorem dX7_pass_103 : decode cX7_pass 103 = .ok (.getfield 55, 3) := by decide +kernel
theorem dX7_pass_106 : decode cX7_pass 106 = .ok (.ifCond .eq 50, 3) := by decide +kernel
theorem dX7_pass_109 : decode cX7_pass 109 = .ok (.iload_n 2, 1) := by decide +kernel
theorem dX7_pass_110 : decode cX7_pass 110 = .ok (.aload_n 0, 1) := by decide +kernel
theorem dX7_pass_111 : decode cX7_pass 111 = .ok (.getfield 21, 3) := by decide +kernel
theorem dX7_pass_114 : decode cX7_pass 114 = .ok (.invokevirtual 62, 3) := by decide +kernel
theorem dX7_pass_117 : decode cX7_pass 117 = .ok (.if_icmp .ge 39, 3) := by decide +kernel
theorem dX7_pass_120 : decode cX7_pass 120 = .ok (.iload_n 1, 1) := by decide +kernel
theorem dX7_pass_121 : decode cX7_pass 121 = .ok (.aload_n 0, 1) := by decide +kernel
theorem dX7_pass_122 : decode cX7_pass 122 = .ok (.aload_n 0, 1) := by decide +kernel
theorem dX7_pass_123 : decode cX7_pass 123 = .ok (.getfield 21, 3) := by decide +kernel
theorem dX7_pass_126 : decode cX7_pass 126 = .ok (.iload_n 2, 1) := by decide +kernel
theorem dX7_pass_127 : decode cX7_pass 127 = .ok (.invokevirtual 66, 3) := by decide +kernel
theorem dX7_pass_130 : decode cX7_pass 130 = .ok (.checkcast 46, 3) := by decide +kernel
theorem dX7_pass_133 : decode cX7_pass 133 = .ok (.invokevirtual 102, 3) := by decide +kernel
theorem dX7_pass_136 : decode cX7_pass 136 = .ok (.iadd, 1) := by decide +kernel
theorem dX7_pass_137 : decode cX7_pass 137 = .ok (.istore_n 1, 1) := by decide +kernel
theorem dX7_pass_138 : decode cX7_pass 138 = .ok (.aload_n 0, 1) := by decide +kernel
theorem dX7_pass_139 : decode cX7_pass 139 = .ok (.invokevirtual 106, 3) := by decide +kernel
theorem dX7_pass_142 : decode cX7_pass 142 = .ok (.ifCond .eq 8, 3) := by decide +kernel
theorem dX7_pass_145 : decode cX7_pass 145 = .ok (.aload_n 0, 1) := by decide +kernel
theorem dX7_pass_146 : decode cX7_pass 146 = .ok (.iconst 1, 1) := by decide +kernel
theorem dX7_pass_147 : decode cX7_pass 147 = .ok (.invokevirtual 109, 3) := by decide +kernel
theorem dX7_pass_150 : decode cX7_pass 150 = .ok (.iinc 2 1, 3) := by decide +kernel
theorem dX7_pass_153 : decode cX7_pass 153 = .ok (.goto (-51), 3) := by decide +kernel
theorem dX7_pass_156 : decode cX7_pass 156 = .ok (.aload_n 0, 1) := by decide +kernel
theorem dX7_pass_157 : decode cX7_pass 157 = .ok (.getfield 55, 3) := by decide +kernel
theorem dX7_pass_160 : decode cX7_pass 160 = .ok (.ifCond .eq 17, 3) := by decide +kernel
theorem dX7_pass_163 : decode cX7_pass 163 = .ok (.aload_n 0, 1) := by decide +kernel
theorem dX7_pass_164 : decode cX7_pass 164 = .ok (.getfield 59, 3) := by decide +kernel
theorem dX7_pass_167 : decode cX7_pass 167 = .ok (.bipush 60, 2) := by decide +kernel
theorem dX7_pass_169 : decode cX7_pass 169 = .ok (.if_icmp .ne 8, 3) := by decide +kernel
theorem dX7_pass_172 : decode cX7_pass 172 = .ok (.aload_n 0, 1) := by decide +kernel
theorem dX7_pass_173 : decode cX7_pass 173 = .ok (.iconst 0, 1) := by decide +kernel
theorem dX7_pass_174 : decode cX7_pass 174 = .ok (.invokevirtual 109, 3) := by decide +kernel
theorem dX7_pass_177 : decode cX7_pass 177 = .ok (.iload_n 1, 1) := by decide +kernel
theorem dX7_pass_178 : decode cX7_pass 178 = .ok (.ireturn, 1) := by decide +kernel
set_option maxRecDepth 20000 in
theorem ggX7_act_Jx4a65c_size_8abf5 : GoodIn wsX7_act wsJx4a65c_size_8abf5 := goodIn_r _ [9, 10, 59, 60, 61] (by decide +kernel) (by decide +kernel)
set_option maxRecDepth 20000 in
theorem gX7_act_Jx4a65c_size_8abf5 : GoodIn wsX7_act (wsV RX7 62 RJx4a65c yJx4a65c_size_8abf5 wsJx4a65c_size_8abf5) := goodIn_app (goodIn_of _ (by decide +kernel)) ggX7_act_Jx4a65c_size_8abf5
set_option maxRecDepth 20000 in
theorem ggX7_act_Jx4a65c_get_915e3 : GoodIn wsX7_act wsJx4a65c_get_915e3 := goodIn_r _ [14, 10, 15, 16, 17, 18, 19, 20, 21, 22, 23, 24, 25, 8, 26, 27, 59, 60, 61] (by decide +kernel) (by decide +kernel)
set_option maxRecDepth 20000 in
theorem gX7_act_Jx4a65c_get_915e3 : GoodIn wsX7_act (wsV RX7 66 RJx4a65c yJx4a65c_get_915e3 wsJx4a65c_get_915e3) := goodIn_app (goodIn_of _ (by decide +kernel)) ggX7_act_Jx4a65c_get_915e3
set_option maxRecDepth 20000 in
theorem ggX7_act_X7_isReady : GoodIn wsX7_act wsX7_isReady := goodIn_r _ [32, 1, 2, 11, 12, 13, 8, 14, 10, 15, 16, 17, 18, 19, 20, 21, 22, 23, 24, 25, 26, 27, 33, 34, 35, 31, 36, 3, 5, 6, 7, 9, 45, 46, 47, 48, 49, 50, 51, 52, 53, 54, 55, 56, 57, 58, 59, 60, 61] (by decide +kernel) (by decide +kernel)
set_option maxRecDepth 20000 in
theorem gX7_act_X7_isReady : GoodIn wsX7_act (wsV RX7 74 RX7 yX7_isReady wsX7_isReady) := goodIn_app (goodIn_of _ (by decide +kernel)) ggX7_act_X7_isReady
set_option maxRecDepth 20000 in
theorem ggX7_act_X7_open : GoodIn wsX7_act wsX7_open := goodIn_r _ [40, 1, 2, 3, 11, 12, 13, 8, 14, 10, 15, 16, 17, 18, 19, 20, 21, 22, 23, 24, 25, 26, 27, 5, 6, 7, 9, 45, 46, 47, 48, 49, 50, 51, 52, 53, 54, 55, 56, 57, 58, 59, 60, 61] (by decide +kernel) (by decide +kernel)
set_option maxRecDepth 20000 in
theorem gX7_act_X7_open : GoodIn wsX7_act (wsV RX7 113 RX7 yX7_open wsX7_open) := goodIn_app (goodIn_of _ (by decide +kernel)) ggX7_act_X7_open
set_option maxRecDepth 20000 in
theorem ggX7_act_X7_isReached : GoodIn wsX7_act wsX7_isReached := goodIn_r _ [44, 3, 2, 1, 11, 12, 13, 8, 14, 10, 15, 16, 17, 18, 19, 20, 21, 22, 23, 24, 25, 26, 27, 45, 46, 47, 48, 49, 50, 51, 52, 53, 54, 55, 56, 57, 58, 59, 60, 61] (by decide +kernel) (by decide +kernel)
set_option maxRecDepth 20000 in
theorem gX7_act_X7_isReached : GoodIn wsX7_act (wsV RX7 117 RX7 yX7_isReached wsX7_isReached) := goodIn_app (goodIn_of _ (by decide +kernel)) ggX7_act_X7_isReached
theorem dX7_act_0 : decode cX7_act 0 = .ok (.aload_n 1, 1) := by decide +kernel
theorem dX7_act_1 : decode cX7_act 1 = .ok (.iconst 1, 1) := by decide +kernel
theorem dX7_act_2 : decode cX7_act 2 = .ok (.iconst (-1), 1) := by decide +kernel
theorem dX7_act_3 : decode cX7_act 3 = .ok (.iastore, 1) := by decide +kernel
theorem dX7_act_4 : decode cX7_act 4 = .ok (.aload_n 1, 1) := by decide +kernel
theorem dX7_act_5 : decode cX7_act 5 = .ok (.iconst 2, 1) := by decide +kernel
theorem dX7_act_6 : decode cX7_act 6 = .ok (.iconst (-1), 1) := by decide +kernel
theorem dX7_act_7 : decode cX7_act 7 = .ok (.iastore, 1) := by decide +kernel
theorem dX7_act_8 : decode cX7_act 8 = .ok (.iconst 0, 1) := by decide +kernel
theorem dX7_act_9 : decode cX7_act 9 = .ok (.istore_n 2, 1) := by decide +kernel
theorem dX7_act_10 : decode cX7_act 10 = .ok (.iload_n 2, 1) := by decide +kernel
theorem dX7_act_11 : decode cX7_act 11 = .ok (.aload_n 0, 1) := by decide +kernel
theorem dX7_act_12 : decode cX7_act 12 = .ok (.getfield 12, 3) := by decide +kernel
theorem dX7_act_15 : decode cX7_act 15 = .ok (.invokevirtual 62, 3) := by decide +kernel
theorem dX7_act_18 : decode cX7_act 18 = .ok (.if_icmp .ge 79, 3) := by decide +kernel
theorem dX7_act_21 : decode cX7_act 21 = .ok (.aload_n 0, 1) := by decide +kernel
theorem dX7_act_22 : decode cX7_act 22 = .ok (.getfield 12, 3) := by decide +kernel
theorem dX7_act_25 : decode cX7_act 25 = .ok (.iload_n 2, 1) := by decide +kernel
theorem dX7_act_26 : decode cX7_act 26 = .ok (.invokevirtual 66, 3) := by decide +kernel
theorem dX7_act_29 : decode cX7_act 29 = .ok (.checkcast 46, 3) := by decide +kernel
theorem dX7_act_32 : decode cX7_act 32 = .ok (.astore_n 3, 1) := by decide +kernel
theorem dX7_act_33 : decode cX7_act 33 = .ok (.aload_n 3, 1) := by decide +kernel
theorem dX7_act_34 : decode cX7_act 34 = .ok (.bipush 9, 2) := by decide +kernel
theorem dX7_act_36 : decode cX7_act 36 = .ok (.iaload, 1) := by decide +kernel
theorem dX7_act_37 : decode cX7_act 37 = .ok (.iconst 2, 1) := by decide +kernel
theorem dX7_act_38 : decode cX7_act 38 = .ok (.if_icmp .eq 53, 3) := by decide +kernel
theorem dX7_act_41 : decode cX7_act 41 = .ok (.aload_n 0, 1) := by decide +kernel
theorem dX7_act_42 : decode cX7_act 42 = .ok (.iload_n 2, 1) := by decide +kernel
theorem dX7_act_43 : decode cX7_act 43 = .ok (.invokevirtual 74, 3) := by decide +kernel
theorem dX7_act_46 : decode cX7_act 46 = .ok (.ifCond .ne 6, 3) := by decide +kernel
theorem dX7_act_49 : decode cX7_act 49 = .ok (.goto 42, 3) := by decide +kernel
theorem dX7_act_52 : decode cX7_act 52 = .ok (.aload_n 1, 1) := by decide +kernel
theorem dX7_act_53 : decode cX7_act 53 = .ok (.iconst 1, 1) := by decide +kernel
theorem dX7_act_54 : decode cX7_act 54 = .ok (.iload_n 2, 1) := by decide +kernel
theorem dX7_act_55 : decode cX7_act 55 = .ok (.iastore, 1) := by decide +kernel
theorem dX7_act_56 : decode cX7_act 56 = .ok (.aload_n 3, 1) := by decide +kernel
theorem dX7_act_57 : decode cX7_act 57 = .ok (.bipush 9, 2) := by decide +kernel
theorem dX7_act_59 : decode cX7_act 59 = .ok (.dup2, 1) := by decide +kernel
theorem dX7_act_60 : decode cX7_act 60 = .ok (.iaload, 1) := by decide +kernel
theorem dX7_act_61 : decode cX7_act 61 = .ok (.iconst 1, 1) := by decide +kernel
theorem dX7_act_62 : decode cX7_act 62 = .ok (.iadd, 1) := by decide +kernel
theorem dX7_act_63 : decode cX7_act 63 = .ok (.iastore, 1) := by decide +kernel
theorem dX7_act_64 : decode cX7_act 64 = .ok (.aload_n 3, 1) := by decide +kernel
theorem dX7_act_65 : decode cX7_act 65 = .ok (.iconst 5, 1) := by decide +kernel
theorem dX7_act_66 : decode cX7_act 66 = .ok (.dup2, 1) := by decide +kernel
theorem dX7_act_67 : decode cX7_act 67 = .ok (.iaload, 1) := by decide +kernel
theorem dX7_act_68 : decode cX7_act 68 = .ok (.aload_n 1, 1) := by decide +kernel
theorem dX7_act_69 : decode cX7_act 69 = .ok (.iconst 0, 1) := by decide +kernel
theorem dX7_act_70 : decode cX7_act 70 = .ok (.iaload, 1) := by decide +kernel
theorem dX7_act_71 : decode cX7_act 71 = .ok (.iadd, 1) := by decide +kernel
theorem dX7_act_72 : decode cX7_act 72 = .ok (.iastore, 1) := by decide +kernel
theorem dX7_act_73 : decode cX7_act 73 = .ok (.aload_n 3, 1) := by decide +kernel
theorem dX7_act_74 : decode cX7_act 74 = .ok (.iconst 5, 1) := by decide +kernel
theorem dX7_act_75 : decode cX7_act 75 = .ok (.iaload, 1) := by decide +kernel
theorem dX7_act_76 : decode cX7_act 76 = .ok (.aload_n 3, 1) := by decide +kernel
theorem dX7_act_77 : decode cX7_act 77 = .ok (.iconst 2, 1) := by decide +kernel
theorem dX7_act_78 : decode cX7_act 78 = .ok (.iaload, 1) := by decide +kernel
theorem dX7_act_79 : decode cX7_act 79 = .ok (.if_icmp .ge 5, 3) := by decide +kernel
theorem dX7_act_82 : decode cX7_act 82 = .ok (.iconst 0, 1) := by decide +kernel
theorem dX7_act_83 : decode cX7_act 83 = .ok (.ireturn, 1) := by decide +kernel
theorem dX7_act_84 : decode cX7_act 84 = .ok (.aload_n 0, 1) := by decide +kernel
theorem dX7_act_85 : decode cX7_act 85 = .ok (.iload_n 2, 1) := by decide +kernel
theorem dX7_act_86 : decode cX7_act 86 = .ok (.invokevirtual 113, 3) := by decide +kernel
theorem dX7_act_89 : decode cX7_act 89 = .ok (.iconst 1, 1) := by decide +kernel
theorem dX7_act_90 : decode cX7_act 90 = .ok (.ireturn, 1) := by decide +kernel
theorem dX7_act_91 : decode cX7_act 91 = .ok (.iinc 2 1, 3) := by decide +kernel
theorem dX7_act_94 : decode cX7_act 94 = .ok (.goto (-84), 3) := by decide +kernel
theorem dX7_act_97 : decode cX7_act 97 = .ok (.iconst 0, 1) := by decide +kernel
theorem dX7_act_98 : decode cX7_act 98 = .ok (.istore_n 2, 1) := by decide +kernel
theorem dX7_act_99 : decode cX7_act 99 = .ok (.iload_n 2, 1) := by decide +kernel
theorem dX7_act_100 : decode cX7_act 100 = .ok (.aload_n 0, 1) := by decide +kernel
theorem dX7_act_101 : decode cX7_act 101 = .ok (.getfield 18, 3) := by decide +kernel
theorem dX7_act_104 : decode cX7_act 104 = .ok (.invokevirtual 62, 3) := by decide +kernel
theorem dX7_act_107 : decode cX7_act 107 = .ok (.if_icmp .ge 71, 3) := by decide +kernel
theorem dX7_act_110 : decode cX7_act 110 = .ok (.aload_n 0, 1) := by decide +kernel
theorem dX7_act_111 : decode cX7_act 111 = .ok (.getfield 18, 3) := by decide +kernel
theorem dX7_act_114 : decode cX7_act 114 = .ok (.iload_n 2, 1) := by decide +kernel
theorem dX7_act_115 : decode cX7_act 115 = .ok (.invokevirtual 66, 3) := by decide +kernel
theorem dX7_act_118 : decode cX7_act 118 = .ok (.checkcast 46, 3) := by decide +kernel
theorem dX7_act_121 : decode cX7_act 121 = .ok (.astore_n 3, 1) := by decide +kernel
theorem dX7_act_122 : decode cX7_act 122 = .ok (.aload_n 3, 1) := by decide +kernel
theorem dX7_act_123 : decode cX7_act 123 = .ok (.iconst 4, 1) := by decide +kernel
theorem dX7_act_124 : decode cX7_act 124 = .ok (.iaload, 1) := by decide +kernel
theorem dX7_act_125 : decode cX7_act 125 = .ok (.iconst 1, 1) := by decide +kernel
theorem dX7_act_126 : decode cX7_act 126 = .ok (.if_icmp .eq 46, 3) := by decide +kernel
theorem dX7_act_129 : decode cX7_act 129 = .ok (.aload_n 0, 1) := by decide +kernel
theorem dX7_act_130 : decode cX7_act 130 = .ok (.iload_n 2, 1) := by decide +kernel
theorem dX7_act_131 : decode cX7_act 131 = .ok (.invokevirtual 117, 3) := by decide +kernel
theorem dX7_act_134 : decode cX7_act 134 = .ok (.ifCond .ne 6, 3) := by decide +kernel
theorem dX7_act_137 : decode cX7_act 137 = .ok (.goto 35, 3) := by decide +kernel
theorem dX7_act_140 : decode cX7_act 140 = .ok (.aload_n 1, 1) := by decide +kernel
theorem dX7_act_141 : decode cX7_act 141 = .ok (.iconst 2, 1) := by decide +kernel
theorem dX7_act_142 : decode cX7_act 142 = .ok (.iload_n 2, 1) := by decide +kernel
theorem dX7_act_143 : decode cX7_act 143 = .ok (.iastore, 1) := by decide +kernel
theorem dX7_act_144 : decode cX7_act 144 = .ok (.aload_n 3, 1) := by decide +kernel
theorem dX7_act_145 : decode cX7_act 145 = .ok (.iconst 4, 1) := by decide +kernel
theorem dX7_act_146 : decode cX7_act 146 = .ok (.iconst 1, 1) := by decide +kernel
theorem dX7_act_147 : decode cX7_act 147 = .ok (.iastore, 1) := by decide +kernel
theorem dX7_act_148 : decode cX7_act 148 = .ok (.aload_n 3, 1) := by decide +kernel
theorem dX7_act_149 : decode cX7_act 149 = .ok (.iconst 2, 1) := by decide +kernel
theorem dX7_act_150 : decode cX7_act 150 = .ok (.dup2, 1) := by decide +kernel
theorem dX7_act_151 : decode cX7_act 151 = .ok (.iaload, 1) := by decide +kernel
theorem dX7_act_152 : decode cX7_act 152 = .ok (.aload_n 1, 1) := by decide +kernel
theorem dX7_act_153 : decode cX7_act 153 = .ok (.iconst 0, 1) := by decide +kernel
theorem dX7_act_154 : decode cX7_act 154 = .ok (.iaload, 1) := by decide +kernel
theorem dX7_act_155 : decode cX7_act 155 = .ok (.iadd, 1) := by decide +kernel
theorem dX7_act_156 : decode cX7_act 156 = .ok (.iastore, 1) := by decide +kernel
theorem dX7_act_157 : decode cX7_act 157 = .ok (.aload_n 3, 1) := by decide +kernel
theorem dX7_act_158 : decode cX7_act 158 = .ok (.iconst 2, 1) := by decide +kernel
theorem dX7_act_159 : decode cX7_act 159 = .ok (.iaload, 1) := by decide +kernel
theorem dX7_act_160 : decode cX7_act 160 = .ok (.aload_n 3, 1) := by decide +kernel
theorem dX7_act_161 : decode cX7_act 161 = .ok (.iconst 1, 1) := by decide +kernel
theorem dX7_act_162 : decode cX7_act 162 = .ok (.iaload, 1) := by decide +kernel
theorem dX7_act_163 : decode cX7_act 163 = .ok (.if_icmp .le 7, 3) := by decide +kernel
theorem dX7_act_166 : decode cX7_act 166 = .ok (.aload_n 3, 1) := by decide +kernel
theorem dX7_act_167 : decode cX7_act 167 = .ok (.iconst 3, 1) := by decide +kernel
theorem dX7_act_168 : decode cX7_act 168 = .ok (.iconst 1, 1) := by decide +kernel
theorem dX7_act_169 : decode cX7_act 169 = .ok (.iastore, 1) := by decide +kernel
theorem dX7_act_170 : decode cX7_act 170 = .ok (.iconst 0, 1) := by decide +kernel
theorem dX7_act_171 : decode cX7_act 171 = .ok (.ireturn, 1) := by decide +kernel
theorem dX7_act_172 : decode cX7_act 172 = .ok (.iinc 2 1, 3) := by decide +kernel
theorem dX7_act_175 : decode cX7_act 175 = .ok (.goto (-76), 3) := by decide +kernel
theorem dX7_act_178 : decode cX7_act 178 = .ok (.aload_n 1, 1) := by decide +kernel
theorem dX7_act_179 : decode cX7_act 179 = .ok (.iconst 3, 1) := by decide +kernel
theorem dX7_act_180 : decode cX7_act 180 = .ok (.dup2, 1) := by decide +kernel
theorem dX7_act_181 : decode cX7_act 181 = .ok (.iaload, 1) := by decide +kernel
theorem dX7_act_182 : decode cX7_act 182 = .ok (.iconst 1, 1) := by decide +kernel
theorem dX7_act_183 : decode cX7_act 183 = .ok (.iadd, 1) := by decide +kernel
theorem dX7_act_184 : decode cX7_act 184 = .ok (.iastore, 1) := by decide +kernel
theorem dX7_act_185 : decode cX7_act 185 = .ok (.aload_n 0, 1) := by decide +kernel
theorem dX7_act_186 : decode cX7_act 186 = .ok (.dup, 1) := by decide +kernel
theorem dX7_act_187 : decode cX7_act 187 = .ok (.getfield 120, 3) := by decide +kernel
theorem dX7_act_190 : decode cX7_act 190 = .ok (.iconst 1, 1) := by decide +kernel
theorem dX7_act_191 : decode cX7_act 191 = .ok (.iadd, 1) := by decide +kernel
theorem dX7_act_192 : decode cX7_act 192 = .ok (.putfield 120, 3) := by decide +kernel
theorem dX7_act_195 : decode cX7_act 195 = .ok (.iconst 0, 1) := by decide +kernel
theorem dX7_act_196 : decode cX7_act 196 = .ok (.ireturn, 1) := by decide +kernel
set_option maxRecDepth 20000 in
theorem ggX7_atHand_Jx4a65c_size_8abf5 : GoodIn wsX7_atHand wsJx4a65c_size_8abf5 := goodIn_r _ [8, 9, 41, 42, 43] (by decide +kernel) (by decide +kernel)
set_option maxRecDepth 20000 in
theorem gX7_atHand_Jx4a65c_size_8abf5 : GoodIn wsX7_atHand (wsV RX7 62 RJx4a65c yJx4a65c_size_8abf5 wsJx4a65c_size_8abf5) := goodIn_app (goodIn_of _ (by decide +kernel)) ggX7_atHand_Jx4a65c_size_8abf5
set_option maxRecDepth 20000 in
theorem ggX7_atHand_Jx4a65c_get_915e3 : GoodIn wsX7_atHand wsJx4a65c_get_915e3 := goodIn_r _ [13, 9, 14, 15, 16, 17, 18, 19, 20, 21, 22, 23, 24, 7, 25, 26, 41, 42, 43] (by decide +kernel) (by decide +kernel)
set_option maxRecDepth 20000 in
theorem gX7_atHand_Jx4a65c_get_915e3 : GoodIn wsX7_atHand (wsV RX7 66 RJx4a65c yJx4a65c_get_915e3 wsJx4a65c_get_915e3) := goodIn_app (goodIn_of _ (by decide +kernel)) ggX7_atHand_Jx4a65c_get_915e3
theorem dX7_atHand_0 : decode cX7_atHand 0 = .ok (.iconst 0, 1) := by decide +kernel
theorem dX7_atHand_1 : decode cX7_atHand 1 = .ok (.istore_n 3, 1) := by decide +kernel
theorem dX7_atHand_2 : decode cX7_atHand 2 = .ok (.iconst 0, 1) := by decide +kernel
theorem dX7_atHand_3 : decode cX7_atHand 3 = .ok (.istore 4, 2) := by decide +kernel
theorem dX7_atHand_5 : decode cX7_atHand 5 = .ok (.iload 4, 2) := by decide +kernel
theorem dX7_atHand_7 : decode cX7_atHand 7 = .ok (.aload_n 0, 1) := by decide +kernel
theorem dX7_atHand_8 : decode cX7_atHand 8 = .ok (.getfield 18, 3) := by decide +kernel
theorem dX7_atHand_11 : decode cX7_atHand 11 = .ok (.invokevirtual 62, 3) := by decide +kernel
theorem dX7_atHand_14 : decode cX7_atHand 14 = .ok (.if_icmp .ge 77, 3) := by decide +kernel
theorem dX7_atHand_17 : decode cX7_atHand 17 = .ok (.aload_n 0, 1) := by decide +kernel
theorem dX7_atHand_18 : decode cX7_atHand 18 = .ok (.getfield 18, 3) := by decide +kernel
theorem dX7_atHand_21 : decode cX7_atHand 21 = .ok (.iload 4, 2) := by decide +kernel
theorem dX7_atHand_23 : decode cX7_atHand 23 = .ok (.invokevirtual 66, 3) := by decide +kernel
theorem dX7_atHand_26 : decode cX7_atHand 26 = .ok (.checkcast 46, 3) := by decide +kernel
theorem dX7_atHand_29 : decode cX7_atHand 29 = .ok (.astore 5, 2) := by decide +kernel
theorem dX7_atHand_31 : decode cX7_atHand 31 = .ok (.aload 5, 2) := by decide +kernel
theorem dX7_atHand_33 : decode cX7_atHand 33 = .ok (.iconst 3, 1) := by decide +kernel
theorem dX7_atHand_34 : decode cX7_atHand 34 = .ok (.iaload, 1) := by decide +kernel
theorem dX7_atHand_35 : decode cX7_atHand 35 = .ok (.ifCond .ne 27, 3) := by decide +kernel
theorem dX7_atHand_38 : decode cX7_atHand 38 = .ok (.aload 5, 2) := by decide +kernel
theorem dX7_atHand_40 : decode cX7_atHand 40 = .ok (.iconst 0, 1) := by decide +kernel
theorem dX7_atHand_41 : decode cX7_atHand 41 = .ok (.iaload, 1) := by decide +kernel
theorem dX7_atHand_42 : decode cX7_atHand 42 = .ok (.iconst (-1), 1) := by decide +kernel
theorem dX7_atHand_43 : decode cX7_atHand 43 = .ok (.if_icmp .eq 15, 3) := by decide +kernel
theorem dX7_atHand_46 : decode cX7_atHand 46 = .ok (.iload_n 1, 1) := by decide +kernel
theorem dX7_atHand_47 : decode cX7_atHand 47 = .ok (.aload 5, 2) := by decide +kernel
theorem dX7_atHand_49 : decode cX7_atHand 49 = .ok (.iconst 0, 1) := by decide +kernel
theorem dX7_atHand_50 : decode cX7_atHand 50 = .ok (.iaload, 1) := by decide +kernel
theorem dX7_atHand_51 : decode cX7_atHand 51 = .ok (.ishr, 1) := by decide +kernel
theorem dX7_atHand_52 : decode cX7_atHand 52 = .ok (.iconst 1, 1) := by decide +kernel
theorem dX7_atHand_53 : decode cX7_atHand 53 = .ok (.iand, 1) := by decide +kernel
theorem dX7_atHand_54 : decode cX7_atHand 54 = .ok (.iconst 1, 1) := by decide +kernel
theorem dX7_atHand_55 : decode cX7_atHand 55 = .ok (.if_icmp .ne 7, 3) := by decide +kernel
theorem dX7_atHand_58 : decode cX7_atHand 58 = .ok (.iconst 1, 1) := by decide +kernel
theorem dX7_atHand_59 : decode cX7_atHand 59 = .ok (.goto 4, 3) := by decide +kernel
theorem dX7_atHand_62 : decode cX7_atHand 62 = .ok (.iconst 0, 1) := by decide +kernel
theorem dX7_atHand_63 : decode cX7_atHand 63 = .ok (.istore 6, 2) := by decide +kernel
theorem dX7_atHand_65 : decode cX7_atHand 65 = .ok (.iload 6, 2) := by decide +kernel
theorem dX7_atHand_67 : decode cX7_atHand 67 = .ok (.ifCond .ne 11, 3) := by decide +kernel
theorem dX7_atHand_70 : decode cX7_atHand 70 = .ok (.aload 5, 2) := by decide +kernel
theorem dX7_atHand_72 : decode cX7_atHand 72 = .ok (.iconst 3, 1) := by decide +kernel
theorem dX7_atHand_73 : decode cX7_atHand 73 = .ok (.iaload, 1) := by decide +kernel
theorem dX7_atHand_74 : decode cX7_atHand 74 = .ok (.iconst 1, 1) := by decide +kernel
theorem dX7_atHand_75 : decode cX7_atHand 75 = .ok (.if_icmp .ne 10, 3) := by decide +kernel
theorem dX7_atHand_78 : decode cX7_atHand 78 = .ok (.iload_n 3, 1) := by decide +kernel
theorem dX7_atHand_79 : decode cX7_atHand 79 = .ok (.iconst 1, 1) := by decide +kernel
theorem dX7_atHand_80 : decode cX7_atHand 80 = .ok (.iload 4, 2) := by decide +kernel
theorem dX7_atHand_82 : decode cX7_atHand 82 = .ok (.ishl, 1) := by decide +kernel
theorem dX7_atHand_83 : decode cX7_atHand 83 = .ok (.ior, 1) := by decide +kernel
theorem dX7_atHand_84 : decode cX7_atHand 84 = .ok (.istore_n 3, 1) := by decide +kernel
theorem dX7_atHand_85 : decode cX7_atHand 85 = .ok (.iinc 4 1, 3) := by decide +kernel
theorem dX7_atHand_88 : decode cX7_atHand 88 = .ok (.goto (-83), 3) := by decide +kernel
theorem dX7_atHand_91 : decode cX7_atHand 91 = .ok (.iconst 0, 1) := by decide +kernel
theorem dX7_atHand_92 : decode cX7_atHand 92 = .ok (.istore 4, 2) := by decide +kernel
theorem dX7_atHand_94 : decode cX7_atHand 94 = .ok (.iload 4, 2) := by decide +kernel
theorem dX7_atHand_96 : decode cX7_atHand 96 = .ok (.aload_n 0, 1) := by decide +kernel
theorem dX7_atHand_97 : decode cX7_atHand 97 = .ok (.getfield 12, 3) := by decide +kernel
theorem dX7_atHand_100 : decode cX7_atHand 100 = .ok (.invokevirtual 62, 3) := by decide +kernel
theorem dX7_atHand_103 : decode cX7_atHand 103 = .ok (.if_icmp .ge 42, 3) := by decide +kernel
theorem dX7_atHand_106 : decode cX7_atHand 106 = .ok (.iload_n 1, 1) := by decide +kernel
theorem dX7_atHand_107 : decode cX7_atHand 107 = .ok (.iload_n 2, 1) := by decide +kernel
theorem dX7_atHand_108 : decode cX7_atHand 108 = .ok (.iconst (-1), 1) := by decide +kernel
theorem dX7_atHand_109 : decode cX7_atHand 109 = .ok (.ixor, 1) := by decide +kernel
theorem dX7_atHand_110 : decode cX7_atHand 110 = .ok (.iand, 1) := by decide +kernel
theorem dX7_atHand_111 : decode cX7_atHand 111 = .ok (.iload 4, 2) := by decide +kernel
theorem dX7_atHand_113 : decode cX7_atHand 113 = .ok (.ishr, 1) := by decide +kernel
theorem dX7_atHand_114 : decode cX7_atHand 114 = .ok (.iconst 1, 1) := by decide +kernel
theorem dX7_atHand_115 : decode cX7_atHand 115 = .ok (.iand, 1) := by decide +kernel
theorem dX7_atHand_116 : decode cX7_atHand 116 = .ok (.iconst 1, 1) := by decide +kernel
theorem dX7_atHand_117 : decode cX7_atHand 117 = .ok (.if_icmp .ne 22, 3) := by decide +kernel
theorem dX7_atHand_120 : decode cX7_atHand 120 = .ok (.iload_n 3, 1) := by decide +kernel
theorem dX7_atHand_121 : decode cX7_atHand 121 = .ok (.aload_n 0, 1) := by decide +kernel
theorem dX7_atHand_122 : decode cX7_atHand 122 = .ok (.getfield 12, 3) := by decide +kernel
theorem dX7_atHand_125 : decode cX7_atHand 125 = .ok (.iload 4, 2) := by decide +kernel
theorem dX7_atHand_127 : decode cX7_atHand 127 = .ok (.invokevirtual 66, 3) := by decide +kernel
theorem dX7_atHand_130 : decode cX7_atHand 130 = .ok (.checkcast 46, 3) := by decide +kernel
theorem dX7_atHand_133 : decode cX7_atHand 133 = .ok (.iconst 1, 1) := by decide +kernel
theorem dX7_atHand_134 : decode cX7_atHand 134 = .ok (.iaload, 1) := by decide +kernel
theorem dX7_atHand_135 : decode cX7_atHand 135 = .ok (.iconst (-1), 1) := by decide +kernel
theorem dX7_atHand_136 : decode cX7_atHand 136 = .ok (.ixor, 1) := by decide +kernel
theorem dX7_atHand_137 : decode cX7_atHand 137 = .ok (.iand, 1) := by decide +kernel
theorem dX7_atHand_138 : decode cX7_atHand 138 = .ok (.istore_n 3, 1) := by decide +kernel
theorem dX7_atHand_139 : decode cX7_atHand 139 = .ok (.iinc 4 1, 3) := by decide +kernel
theorem dX7_atHand_142 : decode cX7_atHand 142 = .ok (.goto (-48), 3) := by decide +kernel
theorem dX7_atHand_145 : decode cX7_atHand 145 = .ok (.iload_n 3, 1) := by decide +kernel
theorem dX7_atHand_146 : decode cX7_atHand 146 = .ok (.ireturn, 1) := by decide +kernel
set_option maxRecDepth 20000 in
theorem ggX7_next_X7_atHand : GoodIn wsX7_next wsX7_atHand := goodIn_r _ [7, 8, 2, 1, 9, 10, 11, 12, 13, 14, 15, 16, 17, 18, 19, 20, 21, 22, 23, 24, 25, 26, 27, 28, 29, 30, 31, 32, 33, 34, 35, 36, 37, 38, 39, 40, 41, 42, 43, 44, 45, 46, 47, 48] (by decide +kernel) (by decide +kernel)
set_option maxRecDepth 20000 in
theorem gX7_next_X7_atHand : GoodIn wsX7_next (wsV RX7 123 RX7 yX7_atHand wsX7_atHand) := goodIn_app (goodIn_of _ (by decide +kernel)) ggX7_next_X7_atHand
set_option maxRecDepth 20000 in
theorem ggX7_next_Jx4a65c_size_8abf5 : GoodIn wsX7_next wsJx4a65c_size_8abf5 := goodIn_r _ [13, 14, 46, 47, 48] (by decide +kernel) (by decide +kernel)
set_option maxRecDepth 20000 in
theorem gX7_next_Jx4a65c_size_8abf5 : GoodIn wsX7_next (wsV RX7 62 RJx4a65c yJx4a65c_size_8abf5 wsJx4a65c_size_8abf5) := goodIn_app (goodIn_of _ (by decide +kernel)) ggX7_next_Jx4a65c_size_8abf5
set_option maxRecDepth 20000 in
theorem ggX7_next_Jx4a65c_get_915e3 : GoodIn wsX7_next wsJx4a65c_get_915e3 := goodIn_r _ [18, 14, 19, 20, 21, 22, 23, 24, 25, 26, 27, 28, 29, 12, 30, 31, 46, 47, 48] (by decide +kernel) (by decide +kernel)
set_option maxRecDepth 20000 in
theorem gX7_next_Jx4a65c_get_915e3 : GoodIn wsX7_next (wsV RX7 66 RJx4a65c yJx4a65c_get_915e3 wsJx4a65c_get_915e3) := goodIn_app (goodIn_of _ (by decide +kernel)) ggX7_next_Jx4a65c_get_915e3
theorem dX7_next_0 : decode cX7_next 0 = .ok (.aload_n 0, 1) := by decide +kernel
theorem dX7_next_1 : decode cX7_next 1 = .ok (.iload_n 1, 1) := by decide +kernel
theorem dX7_next_2 : decode cX7_next 2 = .ok (.iload_n 2, 1) := by decide +kernel
theorem dX7_next_3 : decode cX7_next 3 = .ok (.invokevirtual 123, 3) := by decide +kernel
theorem dX7_next_6 : decode cX7_next 6 = .ok (.istore_n 3, 1) := by decide +kernel
theorem dX7_next_7 : decode cX7_next 7 = .ok (.iconst 0, 1) := by decide +kernel
theorem dX7_next_8 : decode cX7_next 8 = .ok (.istore 4, 2) := by decide +kernel
theorem dX7_next_10 : decode cX7_next 10 = .ok (.iconst 0, 1) := by decide +kernel
theorem dX7_next_11 : decode cX7_next 11 = .ok (.istore 5, 2) := by decide +kernel
theorem dX7_next_13 : decode cX7_next 13 = .ok (.iload 5, 2) := by decide +kernel
theorem dX7_next_15 : decode cX7_next 15 = .ok (.aload_n 0, 1) := by decide +kernel
theorem dX7_next_16 : decode cX7_next 16 = .ok (.getfield 12, 3) := by decide +kernel
theorem dX7_next_19 : decode cX7_next 19 = .ok (.invokevirtual 62, 3) := by decide +kernel
theorem dX7_next_22 : decode cX7_next 22 = .ok (.if_icmp .ge 60, 3) := by decide +kernel
theorem dX7_next_25 : decode cX7_next 25 = .ok (.aload_n 0, 1) := by decide +kernel
theorem dX7_next_26 : decode cX7_next 26 = .ok (.getfield 12, 3) := by decide +kernel
theorem dX7_next_29 : decode cX7_next 29 = .ok (.iload 5, 2) := by decide +kernel
theorem dX7_next_31 : decode cX7_next 31 = .ok (.invokevirtual 66, 3) := by decide +kernel
