theorem dX3_init_115 : decode cX3_init 115 = .ok (.getfield 25, 3) := by decide +kernel
theorem dX3_init_118 : decode cX3_init 118 = .ok (.iload_n 1, 1) := by decide +kernel
theorem dX3_init_119 : decode cX3_init 119 = .ok (.new 23, 3) := by decide +kernel
theorem dX3_init_122 : decode cX3_init 122 = .ok (.dup, 1) := by decide +kernel
theorem dX3_init_123 : decode cX3_init 123 = .ok (.invokespecial 46, 3) := by decide +kernel
theorem dX3_init_126 : decode cX3_init 126 = .ok (.aastore, 1) := by decide +kernel
theorem dX3_init_127 : decode cX3_init 127 = .ok (.iinc 1 1, 3) := by decide +kernel
theorem dX3_init_130 : decode cX3_init 130 = .ok (.goto (-22), 3) := by decide +kernel
theorem dX3_init_133 : decode cX3_init 133 = .ok (.return_, 1) := by decide +kernel
set_option maxRecDepth 20000 in
theorem ggX3_copyFrom_X2_copyFrom : GoodIn wsX3_copyFrom wsX2_copyFrom := goodIn_r _ [42, 43, 44, 45, 46, 86, 87, 88, 89] (by decide +kernel) (by decide +kernel)
set_option maxRecDepth 20000 in
theorem gX3_copyFrom_X2_copyFrom : GoodIn wsX3_copyFrom (wsV RX3 63 RX2 yX2_copyFrom wsX2_copyFrom) := goodIn_app (goodIn_of _ (by decide +kernel)) ggX3_copyFrom_X2_copyFrom
set_option maxRecDepth 20000 in
theorem ggX3_copyFrom_X0_copyFrom : GoodIn wsX3_copyFrom wsX0_copyFrom := goodIn_r _ [51, 52, 53, 54, 55, 56, 57, 58, 90, 91, 92, 93, 94, 95, 96] (by decide +kernel) (by decide +kernel)
set_option maxRecDepth 20000 in
theorem gX3_copyFrom_X0_copyFrom : GoodIn wsX3_copyFrom (wsV RX3 66 RX0 yX0_copyFrom wsX0_copyFrom) := goodIn_app (goodIn_of _ (by decide +kernel)) ggX3_copyFrom_X0_copyFrom
theorem dX3_copyFrom_0 : decode cX3_copyFrom 0 = .ok (.iconst 0, 1) := by decide +kernel
theorem dX3_copyFrom_1 : decode cX3_copyFrom 1 = .ok (.istore_n 2, 1) := by decide +kernel
theorem dX3_copyFrom_2 : decode cX3_copyFrom 2 = .ok (.iload_n 2, 1) := by decide +kernel
theorem dX3_copyFrom_3 : decode cX3_copyFrom 3 = .ok (.aload_n 1, 1) := by decide +kernel
theorem dX3_copyFrom_4 : decode cX3_copyFrom 4 = .ok (.getfield 47, 3) := by decide +kernel
theorem dX3_copyFrom_7 : decode cX3_copyFrom 7 = .ok (.if_icmp .ge 24, 3) := by decide +kernel
theorem dX3_copyFrom_31 : decode cX3_copyFrom 31 = .ok (.iconst 0, 1) := by decide +kernel
theorem dX3_copyFrom_32 : decode cX3_copyFrom 32 = .ok (.istore_n 2, 1) := by decide +kernel
theorem dX3_copyFrom_33 : decode cX3_copyFrom 33 = .ok (.iload_n 2, 1) := by decide +kernel
theorem dX3_copyFrom_34 : decode cX3_copyFrom 34 = .ok (.aload_n 1, 1) := by decide +kernel
theorem dX3_copyFrom_35 : decode cX3_copyFrom 35 = .ok (.getfield 54, 3) := by decide +kernel
theorem dX3_copyFrom_38 : decode cX3_copyFrom 38 = .ok (.if_icmp .ge 24, 3) := by decide +kernel
theorem dX3_copyFrom_62 : decode cX3_copyFrom 62 = .ok (.iconst 0, 1) := by decide +kernel
theorem dX3_copyFrom_63 : decode cX3_copyFrom 63 = .ok (.istore_n 2, 1) := by decide +kernel
theorem dX3_copyFrom_64 : decode cX3_copyFrom 64 = .ok (.iload_n 2, 1) := by decide +kernel
theorem dX3_copyFrom_65 : decode cX3_copyFrom 65 = .ok (.aload_n 1, 1) := by decide +kernel
theorem dX3_copyFrom_66 : decode cX3_copyFrom 66 = .ok (.getfield 60, 3) := by decide +kernel
theorem dX3_copyFrom_69 : decode cX3_copyFrom 69 = .ok (.if_icmp .ge 24, 3) := by decide +kernel
theorem dX3_copyFrom_72 : decode cX3_copyFrom 72 = .ok (.aload_n 0, 1) := by decide +kernel
theorem dX3_copyFrom_73 : decode cX3_copyFrom 73 = .ok (.getfield 25, 3) := by decide +kernel
theorem dX3_copyFrom_76 : decode cX3_copyFrom 76 = .ok (.iload_n 2, 1) := by decide +kernel
theorem dX3_copyFrom_77 : decode cX3_copyFrom 77 = .ok (.aaload, 1) := by decide +kernel
theorem dX3_copyFrom_78 : decode cX3_copyFrom 78 = .ok (.aload_n 1, 1) := by decide +kernel
theorem dX3_copyFrom_79 : decode cX3_copyFrom 79 = .ok (.getfield 25, 3) := by decide +kernel
theorem dX3_copyFrom_82 : decode cX3_copyFrom 82 = .ok (.iload_n 2, 1) := by decide +kernel
theorem dX3_copyFrom_83 : decode cX3_copyFrom 83 = .ok (.aaload, 1) := by decide +kernel
theorem dX3_copyFrom_84 : decode cX3_copyFrom 84 = .ok (.invokevirtual 63, 3) := by decide +kernel
theorem dX3_copyFrom_87 : decode cX3_copyFrom 87 = .ok (.iinc 2 1, 3) := by decide +kernel
theorem dX3_copyFrom_90 : decode cX3_copyFrom 90 = .ok (.goto (-26), 3) := by decide +kernel
theorem dX3_copyFrom_93 : decode cX3_copyFrom 93 = .ok (.aload_n 0, 1) := by decide +kernel
theorem dX3_copyFrom_94 : decode cX3_copyFrom 94 = .ok (.getfield 32, 3) := by decide +kernel
theorem dX3_copyFrom_97 : decode cX3_copyFrom 97 = .ok (.aload_n 1, 1) := by decide +kernel
theorem dX3_copyFrom_98 : decode cX3_copyFrom 98 = .ok (.getfield 32, 3) := by decide +kernel
theorem dX3_copyFrom_101 : decode cX3_copyFrom 101 = .ok (.invokevirtual 66, 3) := by decide +kernel
theorem dX3_copyFrom_104 : decode cX3_copyFrom 104 = .ok (.aload_n 0, 1) := by decide +kernel
theorem dX3_copyFrom_105 : decode cX3_copyFrom 105 = .ok (.aload_n 1, 1) := by decide +kernel
theorem dX3_copyFrom_106 : decode cX3_copyFrom 106 = .ok (.getfield 47, 3) := by decide +kernel
theorem dX3_copyFrom_109 : decode cX3_copyFrom 109 = .ok (.putfield 47, 3) := by decide +kernel
theorem dX3_copyFrom_112 : decode cX3_copyFrom 112 = .ok (.aload_n 0, 1) := by decide +kernel
theorem dX3_copyFrom_113 : decode cX3_copyFrom 113 = .ok (.aload_n 1, 1) := by decide +kernel
theorem dX3_copyFrom_114 : decode cX3_copyFrom 114 = .ok (.getfield 54, 3) := by decide +kernel
theorem dX3_copyFrom_117 : decode cX3_copyFrom 117 = .ok (.putfield 54, 3) := by decide +kernel
theorem dX3_copyFrom_120 : decode cX3_copyFrom 120 = .ok (.aload_n 0, 1) := by decide +kernel
theorem dX3_copyFrom_121 : decode cX3_copyFrom 121 = .ok (.aload_n 1, 1) := by decide +kernel
theorem dX3_copyFrom_122 : decode cX3_copyFrom 122 = .ok (.getfield 60, 3) := by decide +kernel
theorem dX3_copyFrom_125 : decode cX3_copyFrom 125 = .ok (.putfield 60, 3) := by decide +kernel
theorem dX3_copyFrom_128 : decode cX3_copyFrom 128 = .ok (.aload_n 0, 1) := by decide +kernel
theorem dX3_copyFrom_129 : decode cX3_copyFrom 129 = .ok (.aload_n 1, 1) := by decide +kernel
theorem dX3_copyFrom_130 : decode cX3_copyFrom 130 = .ok (.getfield 36, 3) := by decide +kernel
theorem dX3_copyFrom_133 : decode cX3_copyFrom 133 = .ok (.putfield 36, 3) := by decide +kernel
theorem dX3_copyFrom_136 : decode cX3_copyFrom 136 = .ok (.aload_n 0, 1) := by decide +kernel
theorem dX3_copyFrom_137 : decode cX3_copyFrom 137 = .ok (.aload_n 1, 1) := by decide +kernel
theorem dX3_copyFrom_138 : decode cX3_copyFrom 138 = .ok (.getfield 40, 3) := by decide +kernel
theorem dX3_copyFrom_141 : decode cX3_copyFrom 141 = .ok (.putfield 40, 3) := by decide +kernel
theorem dX3_copyFrom_144 : decode cX3_copyFrom 144 = .ok (.aload_n 0, 1) := by decide +kernel
theorem dX3_copyFrom_145 : decode cX3_copyFrom 145 = .ok (.aload_n 1, 1) := by decide +kernel
theorem dX3_copyFrom_146 : decode cX3_copyFrom 146 = .ok (.getfield 69, 3) := by decide +kernel
theorem dX3_copyFrom_149 : decode cX3_copyFrom 149 = .ok (.putfield 69, 3) := by decide +kernel
theorem dX3_copyFrom_152 : decode cX3_copyFrom 152 = .ok (.aload_n 0, 1) := by decide +kernel
theorem dX3_copyFrom_153 : decode cX3_copyFrom 153 = .ok (.aload_n 1, 1) := by decide +kernel
theorem dX3_copyFrom_154 : decode cX3_copyFrom 154 = .ok (.getfield 72, 3) := by decide +kernel
theorem dX3_copyFrom_157 : decode cX3_copyFrom 157 = .ok (.putfield 72, 3) := by decide +kernel
theorem dX3_copyFrom_160 : decode cX3_copyFrom 160 = .ok (.aload_n 0, 1) := by decide +kernel
theorem dX3_copyFrom_161 : decode cX3_copyFrom 161 = .ok (.aload_n 1, 1) := by decide +kernel
theorem dX3_copyFrom_162 : decode cX3_copyFrom 162 = .ok (.getfield 75, 3) := by decide +kernel
theorem dX3_copyFrom_165 : decode cX3_copyFrom 165 = .ok (.putfield 75, 3) := by decide +kernel
theorem dX3_copyFrom_168 : decode cX3_copyFrom 168 = .ok (.return_, 1) := by decide +kernel
theorem dX3_hasLock_0 : decode cX3_hasLock 0 = .ok (.iload_n 1, 1) := by decide +kernel
theorem dX3_hasLock_1 : decode cX3_hasLock 1 = .ok (.ifCond .lt 15, 3) := by decide +kernel
theorem dX3_hasLock_16 : decode cX3_hasLock 16 = .ok (.iconst 0, 1) := by decide +kernel
theorem dX3_hasLock_17 : decode cX3_hasLock 17 = .ok (.ireturn, 1) := by decide +kernel
theorem dX3_hasThing_0 : decode cX3_hasThing 0 = .ok (.iload_n 1, 1) := by decide +kernel
theorem dX3_hasThing_1 : decode cX3_hasThing 1 = .ok (.ifCond .lt 15, 3) := by decide +kernel
theorem dX3_hasThing_16 : decode cX3_hasThing 16 = .ok (.iconst 0, 1) := by decide +kernel
theorem dX3_hasThing_17 : decode cX3_hasThing 17 = .ok (.ireturn, 1) := by decide +kernel
set_option maxRecDepth 20000 in
theorem ggX3_addPlayer_X2_come : GoodIn wsX3_addPlayer wsX2_come := goodIn_r _ [7, 8, 9, 10, 11, 12, 6, 13, 14, 15, 28, 29, 30, 31] (by decide +kernel) (by decide +kernel)
set_option maxRecDepth 20000 in
theorem gX3_addPlayer_X2_come : GoodIn wsX3_addPlayer (wsV RX3 96 RX2 yX2_come wsX2_come) := goodIn_app (goodIn_of _ (by decide +kernel)) ggX3_addPlayer_X2_come
theorem dX3_addPlayer_0 : decode cX3_addPlayer 0 = .ok (.aload_n 0, 1) := by decide +kernel
theorem dX3_addPlayer_1 : decode cX3_addPlayer 1 = .ok (.getfield 60, 3) := by decide +kernel
theorem dX3_addPlayer_4 : decode cX3_addPlayer 4 = .ok (.istore_n 2, 1) := by decide +kernel
theorem dX3_addPlayer_5 : decode cX3_addPlayer 5 = .ok (.iload_n 2, 1) := by decide +kernel
theorem dX3_addPlayer_6 : decode cX3_addPlayer 6 = .ok (.bipush 6, 2) := by decide +kernel
theorem dX3_addPlayer_8 : decode cX3_addPlayer 8 = .ok (.if_icmp .lt 5, 3) := by decide +kernel
theorem dX3_addPlayer_13 : decode cX3_addPlayer 13 = .ok (.aload_n 0, 1) := by decide +kernel
theorem dX3_addPlayer_14 : decode cX3_addPlayer 14 = .ok (.getfield 25, 3) := by decide +kernel
theorem dX3_addPlayer_17 : decode cX3_addPlayer 17 = .ok (.iload_n 2, 1) := by decide +kernel
theorem dX3_addPlayer_18 : decode cX3_addPlayer 18 = .ok (.aaload, 1) := by decide +kernel
theorem dX3_addPlayer_19 : decode cX3_addPlayer 19 = .ok (.iload_n 1, 1) := by decide +kernel
theorem dX3_addPlayer_20 : decode cX3_addPlayer 20 = .ok (.invokevirtual 96, 3) := by decide +kernel
theorem dX3_addPlayer_23 : decode cX3_addPlayer 23 = .ok (.aload_n 0, 1) := by decide +kernel
theorem dX3_addPlayer_24 : decode cX3_addPlayer 24 = .ok (.dup, 1) := by decide +kernel
theorem dX3_addPlayer_25 : decode cX3_addPlayer 25 = .ok (.getfield 60, 3) := by decide +kernel
theorem dX3_addPlayer_28 : decode cX3_addPlayer 28 = .ok (.iconst 1, 1) := by decide +kernel
theorem dX3_addPlayer_29 : decode cX3_addPlayer 29 = .ok (.iadd, 1) := by decide +kernel
theorem dX3_addPlayer_30 : decode cX3_addPlayer 30 = .ok (.putfield 60, 3) := by decide +kernel
theorem dX3_addPlayer_33 : decode cX3_addPlayer 33 = .ok (.iload_n 2, 1) := by decide +kernel
theorem dX3_addPlayer_34 : decode cX3_addPlayer 34 = .ok (.ireturn, 1) := by decide +kernel
theorem dX3_openLocks_0 : decode cX3_openLocks 0 = .ok (.iconst 0, 1) := by decide +kernel
theorem dX3_openLocks_1 : decode cX3_openLocks 1 = .ok (.istore_n 1, 1) := by decide +kernel
theorem dX3_openLocks_2 : decode cX3_openLocks 2 = .ok (.iconst 0, 1) := by decide +kernel
theorem dX3_openLocks_3 : decode cX3_openLocks 3 = .ok (.istore_n 2, 1) := by decide +kernel
theorem dX3_openLocks_4 : decode cX3_openLocks 4 = .ok (.iload_n 2, 1) := by decide +kernel
theorem dX3_openLocks_5 : decode cX3_openLocks 5 = .ok (.aload_n 0, 1) := by decide +kernel
theorem dX3_openLocks_6 : decode cX3_openLocks 6 = .ok (.getfield 47, 3) := by decide +kernel
theorem dX3_openLocks_9 : decode cX3_openLocks 9 = .ok (.if_icmp .ge 27, 3) := by decide +kernel
theorem dX3_openLocks_36 : decode cX3_openLocks 36 = .ok (.iload_n 1, 1) := by decide +kernel
theorem dX3_openLocks_37 : decode cX3_openLocks 37 = .ok (.ireturn, 1) := by decide +kernel
theorem dX3_thingsIn_0 : decode cX3_thingsIn 0 = .ok (.iconst 0, 1) := by decide +kernel
theorem dX3_thingsIn_1 : decode cX3_thingsIn 1 = .ok (.istore_n 2, 1) := by decide +kernel
theorem dX3_thingsIn_2 : decode cX3_thingsIn 2 = .ok (.iconst 0, 1) := by decide +kernel
theorem dX3_thingsIn_3 : decode cX3_thingsIn 3 = .ok (.istore_n 3, 1) := by decide +kernel
theorem dX3_thingsIn_4 : decode cX3_thingsIn 4 = .ok (.iload_n 3, 1) := by decide +kernel
theorem dX3_thingsIn_5 : decode cX3_thingsIn 5 = .ok (.aload_n 0, 1) := by decide +kernel
theorem dX3_thingsIn_6 : decode cX3_thingsIn 6 = .ok (.getfield 54, 3) := by decide +kernel
theorem dX3_thingsIn_9 : decode cX3_thingsIn 9 = .ok (.if_icmp .ge 28, 3) := by decide +kernel
theorem dX3_thingsIn_37 : decode cX3_thingsIn 37 = .ok (.iload_n 2, 1) := by decide +kernel
theorem dX3_thingsIn_38 : decode cX3_thingsIn 38 = .ok (.ireturn, 1) := by decide +kernel
set_option maxRecDepth 20000 in
theorem ggX3_isExitOpen_X3_openLocks : GoodIn wsX3_isExitOpen wsX3_openLocks := goodIn_r _ [6, 7, 8, 9, 13, 14, 15, 16, 17, 18, 19, 20, 21, 22, 23, 24, 25, 26, 27, 28, 29, 30, 31, 32, 33, 34] (by decide +kernel) (by decide +kernel)
set_option maxRecDepth 20000 in
theorem gX3_isExitOpen_X3_openLocks : GoodIn wsX3_isExitOpen (wsV RX3 118 RX3 yX3_openLocks wsX3_openLocks) := goodIn_app (goodIn_of _ (by decide +kernel)) ggX3_isExitOpen_X3_openLocks
set_option maxRecDepth 20000 in
theorem ggX3_isExitOpen_X6_isIn : GoodIn wsX3_isExitOpen wsX6_isIn := goodIn_r _ [12] (by decide +kernel) (by decide +kernel)
set_option maxRecDepth 20000 in
theorem gX3_isExitOpen_X6_isIn_n111 : GoodIn wsX3_isExitOpen (wsX6_isIn) := ggX3_isExitOpen_X6_isIn
theorem dX3_isExitOpen_0 : decode cX3_isExitOpen 0 = .ok (.aload_n 0, 1) := by decide +kernel
theorem dX3_isExitOpen_1 : decode cX3_isExitOpen 1 = .ok (.invokevirtual 118, 3) := by decide +kernel
theorem dX3_isExitOpen_4 : decode cX3_isExitOpen 4 = .ok (.aload_n 0, 1) := by decide +kernel
theorem dX3_isExitOpen_5 : decode cX3_isExitOpen 5 = .ok (.getfield 36, 3) := by decide +kernel
theorem dX3_isExitOpen_8 : decode cX3_isExitOpen 8 = .ok (.invokestatic 111, 3) := by decide +kernel
theorem dX3_isExitOpen_11 : decode cX3_isExitOpen 11 = .ok (.ireturn, 1) := by decide +kernel
set_option maxRecDepth 20000 in
theorem ggX3_startGame_X0_start : GoodIn wsX3_startGame wsX0_start := goodIn_r _ [8, 9, 10, 11, 24, 25, 26, 27, 28, 29, 30] (by decide +kernel) (by decide +kernel)
set_option maxRecDepth 20000 in
theorem gX3_startGame_X0_start : GoodIn wsX3_startGame (wsV RX3 125 RX0 yX0_start wsX0_start) := goodIn_app (goodIn_of _ (by decide +kernel)) ggX3_startGame_X0_start
theorem dX3_startGame_0 : decode cX3_startGame 0 = .ok (.aload_n 0, 1) := by decide +kernel
theorem dX3_startGame_1 : decode cX3_startGame 1 = .ok (.getfield 32, 3) := by decide +kernel
theorem dX3_startGame_4 : decode cX3_startGame 4 = .ok (.invokevirtual 125, 3) := by decide +kernel
theorem dX3_startGame_7 : decode cX3_startGame 7 = .ok (.aload_n 0, 1) := by decide +kernel
theorem dX3_startGame_8 : decode cX3_startGame 8 = .ok (.dup, 1) := by decide +kernel
theorem dX3_startGame_9 : decode cX3_startGame 9 = .ok (.getfield 72, 3) := by decide +kernel
theorem dX3_startGame_12 : decode cX3_startGame 12 = .ok (.bipush 18, 2) := by decide +kernel
theorem dX3_startGame_14 : decode cX3_startGame 14 = .ok (.aload_n 0, 1) := by decide +kernel
theorem dX3_startGame_15 : decode cX3_startGame 15 = .ok (.getfield 60, 3) := by decide +kernel
theorem dX3_startGame_18 : decode cX3_startGame 18 = .ok (.imul, 1) := by decide +kernel
theorem dX3_startGame_19 : decode cX3_startGame 19 = .ok (.iadd, 1) := by decide +kernel
theorem dX3_startGame_20 : decode cX3_startGame 20 = .ok (.putfield 72, 3) := by decide +kernel
theorem dX3_startGame_23 : decode cX3_startGame 23 = .ok (.return_, 1) := by decide +kernel
set_option maxRecDepth 20000 in
theorem ggX3_loseGame_X0_endLost : GoodIn wsX3_loseGame wsX0_endLost := goodIn_r _ [7, 8, 9, 22, 23, 24, 25, 26, 27, 28] (by decide +kernel) (by decide +kernel)
set_option maxRecDepth 20000 in
theorem gX3_loseGame_X0_endLost : GoodIn wsX3_loseGame (wsV RX3 131 RX0 yX0_endLost wsX0_endLost) := goodIn_app (goodIn_of _ (by decide +kernel)) ggX3_loseGame_X0_endLost
theorem dX3_loseGame_0 : decode cX3_loseGame 0 = .ok (.aload_n 0, 1) := by decide +kernel
theorem dX3_loseGame_1 : decode cX3_loseGame 1 = .ok (.getfield 32, 3) := by decide +kernel
theorem dX3_loseGame_4 : decode cX3_loseGame 4 = .ok (.invokevirtual 131, 3) := by decide +kernel
theorem dX3_loseGame_7 : decode cX3_loseGame 7 = .ok (.aload_n 0, 1) := by decide +kernel
theorem dX3_loseGame_8 : decode cX3_loseGame 8 = .ok (.iconst 0, 1) := by decide +kernel
theorem dX3_loseGame_9 : decode cX3_loseGame 9 = .ok (.putfield 60, 3) := by decide +kernel
theorem dX3_loseGame_12 : decode cX3_loseGame 12 = .ok (.return_, 1) := by decide +kernel
set_option maxRecDepth 20000 in
theorem ggX3_letMinuteGoBy_X3_forgetLastMinute : GoodIn wsX3_letMinuteGoBy wsX3_forgetLastMinute := goodIn_r _ [11, 12, 13, 14, 15, 16, 17, 5, 6, 18, 19, 20, 21, 22, 23, 24, 127, 128, 129, 130, 131, 132, 133, 134, 135, 136, 137, 138, 146, 147, 148, 149, 150, 151, 152, 153, 154, 155, 156, 157, 158, 159, 160, 161, 162, 163, 164] (by decide +kernel) (by decide +kernel)
set_option maxRecDepth 20000 in
theorem gX3_letMinuteGoBy_X3_forgetLastMinute : GoodIn wsX3_letMinuteGoBy (wsV RX3 140 RX3 yX3_forgetLastMinute wsX3_forgetLastMinute) := goodIn_app (goodIn_of _ (by decide +kernel)) ggX3_letMinuteGoBy_X3_forgetLastMinute
set_option maxRecDepth 20000 in
theorem ggX3_letMinuteGoBy_X3_takeTurn : GoodIn wsX3_letMinuteGoBy wsX3_takeTurn := goodIn_r _ [28, 29, 13, 30, 31, 16, 32, 33, 34, 35, 36, 10, 37, 12, 14, 38, 39, 40, 41, 15, 42, 43, 44, 45, 46, 47, 48, 49, 50, 51, 52, 53, 54, 55, 56, 57, 58, 59, 60, 61, 62, 63, 64, 65, 66, 67, 68, 69, 70, 71, 72, 73, 74, 75, 76, 77, 78, 2, 5, 79, 80, 81, 82, 83, 84, 85, 86, 87, 88, 89, 90, 91, 92, 93, 17, 94, 95, 96, 97, 98, 99, 100, 101, 102, 103, 104, 105, 106, 107, 108, 109, 110, 111, 112, 113, 114, 115, 161, 162, 163, 164, 127, 128, 129, 130, 131, 132, 133, 134, 135, 136, 137, 138, 146, 147, 148, 149, 150, 151, 152, 153, 154, 155, 156, 157, 158, 159, 160, 139, 140, 141, 142, 143, 144, 145] (by decide +kernel) (by decide +kernel)
set_option maxRecDepth 20000 in
theorem gX3_letMinuteGoBy_X3_takeTurn : GoodIn wsX3_letMinuteGoBy (wsV RX3 143 RX3 yX3_takeTurn wsX3_takeTurn) := goodIn_app (goodIn_of _ (by decide +kernel)) ggX3_letMinuteGoBy_X3_takeTurn
set_option maxRecDepth 20000 in
theorem ggX3_letMinuteGoBy_X6_oneIf : GoodIn wsX3_letMinuteGoBy wsX6_oneIf := goodIn_r _ [117] (by decide +kernel) (by decide +kernel)
set_option maxRecDepth 20000 in
theorem gX3_letMinuteGoBy_X6_oneIf_n147 : GoodIn wsX3_letMinuteGoBy (wsX6_oneIf) := ggX3_letMinuteGoBy_X6_oneIf
set_option maxRecDepth 20000 in
theorem ggX3_letMinuteGoBy_X3_loseGame : GoodIn wsX3_letMinuteGoBy wsX3_loseGame := goodIn_r _ [121, 2, 5, 122, 123, 124, 82, 125, 84, 126, 127, 128, 129, 130, 131, 132, 133, 134, 135, 136, 137, 138, 139, 140, 141, 142, 143, 144, 145] (by decide +kernel) (by decide +kernel)
set_option maxRecDepth 20000 in
theorem gX3_letMinuteGoBy_X3_loseGame : GoodIn wsX3_letMinuteGoBy (wsV RX3 151 RX3 yX3_loseGame wsX3_loseGame) := goodIn_app (goodIn_of _ (by decide +kernel)) ggX3_letMinuteGoBy_X3_loseGame
theorem dX3_letMinuteGoBy_0 : decode cX3_letMinuteGoBy 0 = .ok (.aload_n 0, 1) := by decide +kernel
theorem dX3_letMinuteGoBy_1 : decode cX3_letMinuteGoBy 1 = .ok (.dup, 1) := by decide +kernel
theorem dX3_letMinuteGoBy_2 : decode cX3_letMinuteGoBy 2 = .ok (.getfield 69, 3) := by decide +kernel
theorem dX3_letMinuteGoBy_5 : decode cX3_letMinuteGoBy 5 = .ok (.iconst 1, 1) := by decide +kernel
theorem dX3_letMinuteGoBy_6 : decode cX3_letMinuteGoBy 6 = .ok (.iadd, 1) := by decide +kernel
theorem dX3_letMinuteGoBy_7 : decode cX3_letMinuteGoBy 7 = .ok (.putfield 69, 3) := by decide +kernel
theorem dX3_letMinuteGoBy_10 : decode cX3_letMinuteGoBy 10 = .ok (.aload_n 0, 1) := by decide +kernel
theorem dX3_letMinuteGoBy_11 : decode cX3_letMinuteGoBy 11 = .ok (.getfield 32, 3) := by decide +kernel
theorem dX3_letMinuteGoBy_14 : decode cX3_letMinuteGoBy 14 = .ok (.getfield 134, 3) := by decide +kernel
theorem dX3_letMinuteGoBy_17 : decode cX3_letMinuteGoBy 17 = .ok (.ifCond .ne 5, 3) := by decide +kernel
theorem dX3_letMinuteGoBy_22 : decode cX3_letMinuteGoBy 22 = .ok (.aload_n 0, 1) := by decide +kernel
theorem dX3_letMinuteGoBy_23 : decode cX3_letMinuteGoBy 23 = .ok (.getfield 32, 3) := by decide +kernel
theorem dX3_letMinuteGoBy_26 : decode cX3_letMinuteGoBy 26 = .ok (.dup, 1) := by decide +kernel
theorem dX3_letMinuteGoBy_27 : decode cX3_letMinuteGoBy 27 = .ok (.getfield 137, 3) := by decide +kernel
theorem dX3_letMinuteGoBy_30 : decode cX3_letMinuteGoBy 30 = .ok (.iconst 1, 1) := by decide +kernel
theorem dX3_letMinuteGoBy_31 : decode cX3_letMinuteGoBy 31 = .ok (.iadd, 1) := by decide +kernel
theorem dX3_letMinuteGoBy_32 : decode cX3_letMinuteGoBy 32 = .ok (.putfield 137, 3) := by decide +kernel
theorem dX3_letMinuteGoBy_35 : decode cX3_letMinuteGoBy 35 = .ok (.aload_n 0, 1) := by decide +kernel
theorem dX3_letMinuteGoBy_36 : decode cX3_letMinuteGoBy 36 = .ok (.invokevirtual 140, 3) := by decide +kernel
theorem dX3_letMinuteGoBy_39 : decode cX3_letMinuteGoBy 39 = .ok (.iconst 0, 1) := by decide +kernel
theorem dX3_letMinuteGoBy_40 : decode cX3_letMinuteGoBy 40 = .ok (.istore_n 1, 1) := by decide +kernel
theorem dX3_letMinuteGoBy_41 : decode cX3_letMinuteGoBy 41 = .ok (.iconst 0, 1) := by decide +kernel
theorem dX3_letMinuteGoBy_42 : decode cX3_letMinuteGoBy 42 = .ok (.istore_n 2, 1) := by decide +kernel
theorem dX3_letMinuteGoBy_43 : decode cX3_letMinuteGoBy 43 = .ok (.iload_n 2, 1) := by decide +kernel
theorem dX3_letMinuteGoBy_44 : decode cX3_letMinuteGoBy 44 = .ok (.aload_n 0, 1) := by decide +kernel
theorem dX3_letMinuteGoBy_45 : decode cX3_letMinuteGoBy 45 = .ok (.getfield 60, 3) := by decide +kernel
theorem dX3_letMinuteGoBy_48 : decode cX3_letMinuteGoBy 48 = .ok (.if_icmp .ge 25, 3) := by decide +kernel
theorem dX3_letMinuteGoBy_51 : decode cX3_letMinuteGoBy 51 = .ok (.iload_n 1, 1) := by decide +kernel
theorem dX3_letMinuteGoBy_52 : decode cX3_letMinuteGoBy 52 = .ok (.aload_n 0, 1) := by decide +kernel
theorem dX3_letMinuteGoBy_53 : decode cX3_letMinuteGoBy 53 = .ok (.aload_n 0, 1) := by decide +kernel
theorem dX3_letMinuteGoBy_54 : decode cX3_letMinuteGoBy 54 = .ok (.getfield 25, 3) := by decide +kernel
theorem dX3_letMinuteGoBy_57 : decode cX3_letMinuteGoBy 57 = .ok (.iload_n 2, 1) := by decide +kernel
theorem dX3_letMinuteGoBy_58 : decode cX3_letMinuteGoBy 58 = .ok (.aaload, 1) := by decide +kernel
theorem dX3_letMinuteGoBy_59 : decode cX3_letMinuteGoBy 59 = .ok (.invokevirtual 143, 3) := by decide +kernel
theorem dX3_letMinuteGoBy_62 : decode cX3_letMinuteGoBy 62 = .ok (.invokestatic 147, 3) := by decide +kernel
theorem dX3_letMinuteGoBy_65 : decode cX3_letMinuteGoBy 65 = .ok (.iadd, 1) := by decide +kernel
theorem dX3_letMinuteGoBy_66 : decode cX3_letMinuteGoBy 66 = .ok (.istore_n 1, 1) := by decide +kernel
theorem dX3_letMinuteGoBy_67 : decode cX3_letMinuteGoBy 67 = .ok (.iinc 2 1, 3) := by decide +kernel
theorem dX3_letMinuteGoBy_70 : decode cX3_letMinuteGoBy 70 = .ok (.goto (-27), 3) := by decide +kernel
theorem dX3_letMinuteGoBy_73 : decode cX3_letMinuteGoBy 73 = .ok (.aload_n 0, 1) := by decide +kernel
theorem dX3_letMinuteGoBy_74 : decode cX3_letMinuteGoBy 74 = .ok (.getfield 32, 3) := by decide +kernel
theorem dX3_letMinuteGoBy_77 : decode cX3_letMinuteGoBy 77 = .ok (.getfield 134, 3) := by decide +kernel
theorem dX3_letMinuteGoBy_80 : decode cX3_letMinuteGoBy 80 = .ok (.ifCond .eq 19, 3) := by decide +kernel
theorem dX3_letMinuteGoBy_83 : decode cX3_letMinuteGoBy 83 = .ok (.aload_n 0, 1) := by decide +kernel
theorem dX3_letMinuteGoBy_84 : decode cX3_letMinuteGoBy 84 = .ok (.getfield 32, 3) := by decide +kernel
theorem dX3_letMinuteGoBy_87 : decode cX3_letMinuteGoBy 87 = .ok (.getfield 137, 3) := by decide +kernel
theorem dX3_letMinuteGoBy_90 : decode cX3_letMinuteGoBy 90 = .ok (.bipush 60, 2) := by decide +kernel
theorem dX3_letMinuteGoBy_92 : decode cX3_letMinuteGoBy 92 = .ok (.if_icmp .lt 7, 3) := by decide +kernel
theorem dX3_letMinuteGoBy_95 : decode cX3_letMinuteGoBy 95 = .ok (.aload_n 0, 1) := by decide +kernel
theorem dX3_letMinuteGoBy_96 : decode cX3_letMinuteGoBy 96 = .ok (.invokevirtual 151, 3) := by decide +kernel
theorem dX3_letMinuteGoBy_99 : decode cX3_letMinuteGoBy 99 = .ok (.iload_n 1, 1) := by decide +kernel
theorem dX3_letMinuteGoBy_100 : decode cX3_letMinuteGoBy 100 = .ok (.ireturn, 1) := by decide +kernel
set_option maxRecDepth 20000 in
theorem ggX3_forgetLastMinute_X2_rest : GoodIn wsX3_forgetLastMinute wsX2_rest := goodIn_r _ [13, 14, 15, 43, 44, 45, 46] (by decide +kernel) (by decide +kernel)
set_option maxRecDepth 20000 in
theorem gX3_forgetLastMinute_X2_rest : GoodIn wsX3_forgetLastMinute (wsV RX3 160 RX2 yX2_rest wsX2_rest) := goodIn_app (goodIn_of _ (by decide +kernel)) ggX3_forgetLastMinute_X2_rest
theorem dX3_forgetLastMinute_0 : decode cX3_forgetLastMinute 0 = .ok (.iconst 0, 1) := by decide +kernel
theorem dX3_forgetLastMinute_1 : decode cX3_forgetLastMinute 1 = .ok (.istore_n 1, 1) := by decide +kernel
theorem dX3_forgetLastMinute_2 : decode cX3_forgetLastMinute 2 = .ok (.iload_n 1, 1) := by decide +kernel
theorem dX3_forgetLastMinute_3 : decode cX3_forgetLastMinute 3 = .ok (.aload_n 0, 1) := by decide +kernel
theorem dX3_forgetLastMinute_4 : decode cX3_forgetLastMinute 4 = .ok (.getfield 47, 3) := by decide +kernel
theorem dX3_forgetLastMinute_7 : decode cX3_forgetLastMinute 7 = .ok (.if_icmp .ge 19, 3) := by decide +kernel
theorem dX3_forgetLastMinute_26 : decode cX3_forgetLastMinute 26 = .ok (.iconst 0, 1) := by decide +kernel
theorem dX3_forgetLastMinute_27 : decode cX3_forgetLastMinute 27 = .ok (.istore_n 1, 1) := by decide +kernel
theorem dX3_forgetLastMinute_28 : decode cX3_forgetLastMinute 28 = .ok (.iload_n 1, 1) := by decide +kernel
theorem dX3_forgetLastMinute_29 : decode cX3_forgetLastMinute 29 = .ok (.aload_n 0, 1) := by decide +kernel
theorem dX3_forgetLastMinute_30 : decode cX3_forgetLastMinute 30 = .ok (.getfield 54, 3) := by decide +kernel
theorem dX3_forgetLastMinute_33 : decode cX3_forgetLastMinute 33 = .ok (.if_icmp .ge 19, 3) := by decide +kernel
theorem dX3_forgetLastMinute_52 : decode cX3_forgetLastMinute 52 = .ok (.iconst 0, 1) := by decide +kernel
theorem dX3_forgetLastMinute_53 : decode cX3_forgetLastMinute 53 = .ok (.istore_n 1, 1) := by decide +kernel
theorem dX3_forgetLastMinute_54 : decode cX3_forgetLastMinute 54 = .ok (.iload_n 1, 1) := by decide +kernel
theorem dX3_forgetLastMinute_55 : decode cX3_forgetLastMinute 55 = .ok (.aload_n 0, 1) := by decide +kernel
theorem dX3_forgetLastMinute_56 : decode cX3_forgetLastMinute 56 = .ok (.getfield 60, 3) := by decide +kernel
theorem dX3_forgetLastMinute_59 : decode cX3_forgetLastMinute 59 = .ok (.if_icmp .ge 18, 3) := by decide +kernel
theorem dX3_forgetLastMinute_62 : decode cX3_forgetLastMinute 62 = .ok (.aload_n 0, 1) := by decide +kernel
theorem dX3_forgetLastMinute_63 : decode cX3_forgetLastMinute 63 = .ok (.getfield 25, 3) := by decide +kernel
theorem dX3_forgetLastMinute_66 : decode cX3_forgetLastMinute 66 = .ok (.iload_n 1, 1) := by decide +kernel
theorem dX3_forgetLastMinute_67 : decode cX3_forgetLastMinute 67 = .ok (.aaload, 1) := by decide +kernel
theorem dX3_forgetLastMinute_68 : decode cX3_forgetLastMinute 68 = .ok (.invokevirtual 160, 3) := by decide +kernel
theorem dX3_forgetLastMinute_71 : decode cX3_forgetLastMinute 71 = .ok (.iinc 1 1, 3) := by decide +kernel
theorem dX3_forgetLastMinute_74 : decode cX3_forgetLastMinute 74 = .ok (.goto (-20), 3) := by decide +kernel
theorem dX3_forgetLastMinute_77 : decode cX3_forgetLastMinute 77 = .ok (.return_, 1) := by decide +kernel
set_option maxRecDepth 20000 in
theorem ggX3_takeTurn_X3_findWork : GoodIn wsX3_takeTurn wsX3_findWork := goodIn_r _ [12, 13, 2, 14, 15, 16, 17, 11, 18, 19, 5, 20, 21, 22, 23, 24, 25, 26, 27, 28, 101, 102, 103, 104, 105, 106, 107, 108, 109, 110, 111, 112, 113, 114, 115, 116, 117, 118, 119, 120, 121, 122, 123, 124, 125, 126, 127] (by decide +kernel) (by decide +kernel)
set_option maxRecDepth 20000 in
theorem gX3_takeTurn_X3_findWork : GoodIn wsX3_takeTurn (wsV RX3 163 RX3 yX3_findWork wsX3_findWork) := goodIn_app (goodIn_of _ (by decide +kernel)) ggX3_takeTurn_X3_findWork
set_option maxRecDepth 20000 in
theorem ggX3_takeTurn_X3_hasLock : GoodIn wsX3_takeTurn wsX3_hasLock := goodIn_r _ [32, 13, 101, 102, 103, 104, 105, 106, 107, 108, 109, 110, 111, 112] (by decide +kernel) (by decide +kernel)
set_option maxRecDepth 20000 in
theorem gX3_takeTurn_X3_hasLock : GoodIn wsX3_takeTurn (wsV RX3 166 RX3 yX3_hasLock wsX3_hasLock) := goodIn_app (goodIn_of _ (by decide +kernel)) ggX3_takeTurn_X3_hasLock
set_option maxRecDepth 20000 in
theorem ggX3_takeTurn_X3_findSearch : GoodIn wsX3_takeTurn wsX3_findSearch := goodIn_r _ [73, 19, 5, 74, 75, 76, 77, 11, 78, 13, 2, 79, 80, 81, 82, 83, 84, 85, 86, 101, 102, 103, 104, 105, 106, 107, 108, 109, 110, 111, 112, 123, 124, 125, 126, 127, 113, 114, 115, 116, 117, 118, 119, 120, 121, 122] (by decide +kernel) (by decide +kernel)
set_option maxRecDepth 20000 in
theorem gX3_takeTurn_X3_findSearch : GoodIn wsX3_takeTurn (wsV RX3 179 RX3 yX3_findSearch wsX3_findSearch) := goodIn_app (goodIn_of _ (by decide +kernel)) ggX3_takeTurn_X3_findSearch
set_option maxRecDepth 20000 in
theorem ggX3_takeTurn_X3_hasThing : GoodIn wsX3_takeTurn wsX3_hasThing := goodIn_r _ [90, 19, 101, 102, 103, 104, 105, 106, 107, 108, 109, 110, 111, 112] (by decide +kernel) (by decide +kernel)
set_option maxRecDepth 20000 in
theorem gX3_takeTurn_X3_hasThing : GoodIn wsX3_takeTurn (wsV RX3 182 RX3 yX3_hasThing wsX3_hasThing) := goodIn_app (goodIn_of _ (by decide +kernel)) ggX3_takeTurn_X3_hasThing
theorem dX3_takeTurn_0 : decode cX3_takeTurn 0 = .ok (.aload_n 0, 1) := by decide +kernel
theorem dX3_takeTurn_1 : decode cX3_takeTurn 1 = .ok (.invokevirtual 163, 3) := by decide +kernel
theorem dX3_takeTurn_4 : decode cX3_takeTurn 4 = .ok (.istore_n 2, 1) := by decide +kernel
theorem dX3_takeTurn_5 : decode cX3_takeTurn 5 = .ok (.aload_n 0, 1) := by decide +kernel
theorem dX3_takeTurn_6 : decode cX3_takeTurn 6 = .ok (.iload_n 2, 1) := by decide +kernel
theorem dX3_takeTurn_7 : decode cX3_takeTurn 7 = .ok (.invokevirtual 166, 3) := by decide +kernel
theorem dX3_takeTurn_10 : decode cX3_takeTurn 10 = .ok (.ifCond .eq 24, 3) := by decide +kernel
theorem dX3_takeTurn_34 : decode cX3_takeTurn 34 = .ok (.aload_n 0, 1) := by decide +kernel
theorem dX3_takeTurn_35 : decode cX3_takeTurn 35 = .ok (.invokevirtual 179, 3) := by decide +kernel
theorem dX3_takeTurn_38 : decode cX3_takeTurn 38 = .ok (.istore_n 3, 1) := by decide +kernel
theorem dX3_takeTurn_39 : decode cX3_takeTurn 39 = .ok (.aload_n 0, 1) := by decide +kernel
theorem dX3_takeTurn_40 : decode cX3_takeTurn 40 = .ok (.iload_n 3, 1) := by decide +kernel
theorem dX3_takeTurn_41 : decode cX3_takeTurn 41 = .ok (.invokevirtual 182, 3) := by decide +kernel
theorem dX3_takeTurn_44 : decode cX3_takeTurn 44 = .ok (.ifCond .eq 25, 3) := by decide +kernel
theorem dX3_takeTurn_69 : decode cX3_takeTurn 69 = .ok (.aload_n 1, 1) := by decide +kernel
theorem dX3_takeTurn_70 : decode cX3_takeTurn 70 = .ok (.dup, 1) := by decide +kernel
theorem dX3_takeTurn_71 : decode cX3_takeTurn 71 = .ok (.getfield 192, 3) := by decide +kernel
theorem dX3_takeTurn_74 : decode cX3_takeTurn 74 = .ok (.iconst 1, 1) := by decide +kernel
theorem dX3_takeTurn_75 : decode cX3_takeTurn 75 = .ok (.iadd, 1) := by decide +kernel
theorem dX3_takeTurn_76 : decode cX3_takeTurn 76 = .ok (.putfield 192, 3) := by decide +kernel
theorem dX3_takeTurn_79 : decode cX3_takeTurn 79 = .ok (.aload_n 0, 1) := by decide +kernel
theorem dX3_takeTurn_80 : decode cX3_takeTurn 80 = .ok (.dup, 1) := by decide +kernel
theorem dX3_takeTurn_81 : decode cX3_takeTurn 81 = .ok (.getfield 75, 3) := by decide +kernel
theorem dX3_takeTurn_84 : decode cX3_takeTurn 84 = .ok (.iconst 1, 1) := by decide +kernel
theorem dX3_takeTurn_85 : decode cX3_takeTurn 85 = .ok (.iadd, 1) := by decide +kernel
theorem dX3_takeTurn_86 : decode cX3_takeTurn 86 = .ok (.putfield 75, 3) := by decide +kernel
theorem dX3_takeTurn_89 : decode cX3_takeTurn 89 = .ok (.iconst 0, 1) := by decide +kernel
theorem dX3_takeTurn_90 : decode cX3_takeTurn 90 = .ok (.ireturn, 1) := by decide +kernel
set_option maxRecDepth 20000 in
theorem ggX3_findWork_X3_thingsIn : GoodIn wsX3_findWork wsX3_thingsIn := goodIn_r _ [8, 9, 10, 11, 20, 21, 22, 23, 24, 25, 26, 27, 28, 29, 30, 31, 42, 43, 44, 45, 46] (by decide +kernel) (by decide +kernel)
set_option maxRecDepth 20000 in
theorem gX3_findWork_X3_thingsIn : GoodIn wsX3_findWork (wsV RX3 103 RX3 yX3_thingsIn wsX3_thingsIn) := goodIn_app (goodIn_of _ (by decide +kernel)) ggX3_findWork_X3_thingsIn
theorem dX3_findWork_0 : decode cX3_findWork 0 = .ok (.aload_n 0, 1) := by decide +kernel
theorem dX3_findWork_1 : decode cX3_findWork 1 = .ok (.iconst 1, 1) := by decide +kernel
theorem dX3_findWork_2 : decode cX3_findWork 2 = .ok (.invokevirtual 103, 3) := by decide +kernel
theorem dX3_findWork_5 : decode cX3_findWork 5 = .ok (.istore_n 1, 1) := by decide +kernel
theorem dX3_findWork_6 : decode cX3_findWork 6 = .ok (.iconst 0, 1) := by decide +kernel
theorem dX3_findWork_7 : decode cX3_findWork 7 = .ok (.istore_n 2, 1) := by decide +kernel
theorem dX3_findWork_8 : decode cX3_findWork 8 = .ok (.iload_n 2, 1) := by decide +kernel
theorem dX3_findWork_9 : decode cX3_findWork 9 = .ok (.aload_n 0, 1) := by decide +kernel
theorem dX3_findWork_10 : decode cX3_findWork 10 = .ok (.getfield 47, 3) := by decide +kernel
theorem dX3_findWork_13 : decode cX3_findWork 13 = .ok (.if_icmp .ge 37, 3) := by decide +kernel
theorem dX3_findWork_50 : decode cX3_findWork 50 = .ok (.iconst (-1), 1) := by decide +kernel
theorem dX3_findWork_51 : decode cX3_findWork 51 = .ok (.ireturn, 1) := by decide +kernel
set_option maxRecDepth 20000 in
theorem ggX3_findSearch_X3_openLocks : GoodIn wsX3_findSearch wsX3_openLocks := goodIn_r _ [8, 9, 10, 11, 19, 20, 21, 22, 23, 24, 25, 26, 27, 28, 29, 30, 36, 37, 38, 39, 40, 41, 42, 43, 44, 45] (by decide +kernel) (by decide +kernel)
set_option maxRecDepth 20000 in
theorem gX3_findSearch_X3_openLocks : GoodIn wsX3_findSearch (wsV RX3 118 RX3 yX3_openLocks wsX3_openLocks) := goodIn_app (goodIn_of _ (by decide +kernel)) ggX3_findSearch_X3_openLocks
theorem dX3_findSearch_0 : decode cX3_findSearch 0 = .ok (.aload_n 0, 1) := by decide +kernel
theorem dX3_findSearch_1 : decode cX3_findSearch 1 = .ok (.invokevirtual 118, 3) := by decide +kernel
theorem dX3_findSearch_4 : decode cX3_findSearch 4 = .ok (.istore_n 1, 1) := by decide +kernel
theorem dX3_findSearch_5 : decode cX3_findSearch 5 = .ok (.iconst 0, 1) := by decide +kernel
theorem dX3_findSearch_6 : decode cX3_findSearch 6 = .ok (.istore_n 2, 1) := by decide +kernel
theorem dX3_findSearch_7 : decode cX3_findSearch 7 = .ok (.iload_n 2, 1) := by decide +kernel
theorem dX3_findSearch_8 : decode cX3_findSearch 8 = .ok (.aload_n 0, 1) := by decide +kernel
theorem dX3_findSearch_9 : decode cX3_findSearch 9 = .ok (.getfield 54, 3) := by decide +kernel
theorem dX3_findSearch_12 : decode cX3_findSearch 12 = .ok (.if_icmp .ge 36, 3) := by decide +kernel
theorem dX3_findSearch_48 : decode cX3_findSearch 48 = .ok (.iconst (-1), 1) := by decide +kernel
theorem dX3_findSearch_49 : decode cX3_findSearch 49 = .ok (.ireturn, 1) := by decide +kernel
theorem dX4_init_0 : decode cX4_init 0 = .ok (.aload_n 0, 1) := by decide +kernel
theorem dX4_init_1 : decode cX4_init 1 = .ok (.invokespecial 3, 3) := by decide +kernel
theorem dX4_init_4 : decode cX4_init 4 = .ok (.aload_n 0, 1) := by decide +kernel
theorem dX4_init_5 : decode cX4_init 5 = .ok (.sipush 1024, 3) := by decide +kernel
theorem dX4_init_8 : decode cX4_init 8 = .ok (.newarray .boolean, 2) := by decide +kernel
theorem dX4_init_10 : decode cX4_init 10 = .ok (.putfield 9, 3) := by decide +kernel
theorem dX4_init_13 : decode cX4_init 13 = .ok (.aload_n 0, 1) := by decide +kernel
theorem dX4_init_14 : decode cX4_init 14 = .ok (.sipush 1024, 3) := by decide +kernel
theorem dX4_init_17 : decode cX4_init 17 = .ok (.newarray .int, 2) := by decide +kernel
theorem dX4_init_19 : decode cX4_init 19 = .ok (.putfield 15, 3) := by decide +kernel
theorem dX4_init_22 : decode cX4_init 22 = .ok (.aload_n 0, 1) := by decide +kernel
theorem dX4_init_23 : decode cX4_init 23 = .ok (.sipush 1024, 3) := by decide +kernel
theorem dX4_init_26 : decode cX4_init 26 = .ok (.newarray .int, 2) := by decide +kernel
theorem dX4_init_28 : decode cX4_init 28 = .ok (.putfield 19, 3) := by decide +kernel
theorem dX4_init_31 : decode cX4_init 31 = .ok (.return_, 1) := by decide +kernel
theorem dX5_init_0 : decode cX5_init 0 = .ok (.aload_n 0, 1) := by decide +kernel
theorem dX5_init_1 : decode cX5_init 1 = .ok (.invokespecial 3, 3) := by decide +kernel
theorem dX5_init_4 : decode cX5_init 4 = .ok (.return_, 1) := by decide +kernel
set_option maxRecDepth 20000 in
theorem ggX6_init_X3_init : GoodIn wsX6_init wsX3_init := goodIn_r _ [15, 16, 2, 3, 17, 18, 19, 20, 21, 22, 23, 24, 25, 26, 27, 28, 29, 30, 31, 32, 33, 34, 35, 36, 37, 38, 39, 40, 41, 42, 43, 44, 45, 46, 47, 56, 57, 58, 59, 60, 61, 62, 63, 64, 65, 66, 67, 74, 75, 76, 77, 78, 79, 80, 81, 82, 83, 84, 85, 86, 87, 88, 89, 90, 91, 92, 93, 94, 95, 96, 97, 98, 99] (by decide +kernel) (by decide +kernel)
set_option maxRecDepth 20000 in
theorem gX6_init_X3_init : GoodIn wsX6_init (wsX3_init) := ggX6_init_X3_init
set_option maxRecDepth 20000 in
theorem ggX6_init_X4_init : GoodIn wsX6_init wsX4_init := goodIn_r _ [49, 50, 2, 3, 51, 52, 53, 54, 55, 71, 72, 73] (by decide +kernel) (by decide +kernel)
set_option maxRecDepth 20000 in
theorem gX6_init_X4_init_n21 : GoodIn wsX6_init (wsX4_init) := ggX6_init_X4_init
theorem dX6_init_0 : decode cX6_init 0 = .ok (.aload_n 0, 1) := by decide +kernel
theorem dX6_init_1 : decode cX6_init 1 = .ok (.invokespecial 3, 3) := by decide +kernel
theorem dX6_init_4 : decode cX6_init 4 = .ok (.aload_n 0, 1) := by decide +kernel
theorem dX6_init_5 : decode cX6_init 5 = .ok (.new 9, 3) := by decide +kernel
theorem dX6_init_8 : decode cX6_init 8 = .ok (.dup, 1) := by decide +kernel
theorem dX6_init_9 : decode cX6_init 9 = .ok (.invokespecial 11, 3) := by decide +kernel
theorem dX6_init_12 : decode cX6_init 12 = .ok (.putfield 12, 3) := by decide +kernel
theorem dX6_init_15 : decode cX6_init 15 = .ok (.aload_n 0, 1) := by decide +kernel
theorem dX6_init_16 : decode cX6_init 16 = .ok (.new 9, 3) := by decide +kernel
theorem dX6_init_19 : decode cX6_init 19 = .ok (.dup, 1) := by decide +kernel
theorem dX6_init_20 : decode cX6_init 20 = .ok (.invokespecial 11, 3) := by decide +kernel
theorem dX6_init_23 : decode cX6_init 23 = .ok (.putfield 16, 3) := by decide +kernel
theorem dX6_init_26 : decode cX6_init 26 = .ok (.aload_n 0, 1) := by decide +kernel
theorem dX6_init_27 : decode cX6_init 27 = .ok (.new 19, 3) := by decide +kernel
theorem dX6_init_30 : decode cX6_init 30 = .ok (.dup, 1) := by decide +kernel
theorem dX6_init_31 : decode cX6_init 31 = .ok (.invokespecial 21, 3) := by decide +kernel
theorem dX6_init_34 : decode cX6_init 34 = .ok (.putfield 22, 3) := by decide +kernel
theorem dX6_init_37 : decode cX6_init 37 = .ok (.return_, 1) := by decide +kernel
set_option maxRecDepth 20000 in
theorem ggX6_player_X6_isWithin : GoodIn wsX6_player wsX6_isWithin := goodIn_r _ [12] (by decide +kernel) (by decide +kernel)
set_option maxRecDepth 20000 in
theorem gX6_player_X6_isWithin : GoodIn wsX6_player (va_wsS RX6 26 yX6_isWithin wsX6_isWithin) := goodIn_app (goodIn_of _ (by decide +kernel)) ggX6_player_X6_isWithin
set_option maxRecDepth 20000 in
theorem ggX6_player_X3_addPlayer : GoodIn wsX6_player wsX3_addPlayer := goodIn_r _ [17, 18, 19, 20, 21, 22, 23, 24, 25, 26, 27, 28, 29, 30, 31, 32, 36, 37, 38, 39, 40, 41, 42, 43, 44, 45, 46, 47, 55, 56, 57, 58] (by decide +kernel) (by decide +kernel)
set_option maxRecDepth 20000 in
theorem gX6_player_X3_addPlayer : GoodIn wsX6_player (wsV RX6 87 RX3 yX3_addPlayer wsX3_addPlayer) := goodIn_app (goodIn_of _ (by decide +kernel)) ggX6_player_X3_addPlayer
theorem dX6_player_0 : decode cX6_player 0 = .ok (.iload_n 1, 1) := by decide +kernel
theorem dX6_player_1 : decode cX6_player 1 = .ok (.iconst 1, 1) := by decide +kernel
theorem dX6_player_2 : decode cX6_player 2 = .ok (.bipush 9, 2) := by decide +kernel
theorem dX6_player_4 : decode cX6_player 4 = .ok (.invokestatic 26, 3) := by decide +kernel
theorem dX6_player_7 : decode cX6_player 7 = .ok (.ifCond .ne 13, 3) := by decide +kernel
theorem dX6_player_20 : decode cX6_player 20 = .ok (.aload_n 0, 1) := by decide +kernel
theorem dX6_player_21 : decode cX6_player 21 = .ok (.getfield 12, 3) := by decide +kernel
theorem dX6_player_24 : decode cX6_player 24 = .ok (.getfield 82, 3) := by decide +kernel
theorem dX6_player_27 : decode cX6_player 27 = .ok (.bipush 6, 2) := by decide +kernel
theorem dX6_player_29 : decode cX6_player 29 = .ok (.if_icmp .ge 16, 3) := by decide +kernel
theorem dX6_player_32 : decode cX6_player 32 = .ok (.aload_n 0, 1) := by decide +kernel
theorem dX6_player_33 : decode cX6_player 33 = .ok (.getfield 12, 3) := by decide +kernel
theorem dX6_player_36 : decode cX6_player 36 = .ok (.getfield 41, 3) := by decide +kernel
theorem dX6_player_39 : decode cX6_player 39 = .ok (.getfield 45, 3) := by decide +kernel
theorem dX6_player_42 : decode cX6_player 42 = .ok (.ifCond .eq 13, 3) := by decide +kernel
theorem dX6_player_55 : decode cX6_player 55 = .ok (.aload_n 0, 1) := by decide +kernel
theorem dX6_player_56 : decode cX6_player 56 = .ok (.getfield 12, 3) := by decide +kernel
theorem dX6_player_59 : decode cX6_player 59 = .ok (.iload_n 1, 1) := by decide +kernel
theorem dX6_player_60 : decode cX6_player 60 = .ok (.invokevirtual 87, 3) := by decide +kernel
theorem dX6_player_63 : decode cX6_player 63 = .ok (.ireturn, 1) := by decide +kernel
set_option maxRecDepth 20000 in
theorem ggX6_begin_X3_isExitOpen : GoodIn wsX6_begin wsX3_isExitOpen := goodIn_r _ [11, 12, 13, 14, 15, 10, 16, 17, 18, 19, 20, 21, 22, 41, 42, 43, 44, 45, 46, 47, 48, 49, 50, 51, 52, 60, 61, 62, 63, 64, 65, 66, 67, 68, 69] (by decide +kernel) (by decide +kernel)
set_option maxRecDepth 20000 in
theorem gX6_begin_X3_isExitOpen : GoodIn wsX6_begin (wsV RX6 91 RX3 yX3_isExitOpen wsX3_isExitOpen) := goodIn_app (goodIn_of _ (by decide +kernel)) ggX6_begin_X3_isExitOpen
set_option maxRecDepth 20000 in
theorem ggX6_begin_X3_startGame : GoodIn wsX6_begin wsX3_startGame := goodIn_r _ [26, 27, 28, 29, 30, 31, 32, 33, 34, 35, 36, 37, 41, 42, 43, 44, 45, 46, 47, 48, 49, 50, 51, 52, 53, 54, 55, 56, 57, 58, 59] (by decide +kernel) (by decide +kernel)
set_option maxRecDepth 20000 in
theorem gX6_begin_X3_startGame : GoodIn wsX6_begin (wsV RX6 97 RX3 yX3_startGame wsX3_startGame) := goodIn_app (goodIn_of _ (by decide +kernel)) ggX6_begin_X3_startGame
theorem dX6_begin_0 : decode cX6_begin 0 = .ok (.aload_n 0, 1) := by decide +kernel
theorem dX6_begin_1 : decode cX6_begin 1 = .ok (.getfield 12, 3) := by decide +kernel
theorem dX6_begin_4 : decode cX6_begin 4 = .ok (.getfield 41, 3) := by decide +kernel
theorem dX6_begin_7 : decode cX6_begin 7 = .ok (.getfield 45, 3) := by decide +kernel
theorem dX6_begin_10 : decode cX6_begin 10 = .ok (.ifCond .ne 23, 3) := by decide +kernel
theorem dX6_begin_13 : decode cX6_begin 13 = .ok (.aload_n 0, 1) := by decide +kernel
theorem dX6_begin_14 : decode cX6_begin 14 = .ok (.getfield 12, 3) := by decide +kernel
theorem dX6_begin_17 : decode cX6_begin 17 = .ok (.getfield 82, 3) := by decide +kernel
theorem dX6_begin_20 : decode cX6_begin 20 = .ok (.ifCond .eq 13, 3) := by decide +kernel
theorem dX6_begin_23 : decode cX6_begin 23 = .ok (.aload_n 0, 1) := by decide +kernel
theorem dX6_begin_24 : decode cX6_begin 24 = .ok (.getfield 12, 3) := by decide +kernel
theorem dX6_begin_27 : decode cX6_begin 27 = .ok (.invokevirtual 91, 3) := by decide +kernel
theorem dX6_begin_30 : decode cX6_begin 30 = .ok (.ifCond .eq 13, 3) := by decide +kernel
theorem dX6_begin_43 : decode cX6_begin 43 = .ok (.aload_n 0, 1) := by decide +kernel
theorem dX6_begin_44 : decode cX6_begin 44 = .ok (.getfield 12, 3) := by decide +kernel
theorem dX6_begin_47 : decode cX6_begin 47 = .ok (.invokevirtual 97, 3) := by decide +kernel
theorem dX6_begin_50 : decode cX6_begin 50 = .ok (.aload_n 0, 1) := by decide +kernel
theorem dX6_begin_51 : decode cX6_begin 51 = .ok (.getfield 12, 3) := by decide +kernel
theorem dX6_begin_54 : decode cX6_begin 54 = .ok (.getfield 82, 3) := by decide +kernel
theorem dX6_begin_57 : decode cX6_begin 57 = .ok (.ireturn, 1) := by decide +kernel
set_option maxRecDepth 20000 in
theorem ggX6_endsAt_X3_copyFrom : GoodIn wsX6_endsAt wsX3_copyFrom := goodIn_r _ [11, 12, 13, 14, 15, 16, 17, 18, 19, 20, 21, 22, 23, 24, 25, 26, 27, 28, 29, 30, 31, 32, 33, 34, 35, 36, 37, 38, 39, 40, 41, 42, 43, 44, 45, 46, 47, 48, 49, 50, 51, 52, 53, 54, 55, 56, 57, 58, 59, 60, 61, 62, 63, 64, 65, 66, 67, 68, 69, 173, 174, 175, 176, 177, 178, 179, 180, 181, 182, 183, 184, 192, 193, 194, 195, 196, 197, 198, 199, 200, 201, 202, 203, 204, 205, 206, 207, 208, 209, 210, 185, 186, 187, 188, 189, 190, 191] (by decide +kernel) (by decide +kernel)
set_option maxRecDepth 20000 in
theorem gX6_endsAt_X3_copyFrom : GoodIn wsX6_endsAt (wsV RX6 255 RX3 yX3_copyFrom wsX3_copyFrom) := goodIn_app (goodIn_of _ (by decide +kernel)) ggX6_endsAt_X3_copyFrom
set_option maxRecDepth 20000 in
theorem ggX6_endsAt_X3_letMinuteGoBy : GoodIn wsX6_endsAt wsX3_letMinuteGoBy := goodIn_r _ [73, 21, 18, 74, 75, 16, 17, 76, 77, 78, 10, 79, 12, 13, 80, 14, 15, 81, 82, 83, 84, 52, 85, 55, 56, 86, 87, 88, 89, 90, 91, 92, 93, 23, 94, 95, 96, 97, 98, 99, 100, 101, 102, 103, 104, 105, 27, 106, 33, 34, 29, 107, 108, 109, 110, 111, 112, 113, 114, 115, 116, 117, 19, 118, 119, 120, 121, 37, 122, 123, 124, 125, 126, 127, 128, 129, 130, 131, 132, 133, 134, 135, 61, 136, 63, 66, 64, 65, 69, 68, 137, 138, 139, 140, 141, 142, 143, 144, 145, 146, 147, 148, 42, 149, 47, 44, 150, 151, 152, 153, 154, 155, 156, 157, 158, 159, 160, 161, 162, 163, 164, 165, 166, 167, 168, 169, 67, 173, 174, 175, 176, 177, 178, 179, 180, 181, 182, 183, 184, 185, 186, 187, 188, 189, 190, 191, 192, 193, 194, 195, 196, 197, 198, 199, 200, 201, 202, 203, 204, 205, 206, 207, 208, 209, 210] (by decide +kernel) (by decide +kernel)
set_option maxRecDepth 20000 in
theorem gX6_endsAt_X3_letMinuteGoBy : GoodIn wsX6_endsAt (wsV RX6 107 RX3 yX3_letMinuteGoBy wsX3_letMinuteGoBy) := goodIn_app (goodIn_of _ (by decide +kernel)) ggX6_endsAt_X3_letMinuteGoBy
theorem dX6_endsAt_0 : decode cX6_endsAt 0 = .ok (.aload_n 0, 1) := by decide +kernel
theorem dX6_endsAt_1 : decode cX6_endsAt 1 = .ok (.getfield 12, 3) := by decide +kernel
theorem dX6_endsAt_4 : decode cX6_endsAt 4 = .ok (.getfield 41, 3) := by decide +kernel
theorem dX6_endsAt_7 : decode cX6_endsAt 7 = .ok (.getfield 45, 3) := by decide +kernel
theorem dX6_endsAt_10 : decode cX6_endsAt 10 = .ok (.ifCond .ne 5, 3) := by decide +kernel
theorem dX6_endsAt_15 : decode cX6_endsAt 15 = .ok (.aload_n 0, 1) := by decide +kernel
theorem dX6_endsAt_16 : decode cX6_endsAt 16 = .ok (.getfield 16, 3) := by decide +kernel
theorem dX6_endsAt_19 : decode cX6_endsAt 19 = .ok (.aload_n 0, 1) := by decide +kernel
theorem dX6_endsAt_20 : decode cX6_endsAt 20 = .ok (.getfield 12, 3) := by decide +kernel
theorem dX6_endsAt_23 : decode cX6_endsAt 23 = .ok (.invokevirtual 255, 3) := by decide +kernel
theorem dX6_endsAt_26 : decode cX6_endsAt 26 = .ok (.iconst 0, 1) := by decide +kernel
theorem dX6_endsAt_27 : decode cX6_endsAt 27 = .ok (.istore_n 1, 1) := by decide +kernel
theorem dX6_endsAt_28 : decode cX6_endsAt 28 = .ok (.iload_n 1, 1) := by decide +kernel
theorem dX6_endsAt_29 : decode cX6_endsAt 29 = .ok (.bipush 60, 2) := by decide +kernel
theorem dX6_endsAt_31 : decode cX6_endsAt 31 = .ok (.if_icmp .ge 30, 3) := by decide +kernel
theorem dX6_endsAt_34 : decode cX6_endsAt 34 = .ok (.aload_n 0, 1) := by decide +kernel
theorem dX6_endsAt_35 : decode cX6_endsAt 35 = .ok (.getfield 16, 3) := by decide +kernel
theorem dX6_endsAt_38 : decode cX6_endsAt 38 = .ok (.getfield 41, 3) := by decide +kernel
theorem dX6_endsAt_41 : decode cX6_endsAt 41 = .ok (.getfield 45, 3) := by decide +kernel
theorem dX6_endsAt_44 : decode cX6_endsAt 44 = .ok (.ifCond .eq 17, 3) := by decide +kernel
theorem dX6_endsAt_47 : decode cX6_endsAt 47 = .ok (.aload_n 0, 1) := by decide +kernel
theorem dX6_endsAt_48 : decode cX6_endsAt 48 = .ok (.getfield 16, 3) := by decide +kernel
theorem dX6_endsAt_51 : decode cX6_endsAt 51 = .ok (.invokevirtual 107, 3) := by decide +kernel
theorem dX6_endsAt_54 : decode cX6_endsAt 54 = .ok (.pop, 1) := by decide +kernel
theorem dX6_endsAt_55 : decode cX6_endsAt 55 = .ok (.iinc 1 1, 3) := by decide +kernel
theorem dX6_endsAt_58 : decode cX6_endsAt 58 = .ok (.goto (-30), 3) := by decide +kernel
theorem dX6_endsAt_61 : decode cX6_endsAt 61 = .ok (.aload_n 0, 1) := by decide +kernel
theorem dX6_endsAt_62 : decode cX6_endsAt 62 = .ok (.getfield 16, 3) := by decide +kernel
theorem dX6_endsAt_65 : decode cX6_endsAt 65 = .ok (.getfield 41, 3) := by decide +kernel
theorem dX6_endsAt_68 : decode cX6_endsAt 68 = .ok (.getfield 232, 3) := by decide +kernel
theorem dX6_endsAt_71 : decode cX6_endsAt 71 = .ok (.aload_n 0, 1) := by decide +kernel
theorem dX6_endsAt_72 : decode cX6_endsAt 72 = .ok (.getfield 12, 3) := by decide +kernel
theorem dX6_endsAt_75 : decode cX6_endsAt 75 = .ok (.getfield 41, 3) := by decide +kernel
theorem dX6_endsAt_78 : decode cX6_endsAt 78 = .ok (.getfield 232, 3) := by decide +kernel
theorem dX6_endsAt_81 : decode cX6_endsAt 81 = .ok (.if_icmp .le 16, 3) := by decide +kernel
theorem dX6_endsAt_97 : decode cX6_endsAt 97 = .ok (.iconst (-1), 1) := by decide +kernel
theorem dX6_endsAt_98 : decode cX6_endsAt 98 = .ok (.ireturn, 1) := by decide +kernel
theorem dX6_isWithin_0 : decode cX6_isWithin 0 = .ok (.iload_n 0, 1) := by decide +kernel
theorem dX6_isWithin_1 : decode cX6_isWithin 1 = .ok (.iload_n 1, 1) := by decide +kernel
theorem dX6_isWithin_2 : decode cX6_isWithin 2 = .ok (.if_icmp .lt 12, 3) := by decide +kernel
theorem dX6_isWithin_5 : decode cX6_isWithin 5 = .ok (.iload_n 0, 1) := by decide +kernel
theorem dX6_isWithin_6 : decode cX6_isWithin 6 = .ok (.iload_n 2, 1) := by decide +kernel
theorem dX6_isWithin_7 : decode cX6_isWithin 7 = .ok (.if_icmp .gt 7, 3) := by decide +kernel
theorem dX6_isWithin_10 : decode cX6_isWithin 10 = .ok (.iconst 1, 1) := by decide +kernel
theorem dX6_isWithin_11 : decode cX6_isWithin 11 = .ok (.goto 4, 3) := by decide +kernel
theorem dX6_isWithin_15 : decode cX6_isWithin 15 = .ok (.ireturn, 1) := by decide +kernel
theorem dX6_isIn_0 : decode cX6_isIn 0 = .ok (.iload_n 1, 1) := by decide +kernel
theorem dX6_isIn_1 : decode cX6_isIn 1 = .ok (.iconst (-1), 1) := by decide +kernel
theorem dX6_isIn_2 : decode cX6_isIn 2 = .ok (.if_icmp .eq 16, 3) := by decide +kernel
theorem dX6_isIn_18 : decode cX6_isIn 18 = .ok (.iconst 0, 1) := by decide +kernel
theorem dX6_isIn_19 : decode cX6_isIn 19 = .ok (.ireturn, 1) := by decide +kernel
theorem dX6_oneIf_0 : decode cX6_oneIf 0 = .ok (.iload_n 0, 1) := by decide +kernel
theorem dX6_oneIf_1 : decode cX6_oneIf 1 = .ok (.ifCond .eq 7, 3) := by decide +kernel
theorem dX6_oneIf_8 : decode cX6_oneIf 8 = .ok (.iconst 0, 1) := by decide +kernel
theorem dX6_oneIf_9 : decode cX6_oneIf 9 = .ok (.ireturn, 1) := by decide +kernel
set_option maxRecDepth 20000 in
theorem ggX7_init_Jx4a65c_init_da8c8 : GoodIn wsX7_init wsJx4a65c_init_da8c8 := goodIn_r _ [14, 15, 16, 17, 18, 19, 20, 21, 22, 23, 24, 25, 26, 2, 3, 27, 28, 29] (by decide +kernel) (by decide +kernel)
set_option maxRecDepth 20000 in
theorem gX7_init_Jx4a65c_init_da8c8 : GoodIn wsX7_init (wsJx4a65c_init_da8c8) := ggX7_init_Jx4a65c_init_da8c8
theorem dX7_init_0 : decode cX7_init 0 = .ok (.aload_n 0, 1) := by decide +kernel
theorem dX7_init_1 : decode cX7_init 1 = .ok (.invokespecial 3, 3) := by decide +kernel
theorem dX7_init_4 : decode cX7_init 4 = .ok (.aload_n 0, 1) := by decide +kernel
theorem dX7_init_5 : decode cX7_init 5 = .ok (.new 9, 3) := by decide +kernel
theorem dX7_init_8 : decode cX7_init 8 = .ok (.dup, 1) := by decide +kernel
theorem dX7_init_9 : decode cX7_init 9 = .ok (.invokespecial 11, 3) := by decide +kernel
theorem dX7_init_12 : decode cX7_init 12 = .ok (.putfield 12, 3) := by decide +kernel
theorem dX7_init_15 : decode cX7_init 15 = .ok (.aload_n 0, 1) := by decide +kernel
theorem dX7_init_16 : decode cX7_init 16 = .ok (.new 9, 3) := by decide +kernel
theorem dX7_init_19 : decode cX7_init 19 = .ok (.dup, 1) := by decide +kernel
theorem dX7_init_20 : decode cX7_init 20 = .ok (.invokespecial 11, 3) := by decide +kernel
theorem dX7_init_23 : decode cX7_init 23 = .ok (.putfield 18, 3) := by decide +kernel
theorem dX7_init_26 : decode cX7_init 26 = .ok (.aload_n 0, 1) := by decide +kernel
theorem dX7_init_27 : decode cX7_init 27 = .ok (.new 9, 3) := by decide +kernel
theorem dX7_init_30 : decode cX7_init 30 = .ok (.dup, 1) := by decide +kernel
theorem dX7_init_31 : decode cX7_init 31 = .ok (.invokespecial 11, 3) := by decide +kernel
theorem dX7_init_34 : decode cX7_init 34 = .ok (.putfield 21, 3) := by decide +kernel
theorem dX7_init_37 : decode cX7_init 37 = .ok (.aload_n 0, 1) := by decide +kernel
theorem dX7_init_38 : decode cX7_init 38 = .ok (.iconst (-1), 1) := by decide +kernel
theorem dX7_init_39 : decode cX7_init 39 = .ok (.putfield 24, 3) := by decide +kernel
theorem dX7_init_42 : decode cX7_init 42 = .ok (.aload_n 0, 1) := by decide +kernel
theorem dX7_init_43 : decode cX7_init 43 = .ok (.iconst (-1), 1) := by decide +kernel
theorem dX7_init_44 : decode cX7_init 44 = .ok (.putfield 28, 3) := by decide +kernel
theorem dX7_init_47 : decode cX7_init 47 = .ok (.return_, 1) := by decide +kernel
set_option maxRecDepth 20000 in
theorem ggX7_copy_X7_init : GoodIn wsX7_copy wsX7_init := goodIn_r _ [18, 19, 20, 21, 22, 23, 24, 4, 11, 12, 13, 25, 26, 27, 28, 29, 30, 31, 32, 33, 34, 35, 36, 37, 38, 39, 40, 137, 138, 139, 123, 124, 125, 126, 127, 128, 129, 130, 131, 132, 133, 134, 135, 136] (by decide +kernel) (by decide +kernel)
set_option maxRecDepth 20000 in
theorem gX7_copy_X7_init : GoodIn wsX7_copy (wsX7_init) := ggX7_copy_X7_init
set_option maxRecDepth 20000 in
theorem ggX7_copy_Jx4a65c_iterator_32c93 : GoodIn wsX7_copy wsJx4a65c_iterator_32c93 := goodIn_r _ [44, 45, 46, 47, 48, 49, 50, 51, 52, 20, 21, 53, 54, 55, 56, 140, 141, 142, 143, 137, 138, 139] (by decide +kernel) (by decide +kernel)
set_option maxRecDepth 20000 in
theorem gX7_copy_Jx4a65c_iterator_32c93 : GoodIn wsX7_copy (wsV RX7 32 RJx4a65c yJx4a65c_iterator_32c93 wsJx4a65c_iterator_32c93) := goodIn_app (goodIn_of _ (by decide +kernel)) ggX7_copy_Jx4a65c_iterator_32c93
set_option maxRecDepth 20000 in
theorem ggX7_copy_Jx35411_hasNext_aae02 : GoodIn wsX7_copy wsJx35411_hasNext_aae02 := goodIn_r _ [60, 61, 51, 140, 141, 142, 143, 137, 138, 139] (by decide +kernel) (by decide +kernel)
set_option maxRecDepth 20000 in
theorem gX7_copy_Jx35411_hasNext_aae02_f36Jx35411 : GoodIn wsX7_copy (va_wsF RX7 36 RJx35411 ⟨"java/util/Iterator", "hasNext", "()Z"⟩ yJx35411_hasNext_aae02 wsJx35411_hasNext_aae02) := goodIn_app (goodIn_of _ (by decide +kernel)) ggX7_copy_Jx35411_hasNext_aae02
set_option maxRecDepth 20000 in
theorem ggX7_copy_Jx35411_next_0502b : GoodIn wsX7_copy wsJx35411_next_0502b := goodIn_r _ [65, 61, 51, 66, 53, 67, 68, 69, 47, 70, 54, 55, 56, 140, 141, 142, 143, 137, 138, 139] (by decide +kernel) (by decide +kernel)
set_option maxRecDepth 20000 in
theorem gX7_copy_Jx35411_next_0502b_f42Jx35411 : GoodIn wsX7_copy (va_wsF RX7 42 RJx35411 ⟨"java/util/Iterator", "next", "()Ljava/lang/Object;"⟩ yJx35411_next_0502b wsJx35411_next_0502b) := goodIn_app (goodIn_of _ (by decide +kernel)) ggX7_copy_Jx35411_next_0502b
set_option maxRecDepth 20000 in
theorem ggX7_copy_Jx4a65c_add_9ea2d : GoodIn wsX7_copy wsJx4a65c_add_9ea2d := goodIn_r _ [74, 75, 55, 30, 76, 77, 78, 79, 24, 80, 81, 82, 83, 84, 85, 86, 87, 88, 29, 89, 90, 91, 92, 93, 94, 95, 96, 97, 98, 99, 100, 101, 102, 103, 104, 105, 106, 107, 108, 109, 110, 111, 112, 113, 114, 115, 116, 117, 118, 119, 120, 121, 122, 137, 138, 139] (by decide +kernel) (by decide +kernel)
set_option maxRecDepth 20000 in
theorem gX7_copy_Jx4a65c_add_9ea2d : GoodIn wsX7_copy (wsV RX7 51 RJx4a65c yJx4a65c_add_9ea2d wsJx4a65c_add_9ea2d) := goodIn_app (goodIn_of _ (by decide +kernel)) ggX7_copy_Jx4a65c_add_9ea2d
theorem dX7_copy_0 : decode cX7_copy 0 = .ok (.new 13, 3) := by decide +kernel
theorem dX7_copy_3 : decode cX7_copy 3 = .ok (.dup, 1) := by decide +kernel
theorem dX7_copy_4 : decode cX7_copy 4 = .ok (.invokespecial 31, 3) := by decide +kernel
theorem dX7_copy_7 : decode cX7_copy 7 = .ok (.astore_n 1, 1) := by decide +kernel
theorem dX7_copy_8 : decode cX7_copy 8 = .ok (.aload_n 0, 1) := by decide +kernel
theorem dX7_copy_9 : decode cX7_copy 9 = .ok (.getfield 12, 3) := by decide +kernel
theorem dX7_copy_12 : decode cX7_copy 12 = .ok (.invokevirtual 32, 3) := by decide +kernel
theorem dX7_copy_15 : decode cX7_copy 15 = .ok (.astore_n 2, 1) := by decide +kernel
theorem dX7_copy_16 : decode cX7_copy 16 = .ok (.aload_n 2, 1) := by decide +kernel
theorem dX7_copy_17 : decode cX7_copy 17 = .ok (.invokeinterface 36 1, 5) := by decide +kernel
theorem dX7_copy_22 : decode cX7_copy 22 = .ok (.ifCond .eq 31, 3) := by decide +kernel
theorem dX7_copy_53 : decode cX7_copy 53 = .ok (.aload_n 0, 1) := by decide +kernel
theorem dX7_copy_54 : decode cX7_copy 54 = .ok (.getfield 18, 3) := by decide +kernel
theorem dX7_copy_57 : decode cX7_copy 57 = .ok (.invokevirtual 32, 3) := by decide +kernel
theorem dX7_copy_60 : decode cX7_copy 60 = .ok (.astore_n 2, 1) := by decide +kernel
theorem dX7_copy_61 : decode cX7_copy 61 = .ok (.aload_n 2, 1) := by decide +kernel
theorem dX7_copy_62 : decode cX7_copy 62 = .ok (.invokeinterface 36 1, 5) := by decide +kernel
theorem dX7_copy_67 : decode cX7_copy 67 = .ok (.ifCond .eq 31, 3) := by decide +kernel
theorem dX7_copy_98 : decode cX7_copy 98 = .ok (.aload_n 0, 1) := by decide +kernel
theorem dX7_copy_99 : decode cX7_copy 99 = .ok (.getfield 21, 3) := by decide +kernel
theorem dX7_copy_102 : decode cX7_copy 102 = .ok (.invokevirtual 32, 3) := by decide +kernel
theorem dX7_copy_105 : decode cX7_copy 105 = .ok (.astore_n 2, 1) := by decide +kernel
theorem dX7_copy_106 : decode cX7_copy 106 = .ok (.aload_n 2, 1) := by decide +kernel
theorem dX7_copy_107 : decode cX7_copy 107 = .ok (.invokeinterface 36 1, 5) := by decide +kernel
theorem dX7_copy_112 : decode cX7_copy 112 = .ok (.ifCond .eq 31, 3) := by decide +kernel
theorem dX7_copy_115 : decode cX7_copy 115 = .ok (.aload_n 2, 1) := by decide +kernel
theorem dX7_copy_116 : decode cX7_copy 116 = .ok (.invokeinterface 42 1, 5) := by decide +kernel
theorem dX7_copy_121 : decode cX7_copy 121 = .ok (.checkcast 46, 3) := by decide +kernel
theorem dX7_copy_124 : decode cX7_copy 124 = .ok (.astore_n 3, 1) := by decide +kernel
theorem dX7_copy_125 : decode cX7_copy 125 = .ok (.aload_n 1, 1) := by decide +kernel
theorem dX7_copy_126 : decode cX7_copy 126 = .ok (.getfield 21, 3) := by decide +kernel
theorem dX7_copy_129 : decode cX7_copy 129 = .ok (.aload_n 3, 1) := by decide +kernel
theorem dX7_copy_130 : decode cX7_copy 130 = .ok (.invokevirtual 48, 3) := by decide +kernel
theorem dX7_copy_133 : decode cX7_copy 133 = .ok (.checkcast 46, 3) := by decide +kernel
theorem dX7_copy_136 : decode cX7_copy 136 = .ok (.invokevirtual 51, 3) := by decide +kernel
theorem dX7_copy_139 : decode cX7_copy 139 = .ok (.pop, 1) := by decide +kernel
theorem dX7_copy_140 : decode cX7_copy 140 = .ok (.goto (-34), 3) := by decide +kernel
theorem dX7_copy_143 : decode cX7_copy 143 = .ok (.aload_n 1, 1) := by decide +kernel
theorem dX7_copy_144 : decode cX7_copy 144 = .ok (.aload_n 0, 1) := by decide +kernel
theorem dX7_copy_145 : decode cX7_copy 145 = .ok (.getfield 24, 3) := by decide +kernel
theorem dX7_copy_148 : decode cX7_copy 148 = .ok (.putfield 24, 3) := by decide +kernel
theorem dX7_copy_151 : decode cX7_copy 151 = .ok (.aload_n 1, 1) := by decide +kernel
theorem dX7_copy_152 : decode cX7_copy 152 = .ok (.aload_n 0, 1) := by decide +kernel
theorem dX7_copy_153 : decode cX7_copy 153 = .ok (.getfield 55, 3) := by decide +kernel
theorem dX7_copy_156 : decode cX7_copy 156 = .ok (.putfield 55, 3) := by decide +kernel
theorem dX7_copy_159 : decode cX7_copy 159 = .ok (.aload_n 1, 1) := by decide +kernel
theorem dX7_copy_160 : decode cX7_copy 160 = .ok (.aload_n 0, 1) := by decide +kernel
theorem dX7_copy_161 : decode cX7_copy 161 = .ok (.getfield 59, 3) := by decide +kernel
theorem dX7_copy_164 : decode cX7_copy 164 = .ok (.putfield 59, 3) := by decide +kernel
theorem dX7_copy_167 : decode cX7_copy 167 = .ok (.aload_n 1, 1) := by decide +kernel
theorem dX7_copy_168 : decode cX7_copy 168 = .ok (.areturn, 1) := by decide +kernel
theorem dX7_isOut_0 : decode cX7_isOut 0 = .ok (.aload_n 0, 1) := by decide +kernel
theorem dX7_isOut_1 : decode cX7_isOut 1 = .ok (.getfield 24, 3) := by decide +kernel
theorem dX7_isOut_4 : decode cX7_isOut 4 = .ok (.iconst (-1), 1) := by decide +kernel
theorem dX7_isOut_5 : decode cX7_isOut 5 = .ok (.if_icmp .eq 27, 3) := by decide +kernel
theorem dX7_isOut_32 : decode cX7_isOut 32 = .ok (.iconst 0, 1) := by decide +kernel
theorem dX7_isOut_33 : decode cX7_isOut 33 = .ok (.ireturn, 1) := by decide +kernel
set_option maxRecDepth 20000 in
theorem ggX7_end_Jx4a65c_clear_da8c8 : GoodIn wsX7_end wsJx4a65c_clear_da8c8 := goodIn_r _ [17, 18, 19, 20, 21, 36, 37, 38] (by decide +kernel) (by decide +kernel)
set_option maxRecDepth 20000 in
theorem gX7_end_Jx4a65c_clear_da8c8 : GoodIn wsX7_end (wsV RX7 78 RJx4a65c yJx4a65c_clear_da8c8 wsJx4a65c_clear_da8c8) := goodIn_app (goodIn_of _ (by decide +kernel)) ggX7_end_Jx4a65c_clear_da8c8
theorem dX7_end_0 : decode cX7_end 0 = .ok (.aload_n 0, 1) := by decide +kernel
theorem dX7_end_1 : decode cX7_end 1 = .ok (.iconst 0, 1) := by decide +kernel
theorem dX7_end_2 : decode cX7_end 2 = .ok (.putfield 55, 3) := by decide +kernel
theorem dX7_end_5 : decode cX7_end 5 = .ok (.aload_n 0, 1) := by decide +kernel
theorem dX7_end_6 : decode cX7_end 6 = .ok (.getfield 21, 3) := by decide +kernel
theorem dX7_end_9 : decode cX7_end 9 = .ok (.invokevirtual 78, 3) := by decide +kernel
theorem dX7_end_12 : decode cX7_end 12 = .ok (.iload_n 1, 1) := by decide +kernel
theorem dX7_end_13 : decode cX7_end 13 = .ok (.ifCond .ne 14, 3) := by decide +kernel
theorem dX7_end_16 : decode cX7_end 16 = .ok (.aload_n 0, 1) := by decide +kernel
theorem dX7_end_17 : decode cX7_end 17 = .ok (.dup, 1) := by decide +kernel
theorem dX7_end_18 : decode cX7_end 18 = .ok (.getfield 81, 3) := by decide +kernel
theorem dX7_end_21 : decode cX7_end 21 = .ok (.iconst 1, 1) := by decide +kernel
theorem dX7_end_22 : decode cX7_end 22 = .ok (.iadd, 1) := by decide +kernel
theorem dX7_end_23 : decode cX7_end 23 = .ok (.putfield 81, 3) := by decide +kernel
theorem dX7_end_26 : decode cX7_end 26 = .ok (.return_, 1) := by decide +kernel
set_option maxRecDepth 20000 in
theorem ggX7_pass_Jx4a65c_iterator_32c93 : GoodIn wsX7_pass wsJx4a65c_iterator_32c93 := goodIn_r _ [12, 13, 14, 15, 16, 17, 18, 19, 20, 21, 22, 23, 24, 25, 26, 122, 123, 124, 125, 126, 127, 128] (by decide +kernel) (by decide +kernel)
set_option maxRecDepth 20000 in
theorem gX7_pass_Jx4a65c_iterator_32c93 : GoodIn wsX7_pass (wsV RX7 32 RJx4a65c yJx4a65c_iterator_32c93 wsJx4a65c_iterator_32c93) := goodIn_app (goodIn_of _ (by decide +kernel)) ggX7_pass_Jx4a65c_iterator_32c93
set_option maxRecDepth 20000 in
theorem ggX7_pass_Jx35411_hasNext_aae02 : GoodIn wsX7_pass wsJx35411_hasNext_aae02 := goodIn_r _ [30, 31, 19, 122, 123, 124, 125, 126, 127, 128] (by decide +kernel) (by decide +kernel)
set_option maxRecDepth 20000 in
theorem gX7_pass_Jx35411_hasNext_aae02_f36Jx35411 : GoodIn wsX7_pass (va_wsF RX7 36 RJx35411 ⟨"java/util/Iterator", "hasNext", "()Z"⟩ yJx35411_hasNext_aae02 wsJx35411_hasNext_aae02) := goodIn_app (goodIn_of _ (by decide +kernel)) ggX7_pass_Jx35411_hasNext_aae02
set_option maxRecDepth 20000 in
theorem ggX7_pass_Jx4a65c_size_8abf5 : GoodIn wsX7_pass wsJx4a65c_size_8abf5 := goodIn_r _ [44, 45, 126, 127, 128] (by decide +kernel) (by decide +kernel)
set_option maxRecDepth 20000 in
theorem gX7_pass_Jx4a65c_size_8abf5 : GoodIn wsX7_pass (wsV RX7 62 RJx4a65c yJx4a65c_size_8abf5 wsJx4a65c_size_8abf5) := goodIn_app (goodIn_of _ (by decide +kernel)) ggX7_pass_Jx4a65c_size_8abf5
set_option maxRecDepth 20000 in
theorem ggX7_pass_Jx4a65c_get_915e3 : GoodIn wsX7_pass wsJx4a65c_get_915e3 := goodIn_r _ [49, 45, 50, 51, 52, 53, 54, 55, 56, 57, 58, 59, 60, 11, 61, 62, 126, 127, 128] (by decide +kernel) (by decide +kernel)
set_option maxRecDepth 20000 in
theorem gX7_pass_Jx4a65c_get_915e3 : GoodIn wsX7_pass (wsV RX7 66 RJx4a65c yJx4a65c_get_915e3 wsJx4a65c_get_915e3) := goodIn_app (goodIn_of _ (by decide +kernel)) ggX7_pass_Jx4a65c_get_915e3
set_option maxRecDepth 20000 in
theorem ggX7_pass_X7_act : GoodIn wsX7_pass wsX7_act := goodIn_r _ [67, 4, 5, 6, 68, 41, 42, 43, 11, 44, 45, 46, 47, 48, 49, 50, 51, 52, 53, 54, 55, 56, 57, 58, 59, 60, 61, 62, 69, 70, 71, 66, 72, 73, 74, 75, 76, 77, 78, 79, 80, 81, 82, 83, 84, 108, 109, 110, 111, 112, 113, 114, 115, 116, 117, 118, 119, 120, 121, 126, 127, 128] (by decide +kernel) (by decide +kernel)
set_option maxRecDepth 20000 in
theorem gX7_pass_X7_act : GoodIn wsX7_pass (wsV RX7 102 RX7 yX7_act wsX7_act) := goodIn_app (goodIn_of _ (by decide +kernel)) ggX7_pass_X7_act
set_option maxRecDepth 20000 in
theorem ggX7_pass_X7_isOut : GoodIn wsX7_pass wsX7_isOut := goodIn_r _ [88, 89, 4, 5, 46, 47, 48, 11, 49, 45, 50, 51, 52, 53, 54, 55, 56, 57, 58, 59, 60, 61, 62, 108, 109, 110, 111, 112, 113, 114, 115, 116, 117, 118, 119, 120, 121, 126, 127, 128] (by decide +kernel) (by decide +kernel)
set_option maxRecDepth 20000 in
theorem gX7_pass_X7_isOut : GoodIn wsX7_pass (wsV RX7 106 RX7 yX7_isOut wsX7_isOut) := goodIn_app (goodIn_of _ (by decide +kernel)) ggX7_pass_X7_isOut
set_option maxRecDepth 20000 in
theorem ggX7_pass_X7_end : GoodIn wsX7_pass wsX7_end := goodIn_r _ [93, 2, 7, 94, 3, 95, 96, 97, 98, 99, 100, 101, 102, 103, 104, 105, 11, 106, 107, 25, 62, 45, 108, 109, 110, 111, 112, 113, 114, 115, 116, 117, 118, 119, 120, 121, 126, 127, 128] (by decide +kernel) (by decide +kernel)
set_option maxRecDepth 20000 in
theorem gX7_pass_X7_end : GoodIn wsX7_pass (wsV RX7 109 RX7 yX7_end wsX7_end) := goodIn_app (goodIn_of _ (by decide +kernel)) ggX7_pass_X7_end
theorem dX7_pass_0 : decode cX7_pass 0 = .ok (.aload_n 0, 1) := by decide +kernel
theorem dX7_pass_1 : decode cX7_pass 1 = .ok (.dup, 1) := by decide +kernel
theorem dX7_pass_2 : decode cX7_pass 2 = .ok (.getfield 99, 3) := by decide +kernel
theorem dX7_pass_5 : decode cX7_pass 5 = .ok (.iconst 1, 1) := by decide +kernel
theorem dX7_pass_6 : decode cX7_pass 6 = .ok (.iadd, 1) := by decide +kernel
theorem dX7_pass_7 : decode cX7_pass 7 = .ok (.putfield 99, 3) := by decide +kernel
theorem dX7_pass_10 : decode cX7_pass 10 = .ok (.aload_n 0, 1) := by decide +kernel
theorem dX7_pass_11 : decode cX7_pass 11 = .ok (.getfield 55, 3) := by decide +kernel
theorem dX7_pass_14 : decode cX7_pass 14 = .ok (.ifCond .ne 5, 3) := by decide +kernel
theorem dX7_pass_19 : decode cX7_pass 19 = .ok (.aload_n 0, 1) := by decide +kernel
theorem dX7_pass_20 : decode cX7_pass 20 = .ok (.dup, 1) := by decide +kernel
theorem dX7_pass_21 : decode cX7_pass 21 = .ok (.getfield 59, 3) := by decide +kernel
theorem dX7_pass_24 : decode cX7_pass 24 = .ok (.iconst 1, 1) := by decide +kernel
theorem dX7_pass_25 : decode cX7_pass 25 = .ok (.iadd, 1) := by decide +kernel
theorem dX7_pass_26 : decode cX7_pass 26 = .ok (.putfield 59, 3) := by decide +kernel
theorem dX7_pass_29 : decode cX7_pass 29 = .ok (.aload_n 0, 1) := by decide +kernel
theorem dX7_pass_30 : decode cX7_pass 30 = .ok (.getfield 12, 3) := by decide +kernel
theorem dX7_pass_33 : decode cX7_pass 33 = .ok (.invokevirtual 32, 3) := by decide +kernel
theorem dX7_pass_36 : decode cX7_pass 36 = .ok (.astore_n 1, 1) := by decide +kernel
theorem dX7_pass_37 : decode cX7_pass 37 = .ok (.aload_n 1, 1) := by decide +kernel
theorem dX7_pass_38 : decode cX7_pass 38 = .ok (.invokeinterface 36 1, 5) := by decide +kernel
theorem dX7_pass_43 : decode cX7_pass 43 = .ok (.ifCond .eq 21, 3) := by decide +kernel
theorem dX7_pass_64 : decode cX7_pass 64 = .ok (.aload_n 0, 1) := by decide +kernel
theorem dX7_pass_65 : decode cX7_pass 65 = .ok (.getfield 18, 3) := by decide +kernel
theorem dX7_pass_68 : decode cX7_pass 68 = .ok (.invokevirtual 32, 3) := by decide +kernel
theorem dX7_pass_71 : decode cX7_pass 71 = .ok (.astore_n 1, 1) := by decide +kernel
theorem dX7_pass_72 : decode cX7_pass 72 = .ok (.aload_n 1, 1) := by decide +kernel
theorem dX7_pass_73 : decode cX7_pass 73 = .ok (.invokeinterface 36 1, 5) := by decide +kernel
theorem dX7_pass_78 : decode cX7_pass 78 = .ok (.ifCond .eq 20, 3) := by decide +kernel
theorem dX7_pass_98 : decode cX7_pass 98 = .ok (.iconst 0, 1) := by decide +kernel
theorem dX7_pass_99 : decode cX7_pass 99 = .ok (.istore_n 1, 1) := by decide +kernel
theorem dX7_pass_100 : decode cX7_pass 100 = .ok (.iconst 0, 1) := by decide +kernel
theorem dX7_pass_101 : decode cX7_pass 101 = .ok (.istore_n 2, 1) := by decide +kernel
theorem dX7_pass_102 : decode cX7_pass 102 = .ok (.aload_n 0, 1) := by decide +kernel
theorem dX7_pass_103 : decode cX7_pass 103 = .ok (.getfield 55, 3) := by decide +kernel
