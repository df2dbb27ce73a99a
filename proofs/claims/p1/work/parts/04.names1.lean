theorem dX0_init_0 : decode cX0_init 0 = .ok (.aload_n 0, 1) := by decide +kernel
theorem dX0_init_1 : decode cX0_init 1 = .ok (.invokespecial 3, 3) := by decide +kernel
theorem dX0_init_4 : decode cX0_init 4 = .ok (.aload_n 0, 1) := by decide +kernel
theorem dX0_init_5 : decode cX0_init 5 = .ok (.iconst (-1), 1) := by decide +kernel
theorem dX0_init_6 : decode cX0_init 6 = .ok (.putfield 9, 3) := by decide +kernel
theorem dX0_init_9 : decode cX0_init 9 = .ok (.return_, 1) := by decide +kernel
theorem dX0_copyFrom_0 : decode cX0_copyFrom 0 = .ok (.aload_n 0, 1) := by decide +kernel
theorem dX0_copyFrom_1 : decode cX0_copyFrom 1 = .ok (.aload_n 1, 1) := by decide +kernel
theorem dX0_copyFrom_2 : decode cX0_copyFrom 2 = .ok (.getfield 15, 3) := by decide +kernel
theorem dX0_copyFrom_5 : decode cX0_copyFrom 5 = .ok (.putfield 15, 3) := by decide +kernel
theorem dX0_copyFrom_8 : decode cX0_copyFrom 8 = .ok (.aload_n 0, 1) := by decide +kernel
theorem dX0_copyFrom_9 : decode cX0_copyFrom 9 = .ok (.aload_n 1, 1) := by decide +kernel
theorem dX0_copyFrom_10 : decode cX0_copyFrom 10 = .ok (.getfield 19, 3) := by decide +kernel
theorem dX0_copyFrom_13 : decode cX0_copyFrom 13 = .ok (.putfield 19, 3) := by decide +kernel
theorem dX0_copyFrom_16 : decode cX0_copyFrom 16 = .ok (.aload_n 0, 1) := by decide +kernel
theorem dX0_copyFrom_17 : decode cX0_copyFrom 17 = .ok (.aload_n 1, 1) := by decide +kernel
theorem dX0_copyFrom_18 : decode cX0_copyFrom 18 = .ok (.getfield 22, 3) := by decide +kernel
theorem dX0_copyFrom_21 : decode cX0_copyFrom 21 = .ok (.putfield 22, 3) := by decide +kernel
theorem dX0_copyFrom_24 : decode cX0_copyFrom 24 = .ok (.aload_n 0, 1) := by decide +kernel
theorem dX0_copyFrom_25 : decode cX0_copyFrom 25 = .ok (.aload_n 1, 1) := by decide +kernel
theorem dX0_copyFrom_26 : decode cX0_copyFrom 26 = .ok (.getfield 25, 3) := by decide +kernel
theorem dX0_copyFrom_29 : decode cX0_copyFrom 29 = .ok (.putfield 25, 3) := by decide +kernel
theorem dX0_copyFrom_32 : decode cX0_copyFrom 32 = .ok (.aload_n 0, 1) := by decide +kernel
theorem dX0_copyFrom_33 : decode cX0_copyFrom 33 = .ok (.aload_n 1, 1) := by decide +kernel
theorem dX0_copyFrom_34 : decode cX0_copyFrom 34 = .ok (.getfield 28, 3) := by decide +kernel
theorem dX0_copyFrom_37 : decode cX0_copyFrom 37 = .ok (.putfield 28, 3) := by decide +kernel
theorem dX0_copyFrom_40 : decode cX0_copyFrom 40 = .ok (.aload_n 0, 1) := by decide +kernel
theorem dX0_copyFrom_41 : decode cX0_copyFrom 41 = .ok (.aload_n 1, 1) := by decide +kernel
theorem dX0_copyFrom_42 : decode cX0_copyFrom 42 = .ok (.getfield 9, 3) := by decide +kernel
theorem dX0_copyFrom_45 : decode cX0_copyFrom 45 = .ok (.putfield 9, 3) := by decide +kernel
theorem dX0_copyFrom_48 : decode cX0_copyFrom 48 = .ok (.aload_n 0, 1) := by decide +kernel
theorem dX0_copyFrom_49 : decode cX0_copyFrom 49 = .ok (.aload_n 1, 1) := by decide +kernel
theorem dX0_copyFrom_50 : decode cX0_copyFrom 50 = .ok (.getfield 31, 3) := by decide +kernel
theorem dX0_copyFrom_53 : decode cX0_copyFrom 53 = .ok (.putfield 31, 3) := by decide +kernel
theorem dX0_copyFrom_56 : decode cX0_copyFrom 56 = .ok (.return_, 1) := by decide +kernel
theorem dX0_start_0 : decode cX0_start 0 = .ok (.aload_n 0, 1) := by decide +kernel
theorem dX0_start_1 : decode cX0_start 1 = .ok (.iconst 1, 1) := by decide +kernel
theorem dX0_start_2 : decode cX0_start 2 = .ok (.putfield 15, 3) := by decide +kernel
theorem dX0_start_5 : decode cX0_start 5 = .ok (.aload_n 0, 1) := by decide +kernel
theorem dX0_start_6 : decode cX0_start 6 = .ok (.iconst 0, 1) := by decide +kernel
theorem dX0_start_7 : decode cX0_start 7 = .ok (.putfield 19, 3) := by decide +kernel
theorem dX0_start_10 : decode cX0_start 10 = .ok (.aload_n 0, 1) := by decide +kernel
theorem dX0_start_11 : decode cX0_start 11 = .ok (.iconst 0, 1) := by decide +kernel
theorem dX0_start_12 : decode cX0_start 12 = .ok (.putfield 22, 3) := by decide +kernel
theorem dX0_start_15 : decode cX0_start 15 = .ok (.return_, 1) := by decide +kernel
theorem dX0_endSolved_0 : decode cX0_endSolved 0 = .ok (.aload_n 0, 1) := by decide +kernel
theorem dX0_endSolved_1 : decode cX0_endSolved 1 = .ok (.iconst 0, 1) := by decide +kernel
theorem dX0_endSolved_2 : decode cX0_endSolved 2 = .ok (.putfield 15, 3) := by decide +kernel
theorem dX0_endSolved_5 : decode cX0_endSolved 5 = .ok (.aload_n 0, 1) := by decide +kernel
theorem dX0_endSolved_6 : decode cX0_endSolved 6 = .ok (.dup, 1) := by decide +kernel
theorem dX0_endSolved_7 : decode cX0_endSolved 7 = .ok (.getfield 25, 3) := by decide +kernel
theorem dX0_endSolved_10 : decode cX0_endSolved 10 = .ok (.iconst 1, 1) := by decide +kernel
theorem dX0_endSolved_11 : decode cX0_endSolved 11 = .ok (.iadd, 1) := by decide +kernel
theorem dX0_endSolved_12 : decode cX0_endSolved 12 = .ok (.putfield 25, 3) := by decide +kernel
theorem dX0_endSolved_15 : decode cX0_endSolved 15 = .ok (.aload_n 0, 1) := by decide +kernel
theorem dX0_endSolved_16 : decode cX0_endSolved 16 = .ok (.getfield 19, 3) := by decide +kernel
theorem dX0_endSolved_19 : decode cX0_endSolved 19 = .ok (.iconst 2, 1) := by decide +kernel
theorem dX0_endSolved_20 : decode cX0_endSolved 20 = .ok (.aload_n 0, 1) := by decide +kernel
theorem dX0_endSolved_21 : decode cX0_endSolved 21 = .ok (.getfield 22, 3) := by decide +kernel
theorem dX0_endSolved_24 : decode cX0_endSolved 24 = .ok (.imul, 1) := by decide +kernel
theorem dX0_endSolved_25 : decode cX0_endSolved 25 = .ok (.iadd, 1) := by decide +kernel
theorem dX0_endSolved_26 : decode cX0_endSolved 26 = .ok (.istore_n 1, 1) := by decide +kernel
theorem dX0_endSolved_27 : decode cX0_endSolved 27 = .ok (.aload_n 0, 1) := by decide +kernel
theorem dX0_endSolved_28 : decode cX0_endSolved 28 = .ok (.dup, 1) := by decide +kernel
theorem dX0_endSolved_29 : decode cX0_endSolved 29 = .ok (.getfield 31, 3) := by decide +kernel
theorem dX0_endSolved_32 : decode cX0_endSolved 32 = .ok (.iload_n 1, 1) := by decide +kernel
theorem dX0_endSolved_33 : decode cX0_endSolved 33 = .ok (.i2l, 1) := by decide +kernel
theorem dX0_endSolved_34 : decode cX0_endSolved 34 = .ok (.ladd, 1) := by decide +kernel
theorem dX0_endSolved_35 : decode cX0_endSolved 35 = .ok (.putfield 31, 3) := by decide +kernel
theorem dX0_endSolved_38 : decode cX0_endSolved 38 = .ok (.aload_n 0, 1) := by decide +kernel
theorem dX0_endSolved_39 : decode cX0_endSolved 39 = .ok (.getfield 9, 3) := by decide +kernel
theorem dX0_endSolved_42 : decode cX0_endSolved 42 = .ok (.iconst (-1), 1) := by decide +kernel
theorem dX0_endSolved_43 : decode cX0_endSolved 43 = .ok (.if_icmp .eq 11, 3) := by decide +kernel
theorem dX0_endSolved_46 : decode cX0_endSolved 46 = .ok (.iload_n 1, 1) := by decide +kernel
theorem dX0_endSolved_47 : decode cX0_endSolved 47 = .ok (.aload_n 0, 1) := by decide +kernel
theorem dX0_endSolved_48 : decode cX0_endSolved 48 = .ok (.getfield 9, 3) := by decide +kernel
theorem dX0_endSolved_51 : decode cX0_endSolved 51 = .ok (.if_icmp .ge 8, 3) := by decide +kernel
theorem dX0_endSolved_54 : decode cX0_endSolved 54 = .ok (.aload_n 0, 1) := by decide +kernel
theorem dX0_endSolved_55 : decode cX0_endSolved 55 = .ok (.iload_n 1, 1) := by decide +kernel
theorem dX0_endSolved_56 : decode cX0_endSolved 56 = .ok (.putfield 9, 3) := by decide +kernel
theorem dX0_endSolved_59 : decode cX0_endSolved 59 = .ok (.return_, 1) := by decide +kernel
theorem dX0_endLost_0 : decode cX0_endLost 0 = .ok (.aload_n 0, 1) := by decide +kernel
theorem dX0_endLost_1 : decode cX0_endLost 1 = .ok (.iconst 0, 1) := by decide +kernel
theorem dX0_endLost_2 : decode cX0_endLost 2 = .ok (.putfield 15, 3) := by decide +kernel
theorem dX0_endLost_5 : decode cX0_endLost 5 = .ok (.aload_n 0, 1) := by decide +kernel
theorem dX0_endLost_6 : decode cX0_endLost 6 = .ok (.dup, 1) := by decide +kernel
theorem dX0_endLost_7 : decode cX0_endLost 7 = .ok (.getfield 28, 3) := by decide +kernel
theorem dX0_endLost_10 : decode cX0_endLost 10 = .ok (.iconst 1, 1) := by decide +kernel
theorem dX0_endLost_11 : decode cX0_endLost 11 = .ok (.iadd, 1) := by decide +kernel
theorem dX0_endLost_12 : decode cX0_endLost 12 = .ok (.putfield 28, 3) := by decide +kernel
theorem dX0_endLost_15 : decode cX0_endLost 15 = .ok (.return_, 1) := by decide +kernel
theorem dX1_init_0 : decode cX1_init 0 = .ok (.aload_n 0, 1) := by decide +kernel
theorem dX1_init_1 : decode cX1_init 1 = .ok (.invokespecial 3, 3) := by decide +kernel
theorem dX1_init_4 : decode cX1_init 4 = .ok (.return_, 1) := by decide +kernel
theorem dX1_copyFrom_0 : decode cX1_copyFrom 0 = .ok (.aload_n 0, 1) := by decide +kernel
theorem dX1_copyFrom_1 : decode cX1_copyFrom 1 = .ok (.aload_n 1, 1) := by decide +kernel
theorem dX1_copyFrom_2 : decode cX1_copyFrom 2 = .ok (.getfield 9, 3) := by decide +kernel
theorem dX1_copyFrom_5 : decode cX1_copyFrom 5 = .ok (.putfield 9, 3) := by decide +kernel
theorem dX1_copyFrom_8 : decode cX1_copyFrom 8 = .ok (.aload_n 0, 1) := by decide +kernel
theorem dX1_copyFrom_9 : decode cX1_copyFrom 9 = .ok (.aload_n 1, 1) := by decide +kernel
theorem dX1_copyFrom_10 : decode cX1_copyFrom 10 = .ok (.getfield 15, 3) := by decide +kernel
theorem dX1_copyFrom_13 : decode cX1_copyFrom 13 = .ok (.putfield 15, 3) := by decide +kernel
theorem dX1_copyFrom_16 : decode cX1_copyFrom 16 = .ok (.aload_n 0, 1) := by decide +kernel
theorem dX1_copyFrom_17 : decode cX1_copyFrom 17 = .ok (.aload_n 1, 1) := by decide +kernel
theorem dX1_copyFrom_18 : decode cX1_copyFrom 18 = .ok (.getfield 18, 3) := by decide +kernel
theorem dX1_copyFrom_21 : decode cX1_copyFrom 21 = .ok (.putfield 18, 3) := by decide +kernel
theorem dX1_copyFrom_24 : decode cX1_copyFrom 24 = .ok (.aload_n 0, 1) := by decide +kernel
theorem dX1_copyFrom_25 : decode cX1_copyFrom 25 = .ok (.aload_n 1, 1) := by decide +kernel
theorem dX1_copyFrom_26 : decode cX1_copyFrom 26 = .ok (.getfield 21, 3) := by decide +kernel
theorem dX1_copyFrom_29 : decode cX1_copyFrom 29 = .ok (.putfield 21, 3) := by decide +kernel
theorem dX1_copyFrom_32 : decode cX1_copyFrom 32 = .ok (.aload_n 0, 1) := by decide +kernel
theorem dX1_copyFrom_33 : decode cX1_copyFrom 33 = .ok (.aload_n 1, 1) := by decide +kernel
theorem dX1_copyFrom_34 : decode cX1_copyFrom 34 = .ok (.getfield 25, 3) := by decide +kernel
theorem dX1_copyFrom_37 : decode cX1_copyFrom 37 = .ok (.putfield 25, 3) := by decide +kernel
theorem dX1_copyFrom_40 : decode cX1_copyFrom 40 = .ok (.aload_n 0, 1) := by decide +kernel
theorem dX1_copyFrom_41 : decode cX1_copyFrom 41 = .ok (.aload_n 1, 1) := by decide +kernel
theorem dX1_copyFrom_42 : decode cX1_copyFrom 42 = .ok (.getfield 28, 3) := by decide +kernel
theorem dX1_copyFrom_45 : decode cX1_copyFrom 45 = .ok (.putfield 28, 3) := by decide +kernel
theorem dX1_copyFrom_48 : decode cX1_copyFrom 48 = .ok (.aload_n 0, 1) := by decide +kernel
theorem dX1_copyFrom_49 : decode cX1_copyFrom 49 = .ok (.aload_n 1, 1) := by decide +kernel
theorem dX1_copyFrom_50 : decode cX1_copyFrom 50 = .ok (.getfield 31, 3) := by decide +kernel
theorem dX1_copyFrom_53 : decode cX1_copyFrom 53 = .ok (.putfield 31, 3) := by decide +kernel
theorem dX1_copyFrom_56 : decode cX1_copyFrom 56 = .ok (.aload_n 0, 1) := by decide +kernel
theorem dX1_copyFrom_57 : decode cX1_copyFrom 57 = .ok (.aload_n 1, 1) := by decide +kernel
theorem dX1_copyFrom_58 : decode cX1_copyFrom 58 = .ok (.getfield 34, 3) := by decide +kernel
theorem dX1_copyFrom_61 : decode cX1_copyFrom 61 = .ok (.putfield 34, 3) := by decide +kernel
theorem dX1_copyFrom_64 : decode cX1_copyFrom 64 = .ok (.aload_n 0, 1) := by decide +kernel
theorem dX1_copyFrom_65 : decode cX1_copyFrom 65 = .ok (.aload_n 1, 1) := by decide +kernel
theorem dX1_copyFrom_66 : decode cX1_copyFrom 66 = .ok (.getfield 37, 3) := by decide +kernel
theorem dX1_copyFrom_69 : decode cX1_copyFrom 69 = .ok (.putfield 37, 3) := by decide +kernel
theorem dX1_copyFrom_72 : decode cX1_copyFrom 72 = .ok (.aload_n 0, 1) := by decide +kernel
theorem dX1_copyFrom_73 : decode cX1_copyFrom 73 = .ok (.aload_n 1, 1) := by decide +kernel
theorem dX1_copyFrom_74 : decode cX1_copyFrom 74 = .ok (.getfield 40, 3) := by decide +kernel
theorem dX1_copyFrom_77 : decode cX1_copyFrom 77 = .ok (.putfield 40, 3) := by decide +kernel
theorem dX1_copyFrom_80 : decode cX1_copyFrom 80 = .ok (.return_, 1) := by decide +kernel
theorem dX1_isReady_0 : decode cX1_isReady 0 = .ok (.aload_n 0, 1) := by decide +kernel
theorem dX1_isReady_1 : decode cX1_isReady 1 = .ok (.getfield 25, 3) := by decide +kernel
theorem dX1_isReady_4 : decode cX1_isReady 4 = .ok (.ifCond .ne 25, 3) := by decide +kernel
theorem dX1_isReady_7 : decode cX1_isReady 7 = .ok (.aload_n 0, 1) := by decide +kernel
theorem dX1_isReady_8 : decode cX1_isReady 8 = .ok (.getfield 28, 3) := by decide +kernel
theorem dX1_isReady_11 : decode cX1_isReady 11 = .ok (.ifCond .ne 18, 3) := by decide +kernel
theorem dX1_isReady_14 : decode cX1_isReady 14 = .ok (.aload_n 0, 1) := by decide +kernel
theorem dX1_isReady_15 : decode cX1_isReady 15 = .ok (.getfield 9, 3) := by decide +kernel
theorem dX1_isReady_18 : decode cX1_isReady 18 = .ok (.iload_n 1, 1) := by decide +kernel
theorem dX1_isReady_19 : decode cX1_isReady 19 = .ok (.iconst (-1), 1) := by decide +kernel
theorem dX1_isReady_20 : decode cX1_isReady 20 = .ok (.ixor, 1) := by decide +kernel
theorem dX1_isReady_21 : decode cX1_isReady 21 = .ok (.iand, 1) := by decide +kernel
theorem dX1_isReady_22 : decode cX1_isReady 22 = .ok (.ifCond .ne 7, 3) := by decide +kernel
theorem dX1_isReady_25 : decode cX1_isReady 25 = .ok (.iconst 1, 1) := by decide +kernel
theorem dX1_isReady_26 : decode cX1_isReady 26 = .ok (.goto 4, 3) := by decide +kernel
theorem dX1_isReady_29 : decode cX1_isReady 29 = .ok (.iconst 0, 1) := by decide +kernel
theorem dX1_isReady_30 : decode cX1_isReady 30 = .ok (.ireturn, 1) := by decide +kernel
theorem dX1_takeHint_0 : decode cX1_takeHint 0 = .ok (.aload_n 0, 1) := by decide +kernel
theorem dX1_takeHint_1 : decode cX1_takeHint 1 = .ok (.dup, 1) := by decide +kernel
theorem dX1_takeHint_2 : decode cX1_takeHint 2 = .ok (.getfield 34, 3) := by decide +kernel
theorem dX1_takeHint_5 : decode cX1_takeHint 5 = .ok (.iconst 1, 1) := by decide +kernel
theorem dX1_takeHint_6 : decode cX1_takeHint 6 = .ok (.iadd, 1) := by decide +kernel
theorem dX1_takeHint_7 : decode cX1_takeHint 7 = .ok (.putfield 34, 3) := by decide +kernel
theorem dX1_takeHint_10 : decode cX1_takeHint 10 = .ok (.aload_n 0, 1) := by decide +kernel
theorem dX1_takeHint_11 : decode cX1_takeHint 11 = .ok (.dup, 1) := by decide +kernel
theorem dX1_takeHint_12 : decode cX1_takeHint 12 = .ok (.getfield 31, 3) := by decide +kernel
theorem dX1_takeHint_15 : decode cX1_takeHint 15 = .ok (.aload_n 0, 1) := by decide +kernel
theorem dX1_takeHint_16 : decode cX1_takeHint 16 = .ok (.getfield 18, 3) := by decide +kernel
theorem dX1_takeHint_19 : decode cX1_takeHint 19 = .ok (.aload_n 0, 1) := by decide +kernel
theorem dX1_takeHint_20 : decode cX1_takeHint 20 = .ok (.getfield 31, 3) := by decide +kernel
theorem dX1_takeHint_23 : decode cX1_takeHint 23 = .ok (.isub, 1) := by decide +kernel
theorem dX1_takeHint_24 : decode cX1_takeHint 24 = .ok (.iconst 2, 1) := by decide +kernel
theorem dX1_takeHint_25 : decode cX1_takeHint 25 = .ok (.idiv, 1) := by decide +kernel
theorem dX1_takeHint_26 : decode cX1_takeHint 26 = .ok (.iadd, 1) := by decide +kernel
theorem dX1_takeHint_27 : decode cX1_takeHint 27 = .ok (.putfield 31, 3) := by decide +kernel
theorem dX1_takeHint_30 : decode cX1_takeHint 30 = .ok (.return_, 1) := by decide +kernel
theorem dX1_openByWork_0 : decode cX1_openByWork 0 = .ok (.aload_n 0, 1) := by decide +kernel
theorem dX1_openByWork_1 : decode cX1_openByWork 1 = .ok (.iconst 1, 1) := by decide +kernel
theorem dX1_openByWork_2 : decode cX1_openByWork 2 = .ok (.putfield 25, 3) := by decide +kernel
theorem dX1_openByWork_5 : decode cX1_openByWork 5 = .ok (.aload_n 0, 1) := by decide +kernel
theorem dX1_openByWork_6 : decode cX1_openByWork 6 = .ok (.dup, 1) := by decide +kernel
theorem dX1_openByWork_7 : decode cX1_openByWork 7 = .ok (.getfield 37, 3) := by decide +kernel
theorem dX1_openByWork_10 : decode cX1_openByWork 10 = .ok (.iconst 1, 1) := by decide +kernel
theorem dX1_openByWork_11 : decode cX1_openByWork 11 = .ok (.iadd, 1) := by decide +kernel
theorem dX1_openByWork_12 : decode cX1_openByWork 12 = .ok (.putfield 37, 3) := by decide +kernel
theorem dX1_openByWork_15 : decode cX1_openByWork 15 = .ok (.aload_n 0, 1) := by decide +kernel
theorem dX1_openByWork_16 : decode cX1_openByWork 16 = .ok (.getfield 37, 3) := by decide +kernel
theorem dX1_openByWork_19 : decode cX1_openByWork 19 = .ok (.iconst 3, 1) := by decide +kernel
theorem dX1_openByWork_20 : decode cX1_openByWork 20 = .ok (.if_icmp .lt 8, 3) := by decide +kernel
theorem dX1_openByWork_23 : decode cX1_openByWork 23 = .ok (.aload_n 0, 1) := by decide +kernel
theorem dX1_openByWork_24 : decode cX1_openByWork 24 = .ok (.iconst 1, 1) := by decide +kernel
theorem dX1_openByWork_25 : decode cX1_openByWork 25 = .ok (.putfield 28, 3) := by decide +kernel
theorem dX1_openByWork_28 : decode cX1_openByWork 28 = .ok (.return_, 1) := by decide +kernel
theorem dX1_close_0 : decode cX1_close 0 = .ok (.aload_n 0, 1) := by decide +kernel
theorem dX1_close_1 : decode cX1_close 1 = .ok (.iconst 0, 1) := by decide +kernel
theorem dX1_close_2 : decode cX1_close 2 = .ok (.putfield 25, 3) := by decide +kernel
theorem dX1_close_5 : decode cX1_close 5 = .ok (.aload_n 0, 1) := by decide +kernel
theorem dX1_close_6 : decode cX1_close 6 = .ok (.iconst 0, 1) := by decide +kernel
theorem dX1_close_7 : decode cX1_close 7 = .ok (.putfield 31, 3) := by decide +kernel
theorem dX1_close_10 : decode cX1_close 10 = .ok (.aload_n 0, 1) := by decide +kernel
theorem dX1_close_11 : decode cX1_close 11 = .ok (.iconst 0, 1) := by decide +kernel
theorem dX1_close_12 : decode cX1_close 12 = .ok (.putfield 34, 3) := by decide +kernel
theorem dX1_close_15 : decode cX1_close 15 = .ok (.return_, 1) := by decide +kernel
theorem dX1_mend_0 : decode cX1_mend 0 = .ok (.aload_n 0, 1) := by decide +kernel
theorem dX1_mend_1 : decode cX1_mend 1 = .ok (.iconst 0, 1) := by decide +kernel
theorem dX1_mend_2 : decode cX1_mend 2 = .ok (.putfield 28, 3) := by decide +kernel
theorem dX1_mend_5 : decode cX1_mend 5 = .ok (.aload_n 0, 1) := by decide +kernel
theorem dX1_mend_6 : decode cX1_mend 6 = .ok (.iconst 0, 1) := by decide +kernel
theorem dX1_mend_7 : decode cX1_mend 7 = .ok (.putfield 37, 3) := by decide +kernel
theorem dX1_mend_10 : decode cX1_mend 10 = .ok (.return_, 1) := by decide +kernel
theorem dX2_init_0 : decode cX2_init 0 = .ok (.aload_n 0, 1) := by decide +kernel
theorem dX2_init_1 : decode cX2_init 1 = .ok (.invokespecial 3, 3) := by decide +kernel
theorem dX2_init_4 : decode cX2_init 4 = .ok (.return_, 1) := by decide +kernel
set_option maxRecDepth 20000 in
theorem ggX2_come_X2_rest : GoodIn wsX2_come wsX2_rest := goodIn_r _ [7, 8, 9, 10, 11, 12, 13] (by decide +kernel) (by decide +kernel)
set_option maxRecDepth 20000 in
theorem gX2_come_X2_rest : GoodIn wsX2_come (wsV RX2 18 RX2 yX2_rest wsX2_rest) := goodIn_app (goodIn_of _ (by decide +kernel)) ggX2_come_X2_rest
theorem dX2_come_0 : decode cX2_come 0 = .ok (.aload_n 0, 1) := by decide +kernel
theorem dX2_come_1 : decode cX2_come 1 = .ok (.iload_n 1, 1) := by decide +kernel
theorem dX2_come_2 : decode cX2_come 2 = .ok (.putfield 9, 3) := by decide +kernel
theorem dX2_come_5 : decode cX2_come 5 = .ok (.aload_n 0, 1) := by decide +kernel
theorem dX2_come_6 : decode cX2_come 6 = .ok (.iconst 0, 1) := by decide +kernel
theorem dX2_come_7 : decode cX2_come 7 = .ok (.putfield 15, 3) := by decide +kernel
theorem dX2_come_10 : decode cX2_come 10 = .ok (.aload_n 0, 1) := by decide +kernel
theorem dX2_come_11 : decode cX2_come 11 = .ok (.invokevirtual 18, 3) := by decide +kernel
theorem dX2_come_14 : decode cX2_come 14 = .ok (.return_, 1) := by decide +kernel
theorem dX2_rest_0 : decode cX2_rest 0 = .ok (.aload_n 0, 1) := by decide +kernel
theorem dX2_rest_1 : decode cX2_rest 1 = .ok (.iconst (-1), 1) := by decide +kernel
theorem dX2_rest_2 : decode cX2_rest 2 = .ok (.putfield 21, 3) := by decide +kernel
theorem dX2_rest_5 : decode cX2_rest 5 = .ok (.aload_n 0, 1) := by decide +kernel
theorem dX2_rest_6 : decode cX2_rest 6 = .ok (.iconst (-1), 1) := by decide +kernel
theorem dX2_rest_7 : decode cX2_rest 7 = .ok (.putfield 24, 3) := by decide +kernel
theorem dX2_rest_10 : decode cX2_rest 10 = .ok (.return_, 1) := by decide +kernel
theorem dX2_copyFrom_0 : decode cX2_copyFrom 0 = .ok (.aload_n 0, 1) := by decide +kernel
theorem dX2_copyFrom_1 : decode cX2_copyFrom 1 = .ok (.aload_n 1, 1) := by decide +kernel
theorem dX2_copyFrom_2 : decode cX2_copyFrom 2 = .ok (.getfield 9, 3) := by decide +kernel
theorem dX2_copyFrom_5 : decode cX2_copyFrom 5 = .ok (.putfield 9, 3) := by decide +kernel
theorem dX2_copyFrom_8 : decode cX2_copyFrom 8 = .ok (.aload_n 0, 1) := by decide +kernel
theorem dX2_copyFrom_9 : decode cX2_copyFrom 9 = .ok (.aload_n 1, 1) := by decide +kernel
theorem dX2_copyFrom_10 : decode cX2_copyFrom 10 = .ok (.getfield 21, 3) := by decide +kernel
theorem dX2_copyFrom_13 : decode cX2_copyFrom 13 = .ok (.putfield 21, 3) := by decide +kernel
theorem dX2_copyFrom_16 : decode cX2_copyFrom 16 = .ok (.aload_n 0, 1) := by decide +kernel
theorem dX2_copyFrom_17 : decode cX2_copyFrom 17 = .ok (.aload_n 1, 1) := by decide +kernel
theorem dX2_copyFrom_18 : decode cX2_copyFrom 18 = .ok (.getfield 24, 3) := by decide +kernel
theorem dX2_copyFrom_21 : decode cX2_copyFrom 21 = .ok (.putfield 24, 3) := by decide +kernel
theorem dX2_copyFrom_24 : decode cX2_copyFrom 24 = .ok (.aload_n 0, 1) := by decide +kernel
theorem dX2_copyFrom_25 : decode cX2_copyFrom 25 = .ok (.aload_n 1, 1) := by decide +kernel
theorem dX2_copyFrom_26 : decode cX2_copyFrom 26 = .ok (.getfield 15, 3) := by decide +kernel
theorem dX2_copyFrom_29 : decode cX2_copyFrom 29 = .ok (.putfield 15, 3) := by decide +kernel
theorem dX2_copyFrom_32 : decode cX2_copyFrom 32 = .ok (.return_, 1) := by decide +kernel
set_option maxRecDepth 20000 in
theorem ggX3_init_X0_init : GoodIn wsX3_init wsX0_init := goodIn_r _ [23, 24, 2, 3, 25, 47, 48, 49, 50, 51, 52, 53] (by decide +kernel) (by decide +kernel)
set_option maxRecDepth 20000 in
theorem gX3_init_X0_init_n31 : GoodIn wsX3_init (wsX0_init) := ggX3_init_X0_init
set_option maxRecDepth 20000 in
theorem ggX3_init_X1_init : GoodIn wsX3_init wsX1_init := goodIn_r _ [27, 28, 2, 3] (by decide +kernel) (by decide +kernel)
set_option maxRecDepth 20000 in
theorem gX3_init_X1_init_n44 : GoodIn wsX3_init (wsX1_init) := ggX3_init_X1_init
set_option maxRecDepth 20000 in
theorem ggX3_init_X5_init : GoodIn wsX3_init wsX5_init := goodIn_r _ [30, 31, 2, 3] (by decide +kernel) (by decide +kernel)
set_option maxRecDepth 20000 in
theorem gX3_init_X5_init_n45 : GoodIn wsX3_init (wsX5_init) := ggX3_init_X5_init
set_option maxRecDepth 20000 in
theorem ggX3_init_X2_init : GoodIn wsX3_init wsX2_init := goodIn_r _ [33, 34, 2, 3] (by decide +kernel) (by decide +kernel)
set_option maxRecDepth 20000 in
theorem gX3_init_X2_init_n46 : GoodIn wsX3_init (wsX2_init) := ggX3_init_X2_init
theorem dX3_init_0 : decode cX3_init 0 = .ok (.aload_n 0, 1) := by decide +kernel
theorem dX3_init_1 : decode cX3_init 1 = .ok (.invokespecial 3, 3) := by decide +kernel
theorem dX3_init_4 : decode cX3_init 4 = .ok (.aload_n 0, 1) := by decide +kernel
theorem dX3_init_5 : decode cX3_init 5 = .ok (.bipush 10, 2) := by decide +kernel
theorem dX3_init_7 : decode cX3_init 7 = .ok (.anewarray 9, 3) := by decide +kernel
theorem dX3_init_10 : decode cX3_init 10 = .ok (.putfield 11, 3) := by decide +kernel
theorem dX3_init_13 : decode cX3_init 13 = .ok (.aload_n 0, 1) := by decide +kernel
theorem dX3_init_14 : decode cX3_init 14 = .ok (.bipush 12, 2) := by decide +kernel
theorem dX3_init_16 : decode cX3_init 16 = .ok (.anewarray 17, 3) := by decide +kernel
theorem dX3_init_19 : decode cX3_init 19 = .ok (.putfield 19, 3) := by decide +kernel
theorem dX3_init_22 : decode cX3_init 22 = .ok (.aload_n 0, 1) := by decide +kernel
theorem dX3_init_23 : decode cX3_init 23 = .ok (.bipush 6, 2) := by decide +kernel
theorem dX3_init_25 : decode cX3_init 25 = .ok (.anewarray 23, 3) := by decide +kernel
theorem dX3_init_28 : decode cX3_init 28 = .ok (.putfield 25, 3) := by decide +kernel
theorem dX3_init_31 : decode cX3_init 31 = .ok (.aload_n 0, 1) := by decide +kernel
theorem dX3_init_32 : decode cX3_init 32 = .ok (.new 29, 3) := by decide +kernel
theorem dX3_init_35 : decode cX3_init 35 = .ok (.dup, 1) := by decide +kernel
theorem dX3_init_36 : decode cX3_init 36 = .ok (.invokespecial 31, 3) := by decide +kernel
theorem dX3_init_39 : decode cX3_init 39 = .ok (.putfield 32, 3) := by decide +kernel
theorem dX3_init_42 : decode cX3_init 42 = .ok (.aload_n 0, 1) := by decide +kernel
theorem dX3_init_43 : decode cX3_init 43 = .ok (.iconst (-1), 1) := by decide +kernel
theorem dX3_init_44 : decode cX3_init 44 = .ok (.putfield 36, 3) := by decide +kernel
theorem dX3_init_47 : decode cX3_init 47 = .ok (.aload_n 0, 1) := by decide +kernel
theorem dX3_init_48 : decode cX3_init 48 = .ok (.iconst 1, 1) := by decide +kernel
theorem dX3_init_49 : decode cX3_init 49 = .ok (.putfield 40, 3) := by decide +kernel
theorem dX3_init_52 : decode cX3_init 52 = .ok (.iconst 0, 1) := by decide +kernel
theorem dX3_init_53 : decode cX3_init 53 = .ok (.istore_n 1, 1) := by decide +kernel
theorem dX3_init_54 : decode cX3_init 54 = .ok (.iload_n 1, 1) := by decide +kernel
theorem dX3_init_55 : decode cX3_init 55 = .ok (.bipush 10, 2) := by decide +kernel
theorem dX3_init_57 : decode cX3_init 57 = .ok (.if_icmp .ge 22, 3) := by decide +kernel
theorem dX3_init_60 : decode cX3_init 60 = .ok (.aload_n 0, 1) := by decide +kernel
theorem dX3_init_61 : decode cX3_init 61 = .ok (.getfield 11, 3) := by decide +kernel
theorem dX3_init_64 : decode cX3_init 64 = .ok (.iload_n 1, 1) := by decide +kernel
theorem dX3_init_65 : decode cX3_init 65 = .ok (.new 9, 3) := by decide +kernel
theorem dX3_init_68 : decode cX3_init 68 = .ok (.dup, 1) := by decide +kernel
theorem dX3_init_69 : decode cX3_init 69 = .ok (.invokespecial 44, 3) := by decide +kernel
theorem dX3_init_72 : decode cX3_init 72 = .ok (.aastore, 1) := by decide +kernel
theorem dX3_init_73 : decode cX3_init 73 = .ok (.iinc 1 1, 3) := by decide +kernel
theorem dX3_init_76 : decode cX3_init 76 = .ok (.goto (-22), 3) := by decide +kernel
theorem dX3_init_79 : decode cX3_init 79 = .ok (.iconst 0, 1) := by decide +kernel
theorem dX3_init_80 : decode cX3_init 80 = .ok (.istore_n 1, 1) := by decide +kernel
theorem dX3_init_81 : decode cX3_init 81 = .ok (.iload_n 1, 1) := by decide +kernel
theorem dX3_init_82 : decode cX3_init 82 = .ok (.bipush 12, 2) := by decide +kernel
theorem dX3_init_84 : decode cX3_init 84 = .ok (.if_icmp .ge 22, 3) := by decide +kernel
theorem dX3_init_87 : decode cX3_init 87 = .ok (.aload_n 0, 1) := by decide +kernel
theorem dX3_init_88 : decode cX3_init 88 = .ok (.getfield 19, 3) := by decide +kernel
theorem dX3_init_91 : decode cX3_init 91 = .ok (.iload_n 1, 1) := by decide +kernel
theorem dX3_init_92 : decode cX3_init 92 = .ok (.new 17, 3) := by decide +kernel
theorem dX3_init_95 : decode cX3_init 95 = .ok (.dup, 1) := by decide +kernel
theorem dX3_init_96 : decode cX3_init 96 = .ok (.invokespecial 45, 3) := by decide +kernel
theorem dX3_init_99 : decode cX3_init 99 = .ok (.aastore, 1) := by decide +kernel
theorem dX3_init_100 : decode cX3_init 100 = .ok (.iinc 1 1, 3) := by decide +kernel
theorem dX3_init_103 : decode cX3_init 103 = .ok (.goto (-22), 3) := by decide +kernel
theorem dX3_init_106 : decode cX3_init 106 = .ok (.iconst 0, 1) := by decide +kernel
theorem dX3_init_107 : decode cX3_init 107 = .ok (.istore_n 1, 1) := by decide +kernel
theorem dX3_init_108 : decode cX3_init 108 = .ok (.iload_n 1, 1) := by decide +kernel
theorem dX3_init_109 : decode cX3_init 109 = .ok (.bipush 6, 2) := by decide +kernel
theorem dX3_init_111 : decode cX3_init 111 = .ok (.if_icmp .ge 22, 3) := by decide +kernel
theorem dX3_init_114 : decode cX3_init 114 = .ok (.aload_n 0, 1) := by decide +kernel
theorem dX3_init_115 : decode cX3_init 115 = .ok (.getfield 25, 3) := by decide +kernel
theorem dX3_init_118 : decode cX3_init 118 = .ok (.iload_n 1, 1) := by decide +kernel
theorem dX3_init_119 : decode cX3_init 119 = .ok (.new 23, 3) := by decide +kernel
theorem dX3_init_122 : decode cX3_init 122 = .ok (.dup, 1) := by decide +kernel
theorem dX3_init_123 : decode cX3_init 123 = .ok (.invokespecial 46, 3) := by decide +kernel
theorem dX3_init_126 : decode cX3_init 126 = .ok (.aastore, 1) := by decide +kernel
theorem dX3_init_127 : decode cX3_init 127 = .ok (.iinc 1 1, 3) := by decide +kernel
theorem dX3_init_130 : decode cX3_init 130 = .ok (.goto (-22), 3) := by decide +kernel
theorem dX3_init_133 : decode cX3_init 133 = .ok (.return_, 1) := by decide +kernel
set_option maxRecDepth 20000 in
theorem ggX3_copyFrom_X1_copyFrom : GoodIn wsX3_copyFrom wsX1_copyFrom := goodIn_r _ [17, 18, 19, 20, 21, 22, 23, 24, 25, 26, 27, 71, 72, 73, 74, 75, 76, 77, 78, 79, 80] (by decide +kernel) (by decide +kernel)
set_option maxRecDepth 20000 in
theorem gX3_copyFrom_X1_copyFrom : GoodIn wsX3_copyFrom (wsV RX3 50 RX1 yX1_copyFrom wsX1_copyFrom) := goodIn_app (goodIn_of _ (by decide +kernel)) ggX3_copyFrom_X1_copyFrom
set_option maxRecDepth 20000 in
theorem ggX3_copyFrom_X5_copyFrom : GoodIn wsX3_copyFrom wsX5_copyFrom := goodIn_r _ [32, 33, 34, 35, 36, 37, 81, 82, 83, 84, 85] (by decide +kernel) (by decide +kernel)
set_option maxRecDepth 20000 in
theorem gX3_copyFrom_X5_copyFrom : GoodIn wsX3_copyFrom (wsV RX3 57 RX5 yX5_copyFrom wsX5_copyFrom) := goodIn_app (goodIn_of _ (by decide +kernel)) ggX3_copyFrom_X5_copyFrom
set_option maxRecDepth 20000 in
theorem ggX3_copyFrom_X2_copyFrom : GoodIn wsX3_copyFrom wsX2_copyFrom := goodIn_r _ [42, 43, 44, 45, 46, 86, 87, 88, 89] (by decide +kernel) (by decide +kernel)
set_option maxRecDepth 20000 in
theorem gX3_copyFrom_X2_copyFrom : GoodIn wsX3_copyFrom (wsV RX3 63 RX2 yX2_copyFrom wsX2_copyFrom) := goodIn_app (goodIn_of _ (by decide +kernel)) ggX3_copyFrom_X2_copyFrom
set_option maxRecDepth 20000 in
theorem ggX3_copyFrom_X0_copyFrom : GoodIn wsX3_copyFrom wsX0_copyFrom := goodIn_r _ [51, 52, 53, 54, 55, 56, 57, 58, 90, 91, 92, 93, 94, 95, 96] (by decide +kernel) (by decide +kernel)
set_option maxRecDepth 20000 in
theorem gX3_copyFrom_X0_copyFrom : GoodIn wsX3_copyFrom (wsV RX3 66 RX0 yX0_copyFrom wsX0_copyFrom) := goodIn_app (goodIn_of _ (by decide +kernel)) ggX3_copyFrom_X0_copyFrom
theorem dX3_copyFrom_0 : decode cX3_copyFrom 0 = .ok (.iconst 0, 1) := by decide +kernel
theorem dX3_copyFrom_1 : decode cX3_copyFrom 1 = .ok (.istore_n 2, 1) := by decide +kernel
theorem dX3_copyFrom_2 : decode cX3_copyFrom 2 = .ok (.iload_n 2, 1) := by decide +kernel
theorem dX3_copyFrom_3 : decode cX3_copyFrom 3 = .ok (.aload_n 1, 1) := by decide +kernel
theorem dX3_copyFrom_4 : decode cX3_copyFrom 4 = .ok (.getfield 47, 3) := by decide +kernel
theorem dX3_copyFrom_7 : decode cX3_copyFrom 7 = .ok (.if_icmp .ge 24, 3) := by decide +kernel
theorem dX3_copyFrom_10 : decode cX3_copyFrom 10 = .ok (.aload_n 0, 1) := by decide +kernel
theorem dX3_copyFrom_11 : decode cX3_copyFrom 11 = .ok (.getfield 11, 3) := by decide +kernel
theorem dX3_copyFrom_14 : decode cX3_copyFrom 14 = .ok (.iload_n 2, 1) := by decide +kernel
theorem dX3_copyFrom_15 : decode cX3_copyFrom 15 = .ok (.aaload, 1) := by decide +kernel
theorem dX3_copyFrom_16 : decode cX3_copyFrom 16 = .ok (.aload_n 1, 1) := by decide +kernel
theorem dX3_copyFrom_17 : decode cX3_copyFrom 17 = .ok (.getfield 11, 3) := by decide +kernel
theorem dX3_copyFrom_20 : decode cX3_copyFrom 20 = .ok (.iload_n 2, 1) := by decide +kernel
theorem dX3_copyFrom_21 : decode cX3_copyFrom 21 = .ok (.aaload, 1) := by decide +kernel
theorem dX3_copyFrom_22 : decode cX3_copyFrom 22 = .ok (.invokevirtual 50, 3) := by decide +kernel
theorem dX3_copyFrom_25 : decode cX3_copyFrom 25 = .ok (.iinc 2 1, 3) := by decide +kernel
theorem dX3_copyFrom_28 : decode cX3_copyFrom 28 = .ok (.goto (-26), 3) := by decide +kernel
theorem dX3_copyFrom_31 : decode cX3_copyFrom 31 = .ok (.iconst 0, 1) := by decide +kernel
theorem dX3_copyFrom_32 : decode cX3_copyFrom 32 = .ok (.istore_n 2, 1) := by decide +kernel
theorem dX3_copyFrom_33 : decode cX3_copyFrom 33 = .ok (.iload_n 2, 1) := by decide +kernel
theorem dX3_copyFrom_34 : decode cX3_copyFrom 34 = .ok (.aload_n 1, 1) := by decide +kernel
theorem dX3_copyFrom_35 : decode cX3_copyFrom 35 = .ok (.getfield 54, 3) := by decide +kernel
theorem dX3_copyFrom_38 : decode cX3_copyFrom 38 = .ok (.if_icmp .ge 24, 3) := by decide +kernel
theorem dX3_copyFrom_41 : decode cX3_copyFrom 41 = .ok (.aload_n 0, 1) := by decide +kernel
theorem dX3_copyFrom_42 : decode cX3_copyFrom 42 = .ok (.getfield 19, 3) := by decide +kernel
theorem dX3_copyFrom_45 : decode cX3_copyFrom 45 = .ok (.iload_n 2, 1) := by decide +kernel
theorem dX3_copyFrom_46 : decode cX3_copyFrom 46 = .ok (.aaload, 1) := by decide +kernel
theorem dX3_copyFrom_47 : decode cX3_copyFrom 47 = .ok (.aload_n 1, 1) := by decide +kernel
theorem dX3_copyFrom_48 : decode cX3_copyFrom 48 = .ok (.getfield 19, 3) := by decide +kernel
theorem dX3_copyFrom_51 : decode cX3_copyFrom 51 = .ok (.iload_n 2, 1) := by decide +kernel
theorem dX3_copyFrom_52 : decode cX3_copyFrom 52 = .ok (.aaload, 1) := by decide +kernel
theorem dX3_copyFrom_53 : decode cX3_copyFrom 53 = .ok (.invokevirtual 57, 3) := by decide +kernel
theorem dX3_copyFrom_56 : decode cX3_copyFrom 56 = .ok (.iinc 2 1, 3) := by decide +kernel
theorem dX3_copyFrom_59 : decode cX3_copyFrom 59 = .ok (.goto (-26), 3) := by decide +kernel
theorem dX3_copyFrom_62 : decode cX3_copyFrom 62 = .ok (.iconst 0, 1) := by decide +kernel
theorem dX3_copyFrom_63 : decode cX3_copyFrom 63 = .ok (.istore_n 2, 1) := by decide +kernel
theorem dX3_copyFrom_64 : decode cX3_copyFrom 64 = .ok (.iload_n 2, 1) := by decide +kernel
theorem dX3_copyFrom_65 : decode cX3_copyFrom 65 = .ok (.aload_n 1, 1) := by decide +kernel
theorem dX3_copyFrom_66 : decode cX3_copyFrom 66 = .ok (.getfield 60, 3) := by decide +kernel
theorem dX3_copyFrom_69 : decode cX3_copyFrom 69 = .ok (.if_icmp .ge 24, 3) := by decide +kernel
theorem dX3_copyFrom_72 : decode cX3_copyFrom 72 = .ok (.aload_n 0, 1) := by decide +kernel
theorem dX3_copyFrom_73 : decode cX3_copyFrom 73 = .ok (.getfield 25, 3) := by decide +kernel
theorem dX3_copyFrom_76 : decode cX3_copyFrom 76 = .ok (.iload_n 2, 1) := by decide +kernel
theorem dX3_copyFrom_77 : decode cX3_copyFrom 77 = .ok (.aaload, 1) := by decide +kernel
theorem dX3_copyFrom_78 : decode cX3_copyFrom 78 = .ok (.aload_n 1, 1) := by decide +kernel
theorem dX3_copyFrom_79 : decode cX3_copyFrom 79 = .ok (.getfield 25, 3) := by decide +kernel
theorem dX3_copyFrom_82 : decode cX3_copyFrom 82 = .ok (.iload_n 2, 1) := by decide +kernel
theorem dX3_copyFrom_83 : decode cX3_copyFrom 83 = .ok (.aaload, 1) := by decide +kernel
theorem dX3_copyFrom_84 : decode cX3_copyFrom 84 = .ok (.invokevirtual 63, 3) := by decide +kernel
theorem dX3_copyFrom_87 : decode cX3_copyFrom 87 = .ok (.iinc 2 1, 3) := by decide +kernel
theorem dX3_copyFrom_90 : decode cX3_copyFrom 90 = .ok (.goto (-26), 3) := by decide +kernel
theorem dX3_copyFrom_93 : decode cX3_copyFrom 93 = .ok (.aload_n 0, 1) := by decide +kernel
theorem dX3_copyFrom_94 : decode cX3_copyFrom 94 = .ok (.getfield 32, 3) := by decide +kernel
theorem dX3_copyFrom_97 : decode cX3_copyFrom 97 = .ok (.aload_n 1, 1) := by decide +kernel
theorem dX3_copyFrom_98 : decode cX3_copyFrom 98 = .ok (.getfield 32, 3) := by decide +kernel
theorem dX3_copyFrom_101 : decode cX3_copyFrom 101 = .ok (.invokevirtual 66, 3) := by decide +kernel
theorem dX3_copyFrom_104 : decode cX3_copyFrom 104 = .ok (.aload_n 0, 1) := by decide +kernel
theorem dX3_copyFrom_105 : decode cX3_copyFrom 105 = .ok (.aload_n 1, 1) := by decide +kernel
theorem dX3_copyFrom_106 : decode cX3_copyFrom 106 = .ok (.getfield 47, 3) := by decide +kernel
theorem dX3_copyFrom_109 : decode cX3_copyFrom 109 = .ok (.putfield 47, 3) := by decide +kernel
theorem dX3_copyFrom_112 : decode cX3_copyFrom 112 = .ok (.aload_n 0, 1) := by decide +kernel
theorem dX3_copyFrom_113 : decode cX3_copyFrom 113 = .ok (.aload_n 1, 1) := by decide +kernel
theorem dX3_copyFrom_114 : decode cX3_copyFrom 114 = .ok (.getfield 54, 3) := by decide +kernel
theorem dX3_copyFrom_117 : decode cX3_copyFrom 117 = .ok (.putfield 54, 3) := by decide +kernel
theorem dX3_copyFrom_120 : decode cX3_copyFrom 120 = .ok (.aload_n 0, 1) := by decide +kernel
theorem dX3_copyFrom_121 : decode cX3_copyFrom 121 = .ok (.aload_n 1, 1) := by decide +kernel
theorem dX3_copyFrom_122 : decode cX3_copyFrom 122 = .ok (.getfield 60, 3) := by decide +kernel
theorem dX3_copyFrom_125 : decode cX3_copyFrom 125 = .ok (.putfield 60, 3) := by decide +kernel
theorem dX3_copyFrom_128 : decode cX3_copyFrom 128 = .ok (.aload_n 0, 1) := by decide +kernel
theorem dX3_copyFrom_129 : decode cX3_copyFrom 129 = .ok (.aload_n 1, 1) := by decide +kernel
theorem dX3_copyFrom_130 : decode cX3_copyFrom 130 = .ok (.getfield 36, 3) := by decide +kernel
theorem dX3_copyFrom_133 : decode cX3_copyFrom 133 = .ok (.putfield 36, 3) := by decide +kernel
theorem dX3_copyFrom_136 : decode cX3_copyFrom 136 = .ok (.aload_n 0, 1) := by decide +kernel
theorem dX3_copyFrom_137 : decode cX3_copyFrom 137 = .ok (.aload_n 1, 1) := by decide +kernel
theorem dX3_copyFrom_138 : decode cX3_copyFrom 138 = .ok (.getfield 40, 3) := by decide +kernel
theorem dX3_copyFrom_141 : decode cX3_copyFrom 141 = .ok (.putfield 40, 3) := by decide +kernel
theorem dX3_copyFrom_144 : decode cX3_copyFrom 144 = .ok (.aload_n 0, 1) := by decide +kernel
theorem dX3_copyFrom_145 : decode cX3_copyFrom 145 = .ok (.aload_n 1, 1) := by decide +kernel
theorem dX3_copyFrom_146 : decode cX3_copyFrom 146 = .ok (.getfield 69, 3) := by decide +kernel
theorem dX3_copyFrom_149 : decode cX3_copyFrom 149 = .ok (.putfield 69, 3) := by decide +kernel
theorem dX3_copyFrom_152 : decode cX3_copyFrom 152 = .ok (.aload_n 0, 1) := by decide +kernel
theorem dX3_copyFrom_153 : decode cX3_copyFrom 153 = .ok (.aload_n 1, 1) := by decide +kernel
theorem dX3_copyFrom_154 : decode cX3_copyFrom 154 = .ok (.getfield 72, 3) := by decide +kernel
theorem dX3_copyFrom_157 : decode cX3_copyFrom 157 = .ok (.putfield 72, 3) := by decide +kernel
theorem dX3_copyFrom_160 : decode cX3_copyFrom 160 = .ok (.aload_n 0, 1) := by decide +kernel
theorem dX3_copyFrom_161 : decode cX3_copyFrom 161 = .ok (.aload_n 1, 1) := by decide +kernel
theorem dX3_copyFrom_162 : decode cX3_copyFrom 162 = .ok (.getfield 75, 3) := by decide +kernel
theorem dX3_copyFrom_165 : decode cX3_copyFrom 165 = .ok (.putfield 75, 3) := by decide +kernel
theorem dX3_copyFrom_168 : decode cX3_copyFrom 168 = .ok (.return_, 1) := by decide +kernel
theorem dX3_hasLock_0 : decode cX3_hasLock 0 = .ok (.iload_n 1, 1) := by decide +kernel
theorem dX3_hasLock_1 : decode cX3_hasLock 1 = .ok (.ifCond .lt 15, 3) := by decide +kernel
theorem dX3_hasLock_4 : decode cX3_hasLock 4 = .ok (.iload_n 1, 1) := by decide +kernel
theorem dX3_hasLock_5 : decode cX3_hasLock 5 = .ok (.aload_n 0, 1) := by decide +kernel
theorem dX3_hasLock_6 : decode cX3_hasLock 6 = .ok (.getfield 47, 3) := by decide +kernel
theorem dX3_hasLock_9 : decode cX3_hasLock 9 = .ok (.if_icmp .ge 7, 3) := by decide +kernel
theorem dX3_hasLock_12 : decode cX3_hasLock 12 = .ok (.iconst 1, 1) := by decide +kernel
theorem dX3_hasLock_13 : decode cX3_hasLock 13 = .ok (.goto 4, 3) := by decide +kernel
theorem dX3_hasLock_16 : decode cX3_hasLock 16 = .ok (.iconst 0, 1) := by decide +kernel
theorem dX3_hasLock_17 : decode cX3_hasLock 17 = .ok (.ireturn, 1) := by decide +kernel
theorem dX3_hasThing_0 : decode cX3_hasThing 0 = .ok (.iload_n 1, 1) := by decide +kernel
theorem dX3_hasThing_1 : decode cX3_hasThing 1 = .ok (.ifCond .lt 15, 3) := by decide +kernel
theorem dX3_hasThing_4 : decode cX3_hasThing 4 = .ok (.iload_n 1, 1) := by decide +kernel
theorem dX3_hasThing_5 : decode cX3_hasThing 5 = .ok (.aload_n 0, 1) := by decide +kernel
theorem dX3_hasThing_6 : decode cX3_hasThing 6 = .ok (.getfield 54, 3) := by decide +kernel
theorem dX3_hasThing_9 : decode cX3_hasThing 9 = .ok (.if_icmp .ge 7, 3) := by decide +kernel
theorem dX3_hasThing_12 : decode cX3_hasThing 12 = .ok (.iconst 1, 1) := by decide +kernel
theorem dX3_hasThing_13 : decode cX3_hasThing 13 = .ok (.goto 4, 3) := by decide +kernel
theorem dX3_hasThing_16 : decode cX3_hasThing 16 = .ok (.iconst 0, 1) := by decide +kernel
theorem dX3_hasThing_17 : decode cX3_hasThing 17 = .ok (.ireturn, 1) := by decide +kernel
theorem dX3_hasPlayer_0 : decode cX3_hasPlayer 0 = .ok (.iload_n 1, 1) := by decide +kernel
theorem dX3_hasPlayer_1 : decode cX3_hasPlayer 1 = .ok (.ifCond .lt 15, 3) := by decide +kernel
theorem dX3_hasPlayer_4 : decode cX3_hasPlayer 4 = .ok (.iload_n 1, 1) := by decide +kernel
theorem dX3_hasPlayer_5 : decode cX3_hasPlayer 5 = .ok (.aload_n 0, 1) := by decide +kernel
theorem dX3_hasPlayer_6 : decode cX3_hasPlayer 6 = .ok (.getfield 60, 3) := by decide +kernel
theorem dX3_hasPlayer_9 : decode cX3_hasPlayer 9 = .ok (.if_icmp .ge 7, 3) := by decide +kernel
theorem dX3_hasPlayer_12 : decode cX3_hasPlayer 12 = .ok (.iconst 1, 1) := by decide +kernel
theorem dX3_hasPlayer_13 : decode cX3_hasPlayer 13 = .ok (.goto 4, 3) := by decide +kernel
theorem dX3_hasPlayer_16 : decode cX3_hasPlayer 16 = .ok (.iconst 0, 1) := by decide +kernel
theorem dX3_hasPlayer_17 : decode cX3_hasPlayer 17 = .ok (.ireturn, 1) := by decide +kernel
theorem dX3_addLock_0 : decode cX3_addLock 0 = .ok (.aload_n 0, 1) := by decide +kernel
theorem dX3_addLock_1 : decode cX3_addLock 1 = .ok (.getfield 47, 3) := by decide +kernel
theorem dX3_addLock_4 : decode cX3_addLock 4 = .ok (.istore 6, 2) := by decide +kernel
theorem dX3_addLock_6 : decode cX3_addLock 6 = .ok (.iload 6, 2) := by decide +kernel
theorem dX3_addLock_8 : decode cX3_addLock 8 = .ok (.bipush 10, 2) := by decide +kernel
theorem dX3_addLock_10 : decode cX3_addLock 10 = .ok (.if_icmp .lt 5, 3) := by decide +kernel
theorem dX3_addLock_13 : decode cX3_addLock 13 = .ok (.iconst (-1), 1) := by decide +kernel
theorem dX3_addLock_14 : decode cX3_addLock 14 = .ok (.ireturn, 1) := by decide +kernel
theorem dX3_addLock_15 : decode cX3_addLock 15 = .ok (.aload_n 0, 1) := by decide +kernel
theorem dX3_addLock_16 : decode cX3_addLock 16 = .ok (.getfield 11, 3) := by decide +kernel
theorem dX3_addLock_19 : decode cX3_addLock 19 = .ok (.iload 6, 2) := by decide +kernel
theorem dX3_addLock_21 : decode cX3_addLock 21 = .ok (.aaload, 1) := by decide +kernel
theorem dX3_addLock_22 : decode cX3_addLock 22 = .ok (.astore 7, 2) := by decide +kernel
theorem dX3_addLock_24 : decode cX3_addLock 24 = .ok (.aload 7, 2) := by decide +kernel
theorem dX3_addLock_26 : decode cX3_addLock 26 = .ok (.iload_n 1, 1) := by decide +kernel
theorem dX3_addLock_27 : decode cX3_addLock 27 = .ok (.putfield 78, 3) := by decide +kernel
theorem dX3_addLock_30 : decode cX3_addLock 30 = .ok (.aload 7, 2) := by decide +kernel
theorem dX3_addLock_32 : decode cX3_addLock 32 = .ok (.iload_n 2, 1) := by decide +kernel
theorem dX3_addLock_33 : decode cX3_addLock 33 = .ok (.putfield 81, 3) := by decide +kernel
theorem dX3_addLock_36 : decode cX3_addLock 36 = .ok (.aload 7, 2) := by decide +kernel
theorem dX3_addLock_38 : decode cX3_addLock 38 = .ok (.iload_n 3, 1) := by decide +kernel
theorem dX3_addLock_39 : decode cX3_addLock 39 = .ok (.putfield 84, 3) := by decide +kernel
theorem dX3_addLock_42 : decode cX3_addLock 42 = .ok (.aload 7, 2) := by decide +kernel
theorem dX3_addLock_44 : decode cX3_addLock 44 = .ok (.iload 4, 2) := by decide +kernel
theorem dX3_addLock_46 : decode cX3_addLock 46 = .ok (.putfield 87, 3) := by decide +kernel
theorem dX3_addLock_49 : decode cX3_addLock 49 = .ok (.iload 5, 2) := by decide +kernel
theorem dX3_addLock_51 : decode cX3_addLock 51 = .ok (.ifCond .eq 9, 3) := by decide +kernel
theorem dX3_addLock_54 : decode cX3_addLock 54 = .ok (.aload_n 0, 1) := by decide +kernel
theorem dX3_addLock_55 : decode cX3_addLock 55 = .ok (.iload 6, 2) := by decide +kernel
theorem dX3_addLock_57 : decode cX3_addLock 57 = .ok (.putfield 36, 3) := by decide +kernel
theorem dX3_addLock_60 : decode cX3_addLock 60 = .ok (.aload_n 0, 1) := by decide +kernel
theorem dX3_addLock_61 : decode cX3_addLock 61 = .ok (.dup, 1) := by decide +kernel
theorem dX3_addLock_62 : decode cX3_addLock 62 = .ok (.getfield 47, 3) := by decide +kernel
theorem dX3_addLock_65 : decode cX3_addLock 65 = .ok (.iconst 1, 1) := by decide +kernel
theorem dX3_addLock_66 : decode cX3_addLock 66 = .ok (.iadd, 1) := by decide +kernel
theorem dX3_addLock_67 : decode cX3_addLock 67 = .ok (.putfield 47, 3) := by decide +kernel
theorem dX3_addLock_70 : decode cX3_addLock 70 = .ok (.iload 6, 2) := by decide +kernel
theorem dX3_addLock_72 : decode cX3_addLock 72 = .ok (.ireturn, 1) := by decide +kernel
theorem dX3_addThing_0 : decode cX3_addThing 0 = .ok (.aload_n 0, 1) := by decide +kernel
theorem dX3_addThing_1 : decode cX3_addThing 1 = .ok (.getfield 54, 3) := by decide +kernel
theorem dX3_addThing_4 : decode cX3_addThing 4 = .ok (.istore_n 3, 1) := by decide +kernel
theorem dX3_addThing_5 : decode cX3_addThing 5 = .ok (.iload_n 3, 1) := by decide +kernel
theorem dX3_addThing_6 : decode cX3_addThing 6 = .ok (.bipush 12, 2) := by decide +kernel
theorem dX3_addThing_8 : decode cX3_addThing 8 = .ok (.if_icmp .lt 5, 3) := by decide +kernel
theorem dX3_addThing_11 : decode cX3_addThing 11 = .ok (.iconst (-1), 1) := by decide +kernel
theorem dX3_addThing_12 : decode cX3_addThing 12 = .ok (.ireturn, 1) := by decide +kernel
theorem dX3_addThing_13 : decode cX3_addThing 13 = .ok (.aload_n 0, 1) := by decide +kernel
theorem dX3_addThing_14 : decode cX3_addThing 14 = .ok (.getfield 19, 3) := by decide +kernel
theorem dX3_addThing_17 : decode cX3_addThing 17 = .ok (.iload_n 3, 1) := by decide +kernel
theorem dX3_addThing_18 : decode cX3_addThing 18 = .ok (.aaload, 1) := by decide +kernel
theorem dX3_addThing_19 : decode cX3_addThing 19 = .ok (.astore 4, 2) := by decide +kernel
theorem dX3_addThing_21 : decode cX3_addThing 21 = .ok (.aload 4, 2) := by decide +kernel
theorem dX3_addThing_23 : decode cX3_addThing 23 = .ok (.iload_n 1, 1) := by decide +kernel
theorem dX3_addThing_24 : decode cX3_addThing 24 = .ok (.putfield 90, 3) := by decide +kernel
theorem dX3_addThing_27 : decode cX3_addThing 27 = .ok (.aload 4, 2) := by decide +kernel
theorem dX3_addThing_29 : decode cX3_addThing 29 = .ok (.iload_n 2, 1) := by decide +kernel
theorem dX3_addThing_30 : decode cX3_addThing 30 = .ok (.putfield 93, 3) := by decide +kernel
theorem dX3_addThing_33 : decode cX3_addThing 33 = .ok (.aload_n 0, 1) := by decide +kernel
theorem dX3_addThing_34 : decode cX3_addThing 34 = .ok (.dup, 1) := by decide +kernel
theorem dX3_addThing_35 : decode cX3_addThing 35 = .ok (.getfield 54, 3) := by decide +kernel
theorem dX3_addThing_38 : decode cX3_addThing 38 = .ok (.iconst 1, 1) := by decide +kernel
theorem dX3_addThing_39 : decode cX3_addThing 39 = .ok (.iadd, 1) := by decide +kernel
theorem dX3_addThing_40 : decode cX3_addThing 40 = .ok (.putfield 54, 3) := by decide +kernel
theorem dX3_addThing_43 : decode cX3_addThing 43 = .ok (.iload_n 3, 1) := by decide +kernel
theorem dX3_addThing_44 : decode cX3_addThing 44 = .ok (.ireturn, 1) := by decide +kernel
set_option maxRecDepth 20000 in
theorem ggX3_addPlayer_X2_come : GoodIn wsX3_addPlayer wsX2_come := goodIn_r _ [7, 8, 9, 10, 11, 12, 6, 13, 14, 15, 28, 29, 30, 31] (by decide +kernel) (by decide +kernel)
set_option maxRecDepth 20000 in
theorem gX3_addPlayer_X2_come : GoodIn wsX3_addPlayer (wsV RX3 96 RX2 yX2_come wsX2_come) := goodIn_app (goodIn_of _ (by decide +kernel)) ggX3_addPlayer_X2_come
theorem dX3_addPlayer_0 : decode cX3_addPlayer 0 = .ok (.aload_n 0, 1) := by decide +kernel
theorem dX3_addPlayer_1 : decode cX3_addPlayer 1 = .ok (.getfield 60, 3) := by decide +kernel
theorem dX3_addPlayer_4 : decode cX3_addPlayer 4 = .ok (.istore_n 2, 1) := by decide +kernel
theorem dX3_addPlayer_5 : decode cX3_addPlayer 5 = .ok (.iload_n 2, 1) := by decide +kernel
theorem dX3_addPlayer_6 : decode cX3_addPlayer 6 = .ok (.bipush 6, 2) := by decide +kernel
theorem dX3_addPlayer_8 : decode cX3_addPlayer 8 = .ok (.if_icmp .lt 5, 3) := by decide +kernel
theorem dX3_addPlayer_11 : decode cX3_addPlayer 11 = .ok (.iconst (-1), 1) := by decide +kernel
theorem dX3_addPlayer_12 : decode cX3_addPlayer 12 = .ok (.ireturn, 1) := by decide +kernel
theorem dX3_addPlayer_13 : decode cX3_addPlayer 13 = .ok (.aload_n 0, 1) := by decide +kernel
theorem dX3_addPlayer_14 : decode cX3_addPlayer 14 = .ok (.getfield 25, 3) := by decide +kernel
theorem dX3_addPlayer_17 : decode cX3_addPlayer 17 = .ok (.iload_n 2, 1) := by decide +kernel
theorem dX3_addPlayer_18 : decode cX3_addPlayer 18 = .ok (.aaload, 1) := by decide +kernel
theorem dX3_addPlayer_19 : decode cX3_addPlayer 19 = .ok (.iload_n 1, 1) := by decide +kernel
theorem dX3_addPlayer_20 : decode cX3_addPlayer 20 = .ok (.invokevirtual 96, 3) := by decide +kernel
theorem dX3_addPlayer_23 : decode cX3_addPlayer 23 = .ok (.aload_n 0, 1) := by decide +kernel
theorem dX3_addPlayer_24 : decode cX3_addPlayer 24 = .ok (.dup, 1) := by decide +kernel
theorem dX3_addPlayer_25 : decode cX3_addPlayer 25 = .ok (.getfield 60, 3) := by decide +kernel
theorem dX3_addPlayer_28 : decode cX3_addPlayer 28 = .ok (.iconst 1, 1) := by decide +kernel
theorem dX3_addPlayer_29 : decode cX3_addPlayer 29 = .ok (.iadd, 1) := by decide +kernel
theorem dX3_addPlayer_30 : decode cX3_addPlayer 30 = .ok (.putfield 60, 3) := by decide +kernel
theorem dX3_addPlayer_33 : decode cX3_addPlayer 33 = .ok (.iload_n 2, 1) := by decide +kernel
theorem dX3_addPlayer_34 : decode cX3_addPlayer 34 = .ok (.ireturn, 1) := by decide +kernel
theorem dX3_openLocks_0 : decode cX3_openLocks 0 = .ok (.iconst 0, 1) := by decide +kernel
theorem dX3_openLocks_1 : decode cX3_openLocks 1 = .ok (.istore_n 1, 1) := by decide +kernel
theorem dX3_openLocks_2 : decode cX3_openLocks 2 = .ok (.iconst 0, 1) := by decide +kernel
theorem dX3_openLocks_3 : decode cX3_openLocks 3 = .ok (.istore_n 2, 1) := by decide +kernel
theorem dX3_openLocks_4 : decode cX3_openLocks 4 = .ok (.iload_n 2, 1) := by decide +kernel
theorem dX3_openLocks_5 : decode cX3_openLocks 5 = .ok (.aload_n 0, 1) := by decide +kernel
theorem dX3_openLocks_6 : decode cX3_openLocks 6 = .ok (.getfield 47, 3) := by decide +kernel
theorem dX3_openLocks_9 : decode cX3_openLocks 9 = .ok (.if_icmp .ge 27, 3) := by decide +kernel
theorem dX3_openLocks_12 : decode cX3_openLocks 12 = .ok (.aload_n 0, 1) := by decide +kernel
theorem dX3_openLocks_13 : decode cX3_openLocks 13 = .ok (.getfield 11, 3) := by decide +kernel
theorem dX3_openLocks_16 : decode cX3_openLocks 16 = .ok (.iload_n 2, 1) := by decide +kernel
theorem dX3_openLocks_17 : decode cX3_openLocks 17 = .ok (.aaload, 1) := by decide +kernel
theorem dX3_openLocks_18 : decode cX3_openLocks 18 = .ok (.getfield 100, 3) := by decide +kernel
theorem dX3_openLocks_21 : decode cX3_openLocks 21 = .ok (.ifCond .eq 9, 3) := by decide +kernel
theorem dX3_openLocks_24 : decode cX3_openLocks 24 = .ok (.iload_n 1, 1) := by decide +kernel
theorem dX3_openLocks_25 : decode cX3_openLocks 25 = .ok (.iconst 1, 1) := by decide +kernel
theorem dX3_openLocks_26 : decode cX3_openLocks 26 = .ok (.iload_n 2, 1) := by decide +kernel
theorem dX3_openLocks_27 : decode cX3_openLocks 27 = .ok (.ishl, 1) := by decide +kernel
theorem dX3_openLocks_28 : decode cX3_openLocks 28 = .ok (.ior, 1) := by decide +kernel
theorem dX3_openLocks_29 : decode cX3_openLocks 29 = .ok (.istore_n 1, 1) := by decide +kernel
theorem dX3_openLocks_30 : decode cX3_openLocks 30 = .ok (.iinc 2 1, 3) := by decide +kernel
theorem dX3_openLocks_33 : decode cX3_openLocks 33 = .ok (.goto (-29), 3) := by decide +kernel
theorem dX3_openLocks_36 : decode cX3_openLocks 36 = .ok (.iload_n 1, 1) := by decide +kernel
theorem dX3_openLocks_37 : decode cX3_openLocks 37 = .ok (.ireturn, 1) := by decide +kernel
set_option maxRecDepth 20000 in
theorem ggX3_readyLocks_X3_thingsIn : GoodIn wsX3_readyLocks wsX3_thingsIn := goodIn_r _ [7, 8, 9, 10, 19, 20, 21, 22, 23, 24, 25, 26, 27, 28, 29, 30, 31, 32, 33, 34, 35] (by decide +kernel) (by decide +kernel)
set_option maxRecDepth 20000 in
theorem gX3_readyLocks_X3_thingsIn : GoodIn wsX3_readyLocks (wsV RX3 103 RX3 yX3_thingsIn wsX3_thingsIn) := goodIn_app (goodIn_of _ (by decide +kernel)) ggX3_readyLocks_X3_thingsIn
set_option maxRecDepth 20000 in
theorem ggX3_readyLocks_X1_isReady : GoodIn wsX3_readyLocks wsX1_isReady := goodIn_r _ [15, 16, 17, 18, 36, 37, 38, 39, 40, 41, 42, 43, 44, 45] (by decide +kernel) (by decide +kernel)
set_option maxRecDepth 20000 in
theorem gX3_readyLocks_X1_isReady : GoodIn wsX3_readyLocks (wsV RX3 107 RX1 yX1_isReady wsX1_isReady) := goodIn_app (goodIn_of _ (by decide +kernel)) ggX3_readyLocks_X1_isReady
theorem dX3_readyLocks_0 : decode cX3_readyLocks 0 = .ok (.aload_n 0, 1) := by decide +kernel
theorem dX3_readyLocks_1 : decode cX3_readyLocks 1 = .ok (.iconst 1, 1) := by decide +kernel
theorem dX3_readyLocks_2 : decode cX3_readyLocks 2 = .ok (.invokevirtual 103, 3) := by decide +kernel
theorem dX3_readyLocks_5 : decode cX3_readyLocks 5 = .ok (.istore_n 1, 1) := by decide +kernel
theorem dX3_readyLocks_6 : decode cX3_readyLocks 6 = .ok (.iconst 0, 1) := by decide +kernel
theorem dX3_readyLocks_7 : decode cX3_readyLocks 7 = .ok (.istore_n 2, 1) := by decide +kernel
theorem dX3_readyLocks_8 : decode cX3_readyLocks 8 = .ok (.iconst 0, 1) := by decide +kernel
theorem dX3_readyLocks_9 : decode cX3_readyLocks 9 = .ok (.istore_n 3, 1) := by decide +kernel
theorem dX3_readyLocks_10 : decode cX3_readyLocks 10 = .ok (.iload_n 3, 1) := by decide +kernel
theorem dX3_readyLocks_11 : decode cX3_readyLocks 11 = .ok (.aload_n 0, 1) := by decide +kernel
theorem dX3_readyLocks_12 : decode cX3_readyLocks 12 = .ok (.getfield 47, 3) := by decide +kernel
theorem dX3_readyLocks_15 : decode cX3_readyLocks 15 = .ok (.if_icmp .ge 28, 3) := by decide +kernel
theorem dX3_readyLocks_18 : decode cX3_readyLocks 18 = .ok (.aload_n 0, 1) := by decide +kernel
theorem dX3_readyLocks_19 : decode cX3_readyLocks 19 = .ok (.getfield 11, 3) := by decide +kernel
theorem dX3_readyLocks_22 : decode cX3_readyLocks 22 = .ok (.iload_n 3, 1) := by decide +kernel
theorem dX3_readyLocks_23 : decode cX3_readyLocks 23 = .ok (.aaload, 1) := by decide +kernel
theorem dX3_readyLocks_24 : decode cX3_readyLocks 24 = .ok (.iload_n 1, 1) := by decide +kernel
theorem dX3_readyLocks_25 : decode cX3_readyLocks 25 = .ok (.invokevirtual 107, 3) := by decide +kernel
theorem dX3_readyLocks_28 : decode cX3_readyLocks 28 = .ok (.ifCond .eq 9, 3) := by decide +kernel
theorem dX3_readyLocks_31 : decode cX3_readyLocks 31 = .ok (.iload_n 2, 1) := by decide +kernel
theorem dX3_readyLocks_32 : decode cX3_readyLocks 32 = .ok (.iconst 1, 1) := by decide +kernel
theorem dX3_readyLocks_33 : decode cX3_readyLocks 33 = .ok (.iload_n 3, 1) := by decide +kernel
theorem dX3_readyLocks_34 : decode cX3_readyLocks 34 = .ok (.ishl, 1) := by decide +kernel
theorem dX3_readyLocks_35 : decode cX3_readyLocks 35 = .ok (.ior, 1) := by decide +kernel
theorem dX3_readyLocks_36 : decode cX3_readyLocks 36 = .ok (.istore_n 2, 1) := by decide +kernel
theorem dX3_readyLocks_37 : decode cX3_readyLocks 37 = .ok (.iinc 3 1, 3) := by decide +kernel
theorem dX3_readyLocks_40 : decode cX3_readyLocks 40 = .ok (.goto (-30), 3) := by decide +kernel
theorem dX3_readyLocks_43 : decode cX3_readyLocks 43 = .ok (.iload_n 2, 1) := by decide +kernel
theorem dX3_readyLocks_44 : decode cX3_readyLocks 44 = .ok (.ireturn, 1) := by decide +kernel
set_option maxRecDepth 20000 in
theorem ggX3_locksThatNeed_X6_isIn : GoodIn wsX3_locksThatNeed wsX6_isIn := goodIn_r _ [6] (by decide +kernel) (by decide +kernel)
set_option maxRecDepth 20000 in
theorem gX3_locksThatNeed_X6_isIn_n111 : GoodIn wsX3_locksThatNeed (wsX6_isIn) := ggX3_locksThatNeed_X6_isIn
theorem dX3_locksThatNeed_0 : decode cX3_locksThatNeed 0 = .ok (.iconst 0, 1) := by decide +kernel
theorem dX3_locksThatNeed_1 : decode cX3_locksThatNeed 1 = .ok (.istore_n 2, 1) := by decide +kernel
theorem dX3_locksThatNeed_2 : decode cX3_locksThatNeed 2 = .ok (.iconst 0, 1) := by decide +kernel
theorem dX3_locksThatNeed_3 : decode cX3_locksThatNeed 3 = .ok (.istore_n 3, 1) := by decide +kernel
theorem dX3_locksThatNeed_4 : decode cX3_locksThatNeed 4 = .ok (.iload_n 3, 1) := by decide +kernel
theorem dX3_locksThatNeed_5 : decode cX3_locksThatNeed 5 = .ok (.aload_n 0, 1) := by decide +kernel
theorem dX3_locksThatNeed_6 : decode cX3_locksThatNeed 6 = .ok (.getfield 47, 3) := by decide +kernel
theorem dX3_locksThatNeed_9 : decode cX3_locksThatNeed 9 = .ok (.if_icmp .ge 31, 3) := by decide +kernel
theorem dX3_locksThatNeed_12 : decode cX3_locksThatNeed 12 = .ok (.aload_n 0, 1) := by decide +kernel
theorem dX3_locksThatNeed_13 : decode cX3_locksThatNeed 13 = .ok (.getfield 11, 3) := by decide +kernel
theorem dX3_locksThatNeed_16 : decode cX3_locksThatNeed 16 = .ok (.iload_n 3, 1) := by decide +kernel
theorem dX3_locksThatNeed_17 : decode cX3_locksThatNeed 17 = .ok (.aaload, 1) := by decide +kernel
theorem dX3_locksThatNeed_18 : decode cX3_locksThatNeed 18 = .ok (.getfield 78, 3) := by decide +kernel
theorem dX3_locksThatNeed_21 : decode cX3_locksThatNeed 21 = .ok (.iload_n 1, 1) := by decide +kernel
theorem dX3_locksThatNeed_22 : decode cX3_locksThatNeed 22 = .ok (.invokestatic 111, 3) := by decide +kernel
theorem dX3_locksThatNeed_25 : decode cX3_locksThatNeed 25 = .ok (.ifCond .eq 9, 3) := by decide +kernel
theorem dX3_locksThatNeed_28 : decode cX3_locksThatNeed 28 = .ok (.iload_n 2, 1) := by decide +kernel
theorem dX3_locksThatNeed_29 : decode cX3_locksThatNeed 29 = .ok (.iconst 1, 1) := by decide +kernel
theorem dX3_locksThatNeed_30 : decode cX3_locksThatNeed 30 = .ok (.iload_n 3, 1) := by decide +kernel
theorem dX3_locksThatNeed_31 : decode cX3_locksThatNeed 31 = .ok (.ishl, 1) := by decide +kernel
theorem dX3_locksThatNeed_32 : decode cX3_locksThatNeed 32 = .ok (.ior, 1) := by decide +kernel
theorem dX3_locksThatNeed_33 : decode cX3_locksThatNeed 33 = .ok (.istore_n 2, 1) := by decide +kernel
theorem dX3_locksThatNeed_34 : decode cX3_locksThatNeed 34 = .ok (.iinc 3 1, 3) := by decide +kernel
theorem dX3_locksThatNeed_37 : decode cX3_locksThatNeed 37 = .ok (.goto (-33), 3) := by decide +kernel
theorem dX3_locksThatNeed_40 : decode cX3_locksThatNeed 40 = .ok (.iload_n 2, 1) := by decide +kernel
theorem dX3_locksThatNeed_41 : decode cX3_locksThatNeed 41 = .ok (.ireturn, 1) := by decide +kernel
theorem dX3_thingsIn_0 : decode cX3_thingsIn 0 = .ok (.iconst 0, 1) := by decide +kernel
theorem dX3_thingsIn_1 : decode cX3_thingsIn 1 = .ok (.istore_n 2, 1) := by decide +kernel
theorem dX3_thingsIn_2 : decode cX3_thingsIn 2 = .ok (.iconst 0, 1) := by decide +kernel
theorem dX3_thingsIn_3 : decode cX3_thingsIn 3 = .ok (.istore_n 3, 1) := by decide +kernel
theorem dX3_thingsIn_4 : decode cX3_thingsIn 4 = .ok (.iload_n 3, 1) := by decide +kernel
theorem dX3_thingsIn_5 : decode cX3_thingsIn 5 = .ok (.aload_n 0, 1) := by decide +kernel
theorem dX3_thingsIn_6 : decode cX3_thingsIn 6 = .ok (.getfield 54, 3) := by decide +kernel
theorem dX3_thingsIn_9 : decode cX3_thingsIn 9 = .ok (.if_icmp .ge 28, 3) := by decide +kernel
theorem dX3_thingsIn_12 : decode cX3_thingsIn 12 = .ok (.aload_n 0, 1) := by decide +kernel
theorem dX3_thingsIn_13 : decode cX3_thingsIn 13 = .ok (.getfield 19, 3) := by decide +kernel
theorem dX3_thingsIn_16 : decode cX3_thingsIn 16 = .ok (.iload_n 3, 1) := by decide +kernel
theorem dX3_thingsIn_17 : decode cX3_thingsIn 17 = .ok (.aaload, 1) := by decide +kernel
theorem dX3_thingsIn_18 : decode cX3_thingsIn 18 = .ok (.getfield 115, 3) := by decide +kernel
theorem dX3_thingsIn_21 : decode cX3_thingsIn 21 = .ok (.iload_n 1, 1) := by decide +kernel
theorem dX3_thingsIn_22 : decode cX3_thingsIn 22 = .ok (.if_icmp .ne 9, 3) := by decide +kernel
theorem dX3_thingsIn_25 : decode cX3_thingsIn 25 = .ok (.iload_n 2, 1) := by decide +kernel
theorem dX3_thingsIn_26 : decode cX3_thingsIn 26 = .ok (.iconst 1, 1) := by decide +kernel
theorem dX3_thingsIn_27 : decode cX3_thingsIn 27 = .ok (.iload_n 3, 1) := by decide +kernel
theorem dX3_thingsIn_28 : decode cX3_thingsIn 28 = .ok (.ishl, 1) := by decide +kernel
theorem dX3_thingsIn_29 : decode cX3_thingsIn 29 = .ok (.ior, 1) := by decide +kernel
theorem dX3_thingsIn_30 : decode cX3_thingsIn 30 = .ok (.istore_n 2, 1) := by decide +kernel
theorem dX3_thingsIn_31 : decode cX3_thingsIn 31 = .ok (.iinc 3 1, 3) := by decide +kernel
theorem dX3_thingsIn_34 : decode cX3_thingsIn 34 = .ok (.goto (-30), 3) := by decide +kernel
theorem dX3_thingsIn_37 : decode cX3_thingsIn 37 = .ok (.iload_n 2, 1) := by decide +kernel
theorem dX3_thingsIn_38 : decode cX3_thingsIn 38 = .ok (.ireturn, 1) := by decide +kernel
set_option maxRecDepth 20000 in
theorem ggX3_isExitOpen_X3_openLocks : GoodIn wsX3_isExitOpen wsX3_openLocks := goodIn_r _ [6, 7, 8, 9, 13, 14, 15, 16, 17, 18, 19, 20, 21, 22, 23, 24, 25, 26, 27, 28, 29, 30, 31, 32, 33, 34] (by decide +kernel) (by decide +kernel)
set_option maxRecDepth 20000 in
theorem gX3_isExitOpen_X3_openLocks : GoodIn wsX3_isExitOpen (wsV RX3 118 RX3 yX3_openLocks wsX3_openLocks) := goodIn_app (goodIn_of _ (by decide +kernel)) ggX3_isExitOpen_X3_openLocks
set_option maxRecDepth 20000 in
theorem ggX3_isExitOpen_X6_isIn : GoodIn wsX3_isExitOpen wsX6_isIn := goodIn_r _ [12] (by decide +kernel) (by decide +kernel)
set_option maxRecDepth 20000 in
theorem gX3_isExitOpen_X6_isIn_n111 : GoodIn wsX3_isExitOpen (wsX6_isIn) := ggX3_isExitOpen_X6_isIn
theorem dX3_isExitOpen_0 : decode cX3_isExitOpen 0 = .ok (.aload_n 0, 1) := by decide +kernel
theorem dX3_isExitOpen_1 : decode cX3_isExitOpen 1 = .ok (.invokevirtual 118, 3) := by decide +kernel
theorem dX3_isExitOpen_4 : decode cX3_isExitOpen 4 = .ok (.aload_n 0, 1) := by decide +kernel
theorem dX3_isExitOpen_5 : decode cX3_isExitOpen 5 = .ok (.getfield 36, 3) := by decide +kernel
theorem dX3_isExitOpen_8 : decode cX3_isExitOpen 8 = .ok (.invokestatic 111, 3) := by decide +kernel
theorem dX3_isExitOpen_11 : decode cX3_isExitOpen 11 = .ok (.ireturn, 1) := by decide +kernel
set_option maxRecDepth 20000 in
theorem ggX3_thingsAtHand_X3_thingsIn : GoodIn wsX3_thingsAtHand wsX3_thingsIn := goodIn_r _ [11, 1, 2, 12, 23, 24, 25, 26, 27, 28, 29, 30, 31, 32, 33, 34, 45, 46, 47, 48, 49] (by decide +kernel) (by decide +kernel)
set_option maxRecDepth 20000 in
theorem gX3_thingsAtHand_X3_thingsIn : GoodIn wsX3_thingsAtHand (wsV RX3 103 RX3 yX3_thingsIn wsX3_thingsIn) := goodIn_app (goodIn_of _ (by decide +kernel)) ggX3_thingsAtHand_X3_thingsIn
set_option maxRecDepth 20000 in
theorem ggX3_thingsAtHand_X5_canBeReached : GoodIn wsX3_thingsAtHand wsX5_canBeReached := goodIn_r _ [17, 18, 19, 45, 46, 47, 48, 49] (by decide +kernel) (by decide +kernel)
set_option maxRecDepth 20000 in
theorem gX3_thingsAtHand_X5_canBeReached : GoodIn wsX3_thingsAtHand (wsV RX3 122 RX5 yX5_canBeReached wsX5_canBeReached) := goodIn_app (goodIn_of _ (by decide +kernel)) ggX3_thingsAtHand_X5_canBeReached
set_option maxRecDepth 20000 in
theorem ggX3_thingsAtHand_X6_isIn : GoodIn wsX3_thingsAtHand wsX6_isIn := goodIn_r _ [22] (by decide +kernel) (by decide +kernel)
set_option maxRecDepth 20000 in
theorem gX3_thingsAtHand_X6_isIn_n111 : GoodIn wsX3_thingsAtHand (wsX6_isIn) := ggX3_thingsAtHand_X6_isIn
theorem dX3_thingsAtHand_0 : decode cX3_thingsAtHand 0 = .ok (.aload_n 0, 1) := by decide +kernel
theorem dX3_thingsAtHand_1 : decode cX3_thingsAtHand 1 = .ok (.iconst 1, 1) := by decide +kernel
theorem dX3_thingsAtHand_2 : decode cX3_thingsAtHand 2 = .ok (.invokevirtual 103, 3) := by decide +kernel
theorem dX3_thingsAtHand_5 : decode cX3_thingsAtHand 5 = .ok (.istore_n 2, 1) := by decide +kernel
theorem dX3_thingsAtHand_6 : decode cX3_thingsAtHand 6 = .ok (.iconst 0, 1) := by decide +kernel
theorem dX3_thingsAtHand_7 : decode cX3_thingsAtHand 7 = .ok (.istore_n 3, 1) := by decide +kernel
theorem dX3_thingsAtHand_8 : decode cX3_thingsAtHand 8 = .ok (.iload_n 3, 1) := by decide +kernel
theorem dX3_thingsAtHand_9 : decode cX3_thingsAtHand 9 = .ok (.aload_n 0, 1) := by decide +kernel
theorem dX3_thingsAtHand_10 : decode cX3_thingsAtHand 10 = .ok (.getfield 54, 3) := by decide +kernel
theorem dX3_thingsAtHand_13 : decode cX3_thingsAtHand 13 = .ok (.if_icmp .ge 28, 3) := by decide +kernel
theorem dX3_thingsAtHand_16 : decode cX3_thingsAtHand 16 = .ok (.aload_n 0, 1) := by decide +kernel
theorem dX3_thingsAtHand_17 : decode cX3_thingsAtHand 17 = .ok (.getfield 19, 3) := by decide +kernel
theorem dX3_thingsAtHand_20 : decode cX3_thingsAtHand 20 = .ok (.iload_n 3, 1) := by decide +kernel
theorem dX3_thingsAtHand_21 : decode cX3_thingsAtHand 21 = .ok (.aaload, 1) := by decide +kernel
theorem dX3_thingsAtHand_22 : decode cX3_thingsAtHand 22 = .ok (.iload_n 1, 1) := by decide +kernel
theorem dX3_thingsAtHand_23 : decode cX3_thingsAtHand 23 = .ok (.invokevirtual 122, 3) := by decide +kernel
theorem dX3_thingsAtHand_26 : decode cX3_thingsAtHand 26 = .ok (.ifCond .eq 9, 3) := by decide +kernel
theorem dX3_thingsAtHand_29 : decode cX3_thingsAtHand 29 = .ok (.iload_n 2, 1) := by decide +kernel
theorem dX3_thingsAtHand_30 : decode cX3_thingsAtHand 30 = .ok (.iconst 1, 1) := by decide +kernel
theorem dX3_thingsAtHand_31 : decode cX3_thingsAtHand 31 = .ok (.iload_n 3, 1) := by decide +kernel
theorem dX3_thingsAtHand_32 : decode cX3_thingsAtHand 32 = .ok (.ishl, 1) := by decide +kernel
theorem dX3_thingsAtHand_33 : decode cX3_thingsAtHand 33 = .ok (.ior, 1) := by decide +kernel
theorem dX3_thingsAtHand_34 : decode cX3_thingsAtHand 34 = .ok (.istore_n 2, 1) := by decide +kernel
theorem dX3_thingsAtHand_35 : decode cX3_thingsAtHand 35 = .ok (.iinc 3 1, 3) := by decide +kernel
theorem dX3_thingsAtHand_38 : decode cX3_thingsAtHand 38 = .ok (.goto (-30), 3) := by decide +kernel
theorem dX3_thingsAtHand_41 : decode cX3_thingsAtHand 41 = .ok (.iconst 0, 1) := by decide +kernel
theorem dX3_thingsAtHand_42 : decode cX3_thingsAtHand 42 = .ok (.istore_n 3, 1) := by decide +kernel
theorem dX3_thingsAtHand_43 : decode cX3_thingsAtHand 43 = .ok (.iload_n 3, 1) := by decide +kernel
theorem dX3_thingsAtHand_44 : decode cX3_thingsAtHand 44 = .ok (.aload_n 0, 1) := by decide +kernel
theorem dX3_thingsAtHand_45 : decode cX3_thingsAtHand 45 = .ok (.getfield 47, 3) := by decide +kernel
theorem dX3_thingsAtHand_48 : decode cX3_thingsAtHand 48 = .ok (.if_icmp .ge 43, 3) := by decide +kernel
theorem dX3_thingsAtHand_51 : decode cX3_thingsAtHand 51 = .ok (.iload_n 1, 1) := by decide +kernel
theorem dX3_thingsAtHand_52 : decode cX3_thingsAtHand 52 = .ok (.iload_n 3, 1) := by decide +kernel
theorem dX3_thingsAtHand_53 : decode cX3_thingsAtHand 53 = .ok (.invokestatic 111, 3) := by decide +kernel
theorem dX3_thingsAtHand_56 : decode cX3_thingsAtHand 56 = .ok (.ifCond .eq 29, 3) := by decide +kernel
theorem dX3_thingsAtHand_59 : decode cX3_thingsAtHand 59 = .ok (.aload_n 0, 1) := by decide +kernel
theorem dX3_thingsAtHand_60 : decode cX3_thingsAtHand 60 = .ok (.getfield 11, 3) := by decide +kernel
theorem dX3_thingsAtHand_63 : decode cX3_thingsAtHand 63 = .ok (.iload_n 3, 1) := by decide +kernel
theorem dX3_thingsAtHand_64 : decode cX3_thingsAtHand 64 = .ok (.aaload, 1) := by decide +kernel
theorem dX3_thingsAtHand_65 : decode cX3_thingsAtHand 65 = .ok (.getfield 100, 3) := by decide +kernel
theorem dX3_thingsAtHand_68 : decode cX3_thingsAtHand 68 = .ok (.ifCond .ne 17, 3) := by decide +kernel
theorem dX3_thingsAtHand_71 : decode cX3_thingsAtHand 71 = .ok (.iload_n 2, 1) := by decide +kernel
theorem dX3_thingsAtHand_72 : decode cX3_thingsAtHand 72 = .ok (.aload_n 0, 1) := by decide +kernel
theorem dX3_thingsAtHand_73 : decode cX3_thingsAtHand 73 = .ok (.getfield 11, 3) := by decide +kernel
theorem dX3_thingsAtHand_76 : decode cX3_thingsAtHand 76 = .ok (.iload_n 3, 1) := by decide +kernel
theorem dX3_thingsAtHand_77 : decode cX3_thingsAtHand 77 = .ok (.aaload, 1) := by decide +kernel
theorem dX3_thingsAtHand_78 : decode cX3_thingsAtHand 78 = .ok (.getfield 81, 3) := by decide +kernel
theorem dX3_thingsAtHand_81 : decode cX3_thingsAtHand 81 = .ok (.iconst (-1), 1) := by decide +kernel
theorem dX3_thingsAtHand_82 : decode cX3_thingsAtHand 82 = .ok (.ixor, 1) := by decide +kernel
theorem dX3_thingsAtHand_83 : decode cX3_thingsAtHand 83 = .ok (.iand, 1) := by decide +kernel
theorem dX3_thingsAtHand_84 : decode cX3_thingsAtHand 84 = .ok (.istore_n 2, 1) := by decide +kernel
theorem dX3_thingsAtHand_85 : decode cX3_thingsAtHand 85 = .ok (.iinc 3 1, 3) := by decide +kernel
theorem dX3_thingsAtHand_88 : decode cX3_thingsAtHand 88 = .ok (.goto (-45), 3) := by decide +kernel
theorem dX3_thingsAtHand_91 : decode cX3_thingsAtHand 91 = .ok (.iload_n 2, 1) := by decide +kernel
theorem dX3_thingsAtHand_92 : decode cX3_thingsAtHand 92 = .ok (.ireturn, 1) := by decide +kernel
set_option maxRecDepth 20000 in
theorem ggX3_startGame_X0_start : GoodIn wsX3_startGame wsX0_start := goodIn_r _ [8, 9, 10, 11, 24, 25, 26, 27, 28, 29, 30] (by decide +kernel) (by decide +kernel)
set_option maxRecDepth 20000 in
theorem gX3_startGame_X0_start : GoodIn wsX3_startGame (wsV RX3 125 RX0 yX0_start wsX0_start) := goodIn_app (goodIn_of _ (by decide +kernel)) ggX3_startGame_X0_start
theorem dX3_startGame_0 : decode cX3_startGame 0 = .ok (.aload_n 0, 1) := by decide +kernel
theorem dX3_startGame_1 : decode cX3_startGame 1 = .ok (.getfield 32, 3) := by decide +kernel
theorem dX3_startGame_4 : decode cX3_startGame 4 = .ok (.invokevirtual 125, 3) := by decide +kernel
theorem dX3_startGame_7 : decode cX3_startGame 7 = .ok (.aload_n 0, 1) := by decide +kernel
theorem dX3_startGame_8 : decode cX3_startGame 8 = .ok (.dup, 1) := by decide +kernel
theorem dX3_startGame_9 : decode cX3_startGame 9 = .ok (.getfield 72, 3) := by decide +kernel
theorem dX3_startGame_12 : decode cX3_startGame 12 = .ok (.bipush 18, 2) := by decide +kernel
theorem dX3_startGame_14 : decode cX3_startGame 14 = .ok (.aload_n 0, 1) := by decide +kernel
theorem dX3_startGame_15 : decode cX3_startGame 15 = .ok (.getfield 60, 3) := by decide +kernel
theorem dX3_startGame_18 : decode cX3_startGame 18 = .ok (.imul, 1) := by decide +kernel
theorem dX3_startGame_19 : decode cX3_startGame 19 = .ok (.iadd, 1) := by decide +kernel
theorem dX3_startGame_20 : decode cX3_startGame 20 = .ok (.putfield 72, 3) := by decide +kernel
theorem dX3_startGame_23 : decode cX3_startGame 23 = .ok (.return_, 1) := by decide +kernel
set_option maxRecDepth 20000 in
theorem ggX3_solveGame_X0_endSolved : GoodIn wsX3_solveGame wsX0_endSolved := goodIn_r _ [7, 8, 9, 10, 11, 12, 13, 26, 27, 28, 29, 30, 31, 32] (by decide +kernel) (by decide +kernel)
set_option maxRecDepth 20000 in
theorem gX3_solveGame_X0_endSolved : GoodIn wsX3_solveGame (wsV RX3 128 RX0 yX0_endSolved wsX0_endSolved) := goodIn_app (goodIn_of _ (by decide +kernel)) ggX3_solveGame_X0_endSolved
theorem dX3_solveGame_0 : decode cX3_solveGame 0 = .ok (.aload_n 0, 1) := by decide +kernel
theorem dX3_solveGame_1 : decode cX3_solveGame 1 = .ok (.getfield 32, 3) := by decide +kernel
theorem dX3_solveGame_4 : decode cX3_solveGame 4 = .ok (.invokevirtual 128, 3) := by decide +kernel
theorem dX3_solveGame_7 : decode cX3_solveGame 7 = .ok (.aload_n 0, 1) := by decide +kernel
theorem dX3_solveGame_8 : decode cX3_solveGame 8 = .ok (.iconst 0, 1) := by decide +kernel
theorem dX3_solveGame_9 : decode cX3_solveGame 9 = .ok (.putfield 60, 3) := by decide +kernel
theorem dX3_solveGame_12 : decode cX3_solveGame 12 = .ok (.return_, 1) := by decide +kernel
set_option maxRecDepth 20000 in
theorem ggX3_loseGame_X0_endLost : GoodIn wsX3_loseGame wsX0_endLost := goodIn_r _ [7, 8, 9, 22, 23, 24, 25, 26, 27, 28] (by decide +kernel) (by decide +kernel)
set_option maxRecDepth 20000 in
theorem gX3_loseGame_X0_endLost : GoodIn wsX3_loseGame (wsV RX3 131 RX0 yX0_endLost wsX0_endLost) := goodIn_app (goodIn_of _ (by decide +kernel)) ggX3_loseGame_X0_endLost
theorem dX3_loseGame_0 : decode cX3_loseGame 0 = .ok (.aload_n 0, 1) := by decide +kernel
theorem dX3_loseGame_1 : decode cX3_loseGame 1 = .ok (.getfield 32, 3) := by decide +kernel
theorem dX3_loseGame_4 : decode cX3_loseGame 4 = .ok (.invokevirtual 131, 3) := by decide +kernel
theorem dX3_loseGame_7 : decode cX3_loseGame 7 = .ok (.aload_n 0, 1) := by decide +kernel
theorem dX3_loseGame_8 : decode cX3_loseGame 8 = .ok (.iconst 0, 1) := by decide +kernel
theorem dX3_loseGame_9 : decode cX3_loseGame 9 = .ok (.putfield 60, 3) := by decide +kernel
theorem dX3_loseGame_12 : decode cX3_loseGame 12 = .ok (.return_, 1) := by decide +kernel
set_option maxRecDepth 20000 in
theorem ggX3_letMinuteGoBy_X3_forgetLastMinute : GoodIn wsX3_letMinuteGoBy wsX3_forgetLastMinute := goodIn_r _ [11, 12, 13, 14, 15, 16, 17, 5, 6, 18, 19, 20, 21, 22, 23, 24, 127, 128, 129, 130, 131, 132, 133, 134, 135, 136, 137, 138, 146, 147, 148, 149, 150, 151, 152, 153, 154, 155, 156, 157, 158, 159, 160, 161, 162, 163, 164] (by decide +kernel) (by decide +kernel)
set_option maxRecDepth 20000 in
theorem gX3_letMinuteGoBy_X3_forgetLastMinute : GoodIn wsX3_letMinuteGoBy (wsV RX3 140 RX3 yX3_forgetLastMinute wsX3_forgetLastMinute) := goodIn_app (goodIn_of _ (by decide +kernel)) ggX3_letMinuteGoBy_X3_forgetLastMinute
set_option maxRecDepth 20000 in
theorem ggX3_letMinuteGoBy_X3_takeTurn : GoodIn wsX3_letMinuteGoBy wsX3_takeTurn := goodIn_r _ [28, 29, 13, 30, 31, 16, 32, 33, 34, 35, 36, 10, 37, 12, 14, 38, 39, 40, 41, 15, 42, 43, 44, 45, 46, 47, 48, 49, 50, 51, 52, 53, 54, 55, 56, 57, 58, 59, 60, 61, 62, 63, 64, 65, 66, 67, 68, 69, 70, 71, 72, 73, 74, 75, 76, 77, 78, 2, 5, 79, 80, 81, 82, 83, 84, 85, 86, 87, 88, 89, 90, 91, 92, 93, 17, 94, 95, 96, 97, 98, 99, 100, 101, 102, 103, 104, 105, 106, 107, 108, 109, 110, 111, 112, 113, 114, 115, 161, 162, 163, 164, 127, 128, 129, 130, 131, 132, 133, 134, 135, 136, 137, 138, 146, 147, 148, 149, 150, 151, 152, 153, 154, 155, 156, 157, 158, 159, 160, 139, 140, 141, 142, 143, 144, 145] (by decide +kernel) (by decide +kernel)
set_option maxRecDepth 20000 in
theorem gX3_letMinuteGoBy_X3_takeTurn : GoodIn wsX3_letMinuteGoBy (wsV RX3 143 RX3 yX3_takeTurn wsX3_takeTurn) := goodIn_app (goodIn_of _ (by decide +kernel)) ggX3_letMinuteGoBy_X3_takeTurn
set_option maxRecDepth 20000 in
theorem ggX3_letMinuteGoBy_X6_oneIf : GoodIn wsX3_letMinuteGoBy wsX6_oneIf := goodIn_r _ [117] (by decide +kernel) (by decide +kernel)
set_option maxRecDepth 20000 in
theorem gX3_letMinuteGoBy_X6_oneIf_n147 : GoodIn wsX3_letMinuteGoBy (wsX6_oneIf) := ggX3_letMinuteGoBy_X6_oneIf
set_option maxRecDepth 20000 in
theorem ggX3_letMinuteGoBy_X3_loseGame : GoodIn wsX3_letMinuteGoBy wsX3_loseGame := goodIn_r _ [121, 2, 5, 122, 123, 124, 82, 125, 84, 126, 127, 128, 129, 130, 131, 132, 133, 134, 135, 136, 137, 138, 139, 140, 141, 142, 143, 144, 145] (by decide +kernel) (by decide +kernel)
set_option maxRecDepth 20000 in
theorem gX3_letMinuteGoBy_X3_loseGame : GoodIn wsX3_letMinuteGoBy (wsV RX3 151 RX3 yX3_loseGame wsX3_loseGame) := goodIn_app (goodIn_of _ (by decide +kernel)) ggX3_letMinuteGoBy_X3_loseGame
theorem dX3_letMinuteGoBy_0 : decode cX3_letMinuteGoBy 0 = .ok (.aload_n 0, 1) := by decide +kernel
theorem dX3_letMinuteGoBy_1 : decode cX3_letMinuteGoBy 1 = .ok (.dup, 1) := by decide +kernel
theorem dX3_letMinuteGoBy_2 : decode cX3_letMinuteGoBy 2 = .ok (.getfield 69, 3) := by decide +kernel
theorem dX3_letMinuteGoBy_5 : decode cX3_letMinuteGoBy 5 = .ok (.iconst 1, 1) := by decide +kernel
theorem dX3_letMinuteGoBy_6 : decode cX3_letMinuteGoBy 6 = .ok (.iadd, 1) := by decide +kernel
theorem dX3_letMinuteGoBy_7 : decode cX3_letMinuteGoBy 7 = .ok (.putfield 69, 3) := by decide +kernel
theorem dX3_letMinuteGoBy_10 : decode cX3_letMinuteGoBy 10 = .ok (.aload_n 0, 1) := by decide +kernel
theorem dX3_letMinuteGoBy_11 : decode cX3_letMinuteGoBy 11 = .ok (.getfield 32, 3) := by decide +kernel
theorem dX3_letMinuteGoBy_14 : decode cX3_letMinuteGoBy 14 = .ok (.getfield 134, 3) := by decide +kernel
theorem dX3_letMinuteGoBy_17 : decode cX3_letMinuteGoBy 17 = .ok (.ifCond .ne 5, 3) := by decide +kernel
theorem dX3_letMinuteGoBy_20 : decode cX3_letMinuteGoBy 20 = .ok (.iconst 0, 1) := by decide +kernel
theorem dX3_letMinuteGoBy_21 : decode cX3_letMinuteGoBy 21 = .ok (.ireturn, 1) := by decide +kernel
theorem dX3_letMinuteGoBy_22 : decode cX3_letMinuteGoBy 22 = .ok (.aload_n 0, 1) := by decide +kernel
theorem dX3_letMinuteGoBy_23 : decode cX3_letMinuteGoBy 23 = .ok (.getfield 32, 3) := by decide +kernel
theorem dX3_letMinuteGoBy_26 : decode cX3_letMinuteGoBy 26 = .ok (.dup, 1) := by decide +kernel
theorem dX3_letMinuteGoBy_27 : decode cX3_letMinuteGoBy 27 = .ok (.getfield 137, 3) := by decide +kernel
theorem dX3_letMinuteGoBy_30 : decode cX3_letMinuteGoBy 30 = .ok (.iconst 1, 1) := by decide +kernel
theorem dX3_letMinuteGoBy_31 : decode cX3_letMinuteGoBy 31 = .ok (.iadd, 1) := by decide +kernel
theorem dX3_letMinuteGoBy_32 : decode cX3_letMinuteGoBy 32 = .ok (.putfield 137, 3) := by decide +kernel
theorem dX3_letMinuteGoBy_35 : decode cX3_letMinuteGoBy 35 = .ok (.aload_n 0, 1) := by decide +kernel
theorem dX3_letMinuteGoBy_36 : decode cX3_letMinuteGoBy 36 = .ok (.invokevirtual 140, 3) := by decide +kernel
theorem dX3_letMinuteGoBy_39 : decode cX3_letMinuteGoBy 39 = .ok (.iconst 0, 1) := by decide +kernel
theorem dX3_letMinuteGoBy_40 : decode cX3_letMinuteGoBy 40 = .ok (.istore_n 1, 1) := by decide +kernel
theorem dX3_letMinuteGoBy_41 : decode cX3_letMinuteGoBy 41 = .ok (.iconst 0, 1) := by decide +kernel
theorem dX3_letMinuteGoBy_42 : decode cX3_letMinuteGoBy 42 = .ok (.istore_n 2, 1) := by decide +kernel
theorem dX3_letMinuteGoBy_43 : decode cX3_letMinuteGoBy 43 = .ok (.iload_n 2, 1) := by decide +kernel
theorem dX3_letMinuteGoBy_44 : decode cX3_letMinuteGoBy 44 = .ok (.aload_n 0, 1) := by decide +kernel
theorem dX3_letMinuteGoBy_45 : decode cX3_letMinuteGoBy 45 = .ok (.getfield 60, 3) := by decide +kernel
theorem dX3_letMinuteGoBy_48 : decode cX3_letMinuteGoBy 48 = .ok (.if_icmp .ge 25, 3) := by decide +kernel
theorem dX3_letMinuteGoBy_51 : decode cX3_letMinuteGoBy 51 = .ok (.iload_n 1, 1) := by decide +kernel
theorem dX3_letMinuteGoBy_52 : decode cX3_letMinuteGoBy 52 = .ok (.aload_n 0, 1) := by decide +kernel
theorem dX3_letMinuteGoBy_53 : decode cX3_letMinuteGoBy 53 = .ok (.aload_n 0, 1) := by decide +kernel
theorem dX3_letMinuteGoBy_54 : decode cX3_letMinuteGoBy 54 = .ok (.getfield 25, 3) := by decide +kernel
theorem dX3_letMinuteGoBy_57 : decode cX3_letMinuteGoBy 57 = .ok (.iload_n 2, 1) := by decide +kernel
theorem dX3_letMinuteGoBy_58 : decode cX3_letMinuteGoBy 58 = .ok (.aaload, 1) := by decide +kernel
theorem dX3_letMinuteGoBy_59 : decode cX3_letMinuteGoBy 59 = .ok (.invokevirtual 143, 3) := by decide +kernel
theorem dX3_letMinuteGoBy_62 : decode cX3_letMinuteGoBy 62 = .ok (.invokestatic 147, 3) := by decide +kernel
theorem dX3_letMinuteGoBy_65 : decode cX3_letMinuteGoBy 65 = .ok (.iadd, 1) := by decide +kernel
theorem dX3_letMinuteGoBy_66 : decode cX3_letMinuteGoBy 66 = .ok (.istore_n 1, 1) := by decide +kernel
theorem dX3_letMinuteGoBy_67 : decode cX3_letMinuteGoBy 67 = .ok (.iinc 2 1, 3) := by decide +kernel
theorem dX3_letMinuteGoBy_70 : decode cX3_letMinuteGoBy 70 = .ok (.goto (-27), 3) := by decide +kernel
theorem dX3_letMinuteGoBy_73 : decode cX3_letMinuteGoBy 73 = .ok (.aload_n 0, 1) := by decide +kernel
theorem dX3_letMinuteGoBy_74 : decode cX3_letMinuteGoBy 74 = .ok (.getfield 32, 3) := by decide +kernel
theorem dX3_letMinuteGoBy_77 : decode cX3_letMinuteGoBy 77 = .ok (.getfield 134, 3) := by decide +kernel
theorem dX3_letMinuteGoBy_80 : decode cX3_letMinuteGoBy 80 = .ok (.ifCond .eq 19, 3) := by decide +kernel
theorem dX3_letMinuteGoBy_83 : decode cX3_letMinuteGoBy 83 = .ok (.aload_n 0, 1) := by decide +kernel
theorem dX3_letMinuteGoBy_84 : decode cX3_letMinuteGoBy 84 = .ok (.getfield 32, 3) := by decide +kernel
theorem dX3_letMinuteGoBy_87 : decode cX3_letMinuteGoBy 87 = .ok (.getfield 137, 3) := by decide +kernel
theorem dX3_letMinuteGoBy_90 : decode cX3_letMinuteGoBy 90 = .ok (.bipush 60, 2) := by decide +kernel
theorem dX3_letMinuteGoBy_92 : decode cX3_letMinuteGoBy 92 = .ok (.if_icmp .lt 7, 3) := by decide +kernel
theorem dX3_letMinuteGoBy_95 : decode cX3_letMinuteGoBy 95 = .ok (.aload_n 0, 1) := by decide +kernel
theorem dX3_letMinuteGoBy_96 : decode cX3_letMinuteGoBy 96 = .ok (.invokevirtual 151, 3) := by decide +kernel
theorem dX3_letMinuteGoBy_99 : decode cX3_letMinuteGoBy 99 = .ok (.iload_n 1, 1) := by decide +kernel
theorem dX3_letMinuteGoBy_100 : decode cX3_letMinuteGoBy 100 = .ok (.ireturn, 1) := by decide +kernel
set_option maxRecDepth 20000 in
theorem ggX3_forgetLastMinute_X2_rest : GoodIn wsX3_forgetLastMinute wsX2_rest := goodIn_r _ [13, 14, 15, 43, 44, 45, 46] (by decide +kernel) (by decide +kernel)
set_option maxRecDepth 20000 in
theorem gX3_forgetLastMinute_X2_rest : GoodIn wsX3_forgetLastMinute (wsV RX3 160 RX2 yX2_rest wsX2_rest) := goodIn_app (goodIn_of _ (by decide +kernel)) ggX3_forgetLastMinute_X2_rest
theorem dX3_forgetLastMinute_0 : decode cX3_forgetLastMinute 0 = .ok (.iconst 0, 1) := by decide +kernel
theorem dX3_forgetLastMinute_1 : decode cX3_forgetLastMinute 1 = .ok (.istore_n 1, 1) := by decide +kernel
theorem dX3_forgetLastMinute_2 : decode cX3_forgetLastMinute 2 = .ok (.iload_n 1, 1) := by decide +kernel
theorem dX3_forgetLastMinute_3 : decode cX3_forgetLastMinute 3 = .ok (.aload_n 0, 1) := by decide +kernel
theorem dX3_forgetLastMinute_4 : decode cX3_forgetLastMinute 4 = .ok (.getfield 47, 3) := by decide +kernel
theorem dX3_forgetLastMinute_7 : decode cX3_forgetLastMinute 7 = .ok (.if_icmp .ge 19, 3) := by decide +kernel
theorem dX3_forgetLastMinute_10 : decode cX3_forgetLastMinute 10 = .ok (.aload_n 0, 1) := by decide +kernel
theorem dX3_forgetLastMinute_11 : decode cX3_forgetLastMinute 11 = .ok (.getfield 11, 3) := by decide +kernel
theorem dX3_forgetLastMinute_14 : decode cX3_forgetLastMinute 14 = .ok (.iload_n 1, 1) := by decide +kernel
theorem dX3_forgetLastMinute_15 : decode cX3_forgetLastMinute 15 = .ok (.aaload, 1) := by decide +kernel
theorem dX3_forgetLastMinute_16 : decode cX3_forgetLastMinute 16 = .ok (.iconst 0, 1) := by decide +kernel
theorem dX3_forgetLastMinute_17 : decode cX3_forgetLastMinute 17 = .ok (.putfield 154, 3) := by decide +kernel
theorem dX3_forgetLastMinute_20 : decode cX3_forgetLastMinute 20 = .ok (.iinc 1 1, 3) := by decide +kernel
theorem dX3_forgetLastMinute_23 : decode cX3_forgetLastMinute 23 = .ok (.goto (-21), 3) := by decide +kernel
theorem dX3_forgetLastMinute_26 : decode cX3_forgetLastMinute 26 = .ok (.iconst 0, 1) := by decide +kernel
theorem dX3_forgetLastMinute_27 : decode cX3_forgetLastMinute 27 = .ok (.istore_n 1, 1) := by decide +kernel
theorem dX3_forgetLastMinute_28 : decode cX3_forgetLastMinute 28 = .ok (.iload_n 1, 1) := by decide +kernel
theorem dX3_forgetLastMinute_29 : decode cX3_forgetLastMinute 29 = .ok (.aload_n 0, 1) := by decide +kernel
theorem dX3_forgetLastMinute_30 : decode cX3_forgetLastMinute 30 = .ok (.getfield 54, 3) := by decide +kernel
theorem dX3_forgetLastMinute_33 : decode cX3_forgetLastMinute 33 = .ok (.if_icmp .ge 19, 3) := by decide +kernel
theorem dX3_forgetLastMinute_36 : decode cX3_forgetLastMinute 36 = .ok (.aload_n 0, 1) := by decide +kernel
theorem dX3_forgetLastMinute_37 : decode cX3_forgetLastMinute 37 = .ok (.getfield 19, 3) := by decide +kernel
theorem dX3_forgetLastMinute_40 : decode cX3_forgetLastMinute 40 = .ok (.iload_n 1, 1) := by decide +kernel
theorem dX3_forgetLastMinute_41 : decode cX3_forgetLastMinute 41 = .ok (.aaload, 1) := by decide +kernel
theorem dX3_forgetLastMinute_42 : decode cX3_forgetLastMinute 42 = .ok (.iconst 0, 1) := by decide +kernel
theorem dX3_forgetLastMinute_43 : decode cX3_forgetLastMinute 43 = .ok (.putfield 157, 3) := by decide +kernel
theorem dX3_forgetLastMinute_46 : decode cX3_forgetLastMinute 46 = .ok (.iinc 1 1, 3) := by decide +kernel
theorem dX3_forgetLastMinute_49 : decode cX3_forgetLastMinute 49 = .ok (.goto (-21), 3) := by decide +kernel
theorem dX3_forgetLastMinute_52 : decode cX3_forgetLastMinute 52 = .ok (.iconst 0, 1) := by decide +kernel
theorem dX3_forgetLastMinute_53 : decode cX3_forgetLastMinute 53 = .ok (.istore_n 1, 1) := by decide +kernel
theorem dX3_forgetLastMinute_54 : decode cX3_forgetLastMinute 54 = .ok (.iload_n 1, 1) := by decide +kernel
theorem dX3_forgetLastMinute_55 : decode cX3_forgetLastMinute 55 = .ok (.aload_n 0, 1) := by decide +kernel
theorem dX3_forgetLastMinute_56 : decode cX3_forgetLastMinute 56 = .ok (.getfield 60, 3) := by decide +kernel
theorem dX3_forgetLastMinute_59 : decode cX3_forgetLastMinute 59 = .ok (.if_icmp .ge 18, 3) := by decide +kernel
theorem dX3_forgetLastMinute_62 : decode cX3_forgetLastMinute 62 = .ok (.aload_n 0, 1) := by decide +kernel
theorem dX3_forgetLastMinute_63 : decode cX3_forgetLastMinute 63 = .ok (.getfield 25, 3) := by decide +kernel
theorem dX3_forgetLastMinute_66 : decode cX3_forgetLastMinute 66 = .ok (.iload_n 1, 1) := by decide +kernel
theorem dX3_forgetLastMinute_67 : decode cX3_forgetLastMinute 67 = .ok (.aaload, 1) := by decide +kernel
theorem dX3_forgetLastMinute_68 : decode cX3_forgetLastMinute 68 = .ok (.invokevirtual 160, 3) := by decide +kernel
theorem dX3_forgetLastMinute_71 : decode cX3_forgetLastMinute 71 = .ok (.iinc 1 1, 3) := by decide +kernel
theorem dX3_forgetLastMinute_74 : decode cX3_forgetLastMinute 74 = .ok (.goto (-20), 3) := by decide +kernel
theorem dX3_forgetLastMinute_77 : decode cX3_forgetLastMinute 77 = .ok (.return_, 1) := by decide +kernel
set_option maxRecDepth 20000 in
theorem ggX3_takeTurn_X3_findWork : GoodIn wsX3_takeTurn wsX3_findWork := goodIn_r _ [12, 13, 2, 14, 15, 16, 17, 11, 18, 19, 5, 20, 21, 22, 23, 24, 25, 26, 27, 28, 101, 102, 103, 104, 105, 106, 107, 108, 109, 110, 111, 112, 113, 114, 115, 116, 117, 118, 119, 120, 121, 122, 123, 124, 125, 126, 127] (by decide +kernel) (by decide +kernel)
set_option maxRecDepth 20000 in
theorem gX3_takeTurn_X3_findWork : GoodIn wsX3_takeTurn (wsV RX3 163 RX3 yX3_findWork wsX3_findWork) := goodIn_app (goodIn_of _ (by decide +kernel)) ggX3_takeTurn_X3_findWork
set_option maxRecDepth 20000 in
theorem ggX3_takeTurn_X3_hasLock : GoodIn wsX3_takeTurn wsX3_hasLock := goodIn_r _ [32, 13, 101, 102, 103, 104, 105, 106, 107, 108, 109, 110, 111, 112] (by decide +kernel) (by decide +kernel)
set_option maxRecDepth 20000 in
theorem gX3_takeTurn_X3_hasLock : GoodIn wsX3_takeTurn (wsV RX3 166 RX3 yX3_hasLock wsX3_hasLock) := goodIn_app (goodIn_of _ (by decide +kernel)) ggX3_takeTurn_X3_hasLock
set_option maxRecDepth 20000 in
theorem ggX3_takeTurn_X3_workAt : GoodIn wsX3_takeTurn wsX3_workAt := goodIn_r _ [36, 14, 37, 38, 39, 40, 41, 42, 43, 24, 44, 26, 45, 27, 46, 47, 48, 11, 49, 19, 5, 20, 50, 51, 52, 53, 54, 55, 56, 57, 58, 59, 60, 61, 62, 63, 64, 65, 66, 67, 68, 69, 113, 114, 115, 116, 117, 118, 119, 120, 121, 122, 101, 102, 103, 104, 105, 106, 107, 108, 109, 110, 111, 112, 123, 124, 125, 126, 127, 128, 129, 130, 131, 132, 133, 134] (by decide +kernel) (by decide +kernel)
set_option maxRecDepth 20000 in
theorem gX3_takeTurn_X3_workAt : GoodIn wsX3_takeTurn (wsV RX3 175 RX3 yX3_workAt wsX3_workAt) := goodIn_app (goodIn_of _ (by decide +kernel)) ggX3_takeTurn_X3_workAt
set_option maxRecDepth 20000 in
theorem ggX3_takeTurn_X3_findSearch : GoodIn wsX3_takeTurn wsX3_findSearch := goodIn_r _ [73, 19, 5, 74, 75, 76, 77, 11, 78, 13, 2, 79, 80, 81, 82, 83, 84, 85, 86, 101, 102, 103, 104, 105, 106, 107, 108, 109, 110, 111, 112, 123, 124, 125, 126, 127, 113, 114, 115, 116, 117, 118, 119, 120, 121, 122] (by decide +kernel) (by decide +kernel)
set_option maxRecDepth 20000 in
theorem gX3_takeTurn_X3_findSearch : GoodIn wsX3_takeTurn (wsV RX3 179 RX3 yX3_findSearch wsX3_findSearch) := goodIn_app (goodIn_of _ (by decide +kernel)) ggX3_takeTurn_X3_findSearch
set_option maxRecDepth 20000 in
theorem ggX3_takeTurn_X3_hasThing : GoodIn wsX3_takeTurn wsX3_hasThing := goodIn_r _ [90, 19, 101, 102, 103, 104, 105, 106, 107, 108, 109, 110, 111, 112] (by decide +kernel) (by decide +kernel)
set_option maxRecDepth 20000 in
theorem gX3_takeTurn_X3_hasThing : GoodIn wsX3_takeTurn (wsV RX3 182 RX3 yX3_hasThing wsX3_hasThing) := goodIn_app (goodIn_of _ (by decide +kernel)) ggX3_takeTurn_X3_hasThing
set_option maxRecDepth 20000 in
theorem ggX3_takeTurn_X3_searchFor : GoodIn wsX3_takeTurn wsX3_searchFor := goodIn_r _ [94, 74, 95, 96, 20, 123, 124, 125, 126, 127] (by decide +kernel) (by decide +kernel)
set_option maxRecDepth 20000 in
theorem gX3_takeTurn_X3_searchFor : GoodIn wsX3_takeTurn (wsV RX3 188 RX3 yX3_searchFor wsX3_searchFor) := goodIn_app (goodIn_of _ (by decide +kernel)) ggX3_takeTurn_X3_searchFor
theorem dX3_takeTurn_0 : decode cX3_takeTurn 0 = .ok (.aload_n 0, 1) := by decide +kernel
theorem dX3_takeTurn_1 : decode cX3_takeTurn 1 = .ok (.invokevirtual 163, 3) := by decide +kernel
theorem dX3_takeTurn_4 : decode cX3_takeTurn 4 = .ok (.istore_n 2, 1) := by decide +kernel
theorem dX3_takeTurn_5 : decode cX3_takeTurn 5 = .ok (.aload_n 0, 1) := by decide +kernel
theorem dX3_takeTurn_6 : decode cX3_takeTurn 6 = .ok (.iload_n 2, 1) := by decide +kernel
theorem dX3_takeTurn_7 : decode cX3_takeTurn 7 = .ok (.invokevirtual 166, 3) := by decide +kernel
theorem dX3_takeTurn_10 : decode cX3_takeTurn 10 = .ok (.ifCond .eq 24, 3) := by decide +kernel
theorem dX3_takeTurn_13 : decode cX3_takeTurn 13 = .ok (.aload_n 1, 1) := by decide +kernel
theorem dX3_takeTurn_14 : decode cX3_takeTurn 14 = .ok (.iload_n 2, 1) := by decide +kernel
theorem dX3_takeTurn_15 : decode cX3_takeTurn 15 = .ok (.putfield 169, 3) := by decide +kernel
theorem dX3_takeTurn_18 : decode cX3_takeTurn 18 = .ok (.aload_n 0, 1) := by decide +kernel
theorem dX3_takeTurn_19 : decode cX3_takeTurn 19 = .ok (.aload_n 0, 1) := by decide +kernel
theorem dX3_takeTurn_20 : decode cX3_takeTurn 20 = .ok (.getfield 11, 3) := by decide +kernel
theorem dX3_takeTurn_23 : decode cX3_takeTurn 23 = .ok (.iload_n 2, 1) := by decide +kernel
theorem dX3_takeTurn_24 : decode cX3_takeTurn 24 = .ok (.aaload, 1) := by decide +kernel
theorem dX3_takeTurn_25 : decode cX3_takeTurn 25 = .ok (.iload_n 2, 1) := by decide +kernel
theorem dX3_takeTurn_26 : decode cX3_takeTurn 26 = .ok (.aload_n 1, 1) := by decide +kernel
theorem dX3_takeTurn_27 : decode cX3_takeTurn 27 = .ok (.getfield 172, 3) := by decide +kernel
theorem dX3_takeTurn_30 : decode cX3_takeTurn 30 = .ok (.invokevirtual 175, 3) := by decide +kernel
theorem dX3_takeTurn_33 : decode cX3_takeTurn 33 = .ok (.ireturn, 1) := by decide +kernel
theorem dX3_takeTurn_34 : decode cX3_takeTurn 34 = .ok (.aload_n 0, 1) := by decide +kernel
theorem dX3_takeTurn_35 : decode cX3_takeTurn 35 = .ok (.invokevirtual 179, 3) := by decide +kernel
theorem dX3_takeTurn_38 : decode cX3_takeTurn 38 = .ok (.istore_n 3, 1) := by decide +kernel
theorem dX3_takeTurn_39 : decode cX3_takeTurn 39 = .ok (.aload_n 0, 1) := by decide +kernel
theorem dX3_takeTurn_40 : decode cX3_takeTurn 40 = .ok (.iload_n 3, 1) := by decide +kernel
theorem dX3_takeTurn_41 : decode cX3_takeTurn 41 = .ok (.invokevirtual 182, 3) := by decide +kernel
theorem dX3_takeTurn_44 : decode cX3_takeTurn 44 = .ok (.ifCond .eq 25, 3) := by decide +kernel
theorem dX3_takeTurn_47 : decode cX3_takeTurn 47 = .ok (.aload_n 1, 1) := by decide +kernel
theorem dX3_takeTurn_48 : decode cX3_takeTurn 48 = .ok (.iload_n 3, 1) := by decide +kernel
theorem dX3_takeTurn_49 : decode cX3_takeTurn 49 = .ok (.putfield 185, 3) := by decide +kernel
theorem dX3_takeTurn_52 : decode cX3_takeTurn 52 = .ok (.aload_n 0, 1) := by decide +kernel
theorem dX3_takeTurn_53 : decode cX3_takeTurn 53 = .ok (.aload_n 0, 1) := by decide +kernel
theorem dX3_takeTurn_54 : decode cX3_takeTurn 54 = .ok (.getfield 19, 3) := by decide +kernel
theorem dX3_takeTurn_57 : decode cX3_takeTurn 57 = .ok (.iload_n 3, 1) := by decide +kernel
theorem dX3_takeTurn_58 : decode cX3_takeTurn 58 = .ok (.aaload, 1) := by decide +kernel
theorem dX3_takeTurn_59 : decode cX3_takeTurn 59 = .ok (.aload_n 1, 1) := by decide +kernel
theorem dX3_takeTurn_60 : decode cX3_takeTurn 60 = .ok (.getfield 172, 3) := by decide +kernel
theorem dX3_takeTurn_63 : decode cX3_takeTurn 63 = .ok (.invokevirtual 188, 3) := by decide +kernel
theorem dX3_takeTurn_66 : decode cX3_takeTurn 66 = .ok (.goto 23, 3) := by decide +kernel
theorem dX3_takeTurn_69 : decode cX3_takeTurn 69 = .ok (.aload_n 1, 1) := by decide +kernel
theorem dX3_takeTurn_70 : decode cX3_takeTurn 70 = .ok (.dup, 1) := by decide +kernel
theorem dX3_takeTurn_71 : decode cX3_takeTurn 71 = .ok (.getfield 192, 3) := by decide +kernel
theorem dX3_takeTurn_74 : decode cX3_takeTurn 74 = .ok (.iconst 1, 1) := by decide +kernel
theorem dX3_takeTurn_75 : decode cX3_takeTurn 75 = .ok (.iadd, 1) := by decide +kernel
theorem dX3_takeTurn_76 : decode cX3_takeTurn 76 = .ok (.putfield 192, 3) := by decide +kernel
theorem dX3_takeTurn_79 : decode cX3_takeTurn 79 = .ok (.aload_n 0, 1) := by decide +kernel
theorem dX3_takeTurn_80 : decode cX3_takeTurn 80 = .ok (.dup, 1) := by decide +kernel
theorem dX3_takeTurn_81 : decode cX3_takeTurn 81 = .ok (.getfield 75, 3) := by decide +kernel
theorem dX3_takeTurn_84 : decode cX3_takeTurn 84 = .ok (.iconst 1, 1) := by decide +kernel
theorem dX3_takeTurn_85 : decode cX3_takeTurn 85 = .ok (.iadd, 1) := by decide +kernel
theorem dX3_takeTurn_86 : decode cX3_takeTurn 86 = .ok (.putfield 75, 3) := by decide +kernel
theorem dX3_takeTurn_89 : decode cX3_takeTurn 89 = .ok (.iconst 0, 1) := by decide +kernel
theorem dX3_takeTurn_90 : decode cX3_takeTurn 90 = .ok (.ireturn, 1) := by decide +kernel
set_option maxRecDepth 20000 in
theorem ggX3_findWork_X3_thingsIn : GoodIn wsX3_findWork wsX3_thingsIn := goodIn_r _ [8, 9, 10, 11, 20, 21, 22, 23, 24, 25, 26, 27, 28, 29, 30, 31, 42, 43, 44, 45, 46] (by decide +kernel) (by decide +kernel)
set_option maxRecDepth 20000 in
theorem gX3_findWork_X3_thingsIn : GoodIn wsX3_findWork (wsV RX3 103 RX3 yX3_thingsIn wsX3_thingsIn) := goodIn_app (goodIn_of _ (by decide +kernel)) ggX3_findWork_X3_thingsIn
set_option maxRecDepth 20000 in
theorem ggX3_findWork_X1_isReady : GoodIn wsX3_findWork wsX1_isReady := goodIn_r _ [16, 17, 18, 19, 32, 33, 34, 35, 36, 37, 38, 39, 40, 41] (by decide +kernel) (by decide +kernel)
set_option maxRecDepth 20000 in
theorem gX3_findWork_X1_isReady : GoodIn wsX3_findWork (wsV RX3 107 RX1 yX1_isReady wsX1_isReady) := goodIn_app (goodIn_of _ (by decide +kernel)) ggX3_findWork_X1_isReady
theorem dX3_findWork_0 : decode cX3_findWork 0 = .ok (.aload_n 0, 1) := by decide +kernel
theorem dX3_findWork_1 : decode cX3_findWork 1 = .ok (.iconst 1, 1) := by decide +kernel
theorem dX3_findWork_2 : decode cX3_findWork 2 = .ok (.invokevirtual 103, 3) := by decide +kernel
theorem dX3_findWork_5 : decode cX3_findWork 5 = .ok (.istore_n 1, 1) := by decide +kernel
theorem dX3_findWork_6 : decode cX3_findWork 6 = .ok (.iconst 0, 1) := by decide +kernel
theorem dX3_findWork_7 : decode cX3_findWork 7 = .ok (.istore_n 2, 1) := by decide +kernel
theorem dX3_findWork_8 : decode cX3_findWork 8 = .ok (.iload_n 2, 1) := by decide +kernel
theorem dX3_findWork_9 : decode cX3_findWork 9 = .ok (.aload_n 0, 1) := by decide +kernel
theorem dX3_findWork_10 : decode cX3_findWork 10 = .ok (.getfield 47, 3) := by decide +kernel
theorem dX3_findWork_13 : decode cX3_findWork 13 = .ok (.if_icmp .ge 37, 3) := by decide +kernel
theorem dX3_findWork_16 : decode cX3_findWork 16 = .ok (.aload_n 0, 1) := by decide +kernel
theorem dX3_findWork_17 : decode cX3_findWork 17 = .ok (.getfield 11, 3) := by decide +kernel
theorem dX3_findWork_20 : decode cX3_findWork 20 = .ok (.iload_n 2, 1) := by decide +kernel
theorem dX3_findWork_21 : decode cX3_findWork 21 = .ok (.aaload, 1) := by decide +kernel
theorem dX3_findWork_22 : decode cX3_findWork 22 = .ok (.iload_n 1, 1) := by decide +kernel
theorem dX3_findWork_23 : decode cX3_findWork 23 = .ok (.invokevirtual 107, 3) := by decide +kernel
theorem dX3_findWork_26 : decode cX3_findWork 26 = .ok (.ifCond .eq 18, 3) := by decide +kernel
theorem dX3_findWork_29 : decode cX3_findWork 29 = .ok (.aload_n 0, 1) := by decide +kernel
theorem dX3_findWork_30 : decode cX3_findWork 30 = .ok (.getfield 11, 3) := by decide +kernel
theorem dX3_findWork_33 : decode cX3_findWork 33 = .ok (.iload_n 2, 1) := by decide +kernel
theorem dX3_findWork_34 : decode cX3_findWork 34 = .ok (.aaload, 1) := by decide +kernel
theorem dX3_findWork_35 : decode cX3_findWork 35 = .ok (.getfield 154, 3) := by decide +kernel
theorem dX3_findWork_38 : decode cX3_findWork 38 = .ok (.iconst 2, 1) := by decide +kernel
theorem dX3_findWork_39 : decode cX3_findWork 39 = .ok (.if_icmp .ge 5, 3) := by decide +kernel
theorem dX3_findWork_42 : decode cX3_findWork 42 = .ok (.iload_n 2, 1) := by decide +kernel
theorem dX3_findWork_43 : decode cX3_findWork 43 = .ok (.ireturn, 1) := by decide +kernel
theorem dX3_findWork_44 : decode cX3_findWork 44 = .ok (.iinc 2 1, 3) := by decide +kernel
theorem dX3_findWork_47 : decode cX3_findWork 47 = .ok (.goto (-39), 3) := by decide +kernel
theorem dX3_findWork_50 : decode cX3_findWork 50 = .ok (.iconst (-1), 1) := by decide +kernel
theorem dX3_findWork_51 : decode cX3_findWork 51 = .ok (.ireturn, 1) := by decide +kernel
set_option maxRecDepth 20000 in
theorem ggX3_findSearch_X3_openLocks : GoodIn wsX3_findSearch wsX3_openLocks := goodIn_r _ [8, 9, 10, 11, 19, 20, 21, 22, 23, 24, 25, 26, 27, 28, 29, 30, 36, 37, 38, 39, 40, 41, 42, 43, 44, 45] (by decide +kernel) (by decide +kernel)
set_option maxRecDepth 20000 in
theorem gX3_findSearch_X3_openLocks : GoodIn wsX3_findSearch (wsV RX3 118 RX3 yX3_openLocks wsX3_openLocks) := goodIn_app (goodIn_of _ (by decide +kernel)) ggX3_findSearch_X3_openLocks
set_option maxRecDepth 20000 in
theorem ggX3_findSearch_X5_canBeReached : GoodIn wsX3_findSearch wsX5_canBeReached := goodIn_r _ [16, 17, 18, 31, 32, 33, 34, 35] (by decide +kernel) (by decide +kernel)
set_option maxRecDepth 20000 in
theorem gX3_findSearch_X5_canBeReached : GoodIn wsX3_findSearch (wsV RX3 122 RX5 yX5_canBeReached wsX5_canBeReached) := goodIn_app (goodIn_of _ (by decide +kernel)) ggX3_findSearch_X5_canBeReached
theorem dX3_findSearch_0 : decode cX3_findSearch 0 = .ok (.aload_n 0, 1) := by decide +kernel
theorem dX3_findSearch_1 : decode cX3_findSearch 1 = .ok (.invokevirtual 118, 3) := by decide +kernel
theorem dX3_findSearch_4 : decode cX3_findSearch 4 = .ok (.istore_n 1, 1) := by decide +kernel
theorem dX3_findSearch_5 : decode cX3_findSearch 5 = .ok (.iconst 0, 1) := by decide +kernel
theorem dX3_findSearch_6 : decode cX3_findSearch 6 = .ok (.istore_n 2, 1) := by decide +kernel
theorem dX3_findSearch_7 : decode cX3_findSearch 7 = .ok (.iload_n 2, 1) := by decide +kernel
theorem dX3_findSearch_8 : decode cX3_findSearch 8 = .ok (.aload_n 0, 1) := by decide +kernel
theorem dX3_findSearch_9 : decode cX3_findSearch 9 = .ok (.getfield 54, 3) := by decide +kernel
theorem dX3_findSearch_12 : decode cX3_findSearch 12 = .ok (.if_icmp .ge 36, 3) := by decide +kernel
theorem dX3_findSearch_15 : decode cX3_findSearch 15 = .ok (.aload_n 0, 1) := by decide +kernel
theorem dX3_findSearch_16 : decode cX3_findSearch 16 = .ok (.getfield 19, 3) := by decide +kernel
theorem dX3_findSearch_19 : decode cX3_findSearch 19 = .ok (.iload_n 2, 1) := by decide +kernel
theorem dX3_findSearch_20 : decode cX3_findSearch 20 = .ok (.aaload, 1) := by decide +kernel
theorem dX3_findSearch_21 : decode cX3_findSearch 21 = .ok (.iload_n 1, 1) := by decide +kernel
theorem dX3_findSearch_22 : decode cX3_findSearch 22 = .ok (.invokevirtual 122, 3) := by decide +kernel
theorem dX3_findSearch_25 : decode cX3_findSearch 25 = .ok (.ifCond .eq 17, 3) := by decide +kernel
theorem dX3_findSearch_28 : decode cX3_findSearch 28 = .ok (.aload_n 0, 1) := by decide +kernel
theorem dX3_findSearch_29 : decode cX3_findSearch 29 = .ok (.getfield 19, 3) := by decide +kernel
theorem dX3_findSearch_32 : decode cX3_findSearch 32 = .ok (.iload_n 2, 1) := by decide +kernel
theorem dX3_findSearch_33 : decode cX3_findSearch 33 = .ok (.aaload, 1) := by decide +kernel
theorem dX3_findSearch_34 : decode cX3_findSearch 34 = .ok (.getfield 157, 3) := by decide +kernel
theorem dX3_findSearch_37 : decode cX3_findSearch 37 = .ok (.ifCond .ne 5, 3) := by decide +kernel
theorem dX3_findSearch_40 : decode cX3_findSearch 40 = .ok (.iload_n 2, 1) := by decide +kernel
theorem dX3_findSearch_41 : decode cX3_findSearch 41 = .ok (.ireturn, 1) := by decide +kernel
theorem dX3_findSearch_42 : decode cX3_findSearch 42 = .ok (.iinc 2 1, 3) := by decide +kernel
theorem dX3_findSearch_45 : decode cX3_findSearch 45 = .ok (.goto (-38), 3) := by decide +kernel
theorem dX3_findSearch_48 : decode cX3_findSearch 48 = .ok (.iconst (-1), 1) := by decide +kernel
theorem dX3_findSearch_49 : decode cX3_findSearch 49 = .ok (.ireturn, 1) := by decide +kernel
set_option maxRecDepth 20000 in
theorem ggX3_workAt_X1_openByWork : GoodIn wsX3_workAt wsX1_openByWork := goodIn_r _ [10, 11, 12, 13, 42, 43, 44, 45, 46, 47, 48, 49, 50, 51] (by decide +kernel) (by decide +kernel)
set_option maxRecDepth 20000 in
theorem gX3_workAt_X1_openByWork : GoodIn wsX3_workAt (wsV RX3 198 RX1 yX1_openByWork wsX1_openByWork) := goodIn_app (goodIn_of _ (by decide +kernel)) ggX3_workAt_X1_openByWork
set_option maxRecDepth 20000 in
theorem ggX3_workAt_X3_keepThings : GoodIn wsX3_workAt wsX3_keepThings := goodIn_r _ [18, 19, 20, 21, 22, 23, 24, 52, 53, 54, 55, 56, 57, 58, 59, 60, 61, 62, 63, 64, 65, 66, 67, 68] (by decide +kernel) (by decide +kernel)
set_option maxRecDepth 20000 in
theorem gX3_workAt_X3_keepThings : GoodIn wsX3_workAt (wsV RX3 201 RX3 yX3_keepThings wsX3_keepThings) := goodIn_app (goodIn_of _ (by decide +kernel)) ggX3_workAt_X3_keepThings
set_option maxRecDepth 20000 in
theorem ggX3_workAt_X3_solveGame : GoodIn wsX3_workAt wsX3_solveGame := goodIn_r _ [28, 29, 30, 31, 32, 33, 34, 35, 36, 37, 38, 39, 40, 41, 52, 53, 54, 55, 56, 57, 58, 59, 60, 61, 62, 63, 69, 70, 71, 72, 73, 74, 75] (by decide +kernel) (by decide +kernel)
set_option maxRecDepth 20000 in
theorem gX3_workAt_X3_solveGame : GoodIn wsX3_workAt (wsV RX3 204 RX3 yX3_solveGame wsX3_solveGame) := goodIn_app (goodIn_of _ (by decide +kernel)) ggX3_workAt_X3_solveGame
theorem dX3_workAt_0 : decode cX3_workAt 0 = .ok (.aload_n 1, 1) := by decide +kernel
theorem dX3_workAt_1 : decode cX3_workAt 1 = .ok (.dup, 1) := by decide +kernel
theorem dX3_workAt_2 : decode cX3_workAt 2 = .ok (.getfield 154, 3) := by decide +kernel
theorem dX3_workAt_5 : decode cX3_workAt 5 = .ok (.iconst 1, 1) := by decide +kernel
theorem dX3_workAt_6 : decode cX3_workAt 6 = .ok (.iadd, 1) := by decide +kernel
theorem dX3_workAt_7 : decode cX3_workAt 7 = .ok (.putfield 154, 3) := by decide +kernel
theorem dX3_workAt_10 : decode cX3_workAt 10 = .ok (.aload_n 1, 1) := by decide +kernel
theorem dX3_workAt_11 : decode cX3_workAt 11 = .ok (.dup, 1) := by decide +kernel
theorem dX3_workAt_12 : decode cX3_workAt 12 = .ok (.getfield 195, 3) := by decide +kernel
theorem dX3_workAt_15 : decode cX3_workAt 15 = .ok (.iload_n 3, 1) := by decide +kernel
theorem dX3_workAt_16 : decode cX3_workAt 16 = .ok (.iadd, 1) := by decide +kernel
theorem dX3_workAt_17 : decode cX3_workAt 17 = .ok (.putfield 195, 3) := by decide +kernel
theorem dX3_workAt_20 : decode cX3_workAt 20 = .ok (.aload_n 1, 1) := by decide +kernel
theorem dX3_workAt_21 : decode cX3_workAt 21 = .ok (.getfield 195, 3) := by decide +kernel
theorem dX3_workAt_24 : decode cX3_workAt 24 = .ok (.aload_n 1, 1) := by decide +kernel
theorem dX3_workAt_25 : decode cX3_workAt 25 = .ok (.getfield 84, 3) := by decide +kernel
theorem dX3_workAt_28 : decode cX3_workAt 28 = .ok (.if_icmp .ge 5, 3) := by decide +kernel
theorem dX3_workAt_31 : decode cX3_workAt 31 = .ok (.iconst 0, 1) := by decide +kernel
theorem dX3_workAt_32 : decode cX3_workAt 32 = .ok (.ireturn, 1) := by decide +kernel
theorem dX3_workAt_33 : decode cX3_workAt 33 = .ok (.aload_n 1, 1) := by decide +kernel
theorem dX3_workAt_34 : decode cX3_workAt 34 = .ok (.invokevirtual 198, 3) := by decide +kernel
theorem dX3_workAt_37 : decode cX3_workAt 37 = .ok (.aload_n 0, 1) := by decide +kernel
theorem dX3_workAt_38 : decode cX3_workAt 38 = .ok (.aload_n 1, 1) := by decide +kernel
theorem dX3_workAt_39 : decode cX3_workAt 39 = .ok (.getfield 81, 3) := by decide +kernel
theorem dX3_workAt_42 : decode cX3_workAt 42 = .ok (.invokevirtual 201, 3) := by decide +kernel
theorem dX3_workAt_45 : decode cX3_workAt 45 = .ok (.iload_n 2, 1) := by decide +kernel
theorem dX3_workAt_46 : decode cX3_workAt 46 = .ok (.aload_n 0, 1) := by decide +kernel
theorem dX3_workAt_47 : decode cX3_workAt 47 = .ok (.getfield 36, 3) := by decide +kernel
theorem dX3_workAt_50 : decode cX3_workAt 50 = .ok (.if_icmp .ne 7, 3) := by decide +kernel
theorem dX3_workAt_53 : decode cX3_workAt 53 = .ok (.aload_n 0, 1) := by decide +kernel
theorem dX3_workAt_54 : decode cX3_workAt 54 = .ok (.invokevirtual 204, 3) := by decide +kernel
theorem dX3_workAt_57 : decode cX3_workAt 57 = .ok (.iconst 1, 1) := by decide +kernel
theorem dX3_workAt_58 : decode cX3_workAt 58 = .ok (.ireturn, 1) := by decide +kernel
set_option maxRecDepth 20000 in
theorem ggX3_keepThings_X6_isIn : GoodIn wsX3_keepThings wsX6_isIn := goodIn_r _ [6] (by decide +kernel) (by decide +kernel)
set_option maxRecDepth 20000 in
theorem gX3_keepThings_X6_isIn_n111 : GoodIn wsX3_keepThings (wsX6_isIn) := ggX3_keepThings_X6_isIn
theorem dX3_keepThings_0 : decode cX3_keepThings 0 = .ok (.iconst 0, 1) := by decide +kernel
theorem dX3_keepThings_1 : decode cX3_keepThings 1 = .ok (.istore_n 2, 1) := by decide +kernel
theorem dX3_keepThings_2 : decode cX3_keepThings 2 = .ok (.iload_n 2, 1) := by decide +kernel
theorem dX3_keepThings_3 : decode cX3_keepThings 3 = .ok (.aload_n 0, 1) := by decide +kernel
theorem dX3_keepThings_4 : decode cX3_keepThings 4 = .ok (.getfield 54, 3) := by decide +kernel
theorem dX3_keepThings_7 : decode cX3_keepThings 7 = .ok (.if_icmp .ge 27, 3) := by decide +kernel
theorem dX3_keepThings_10 : decode cX3_keepThings 10 = .ok (.iload_n 1, 1) := by decide +kernel
theorem dX3_keepThings_11 : decode cX3_keepThings 11 = .ok (.iload_n 2, 1) := by decide +kernel
theorem dX3_keepThings_12 : decode cX3_keepThings 12 = .ok (.invokestatic 111, 3) := by decide +kernel
theorem dX3_keepThings_15 : decode cX3_keepThings 15 = .ok (.ifCond .eq 13, 3) := by decide +kernel
theorem dX3_keepThings_18 : decode cX3_keepThings 18 = .ok (.aload_n 0, 1) := by decide +kernel
theorem dX3_keepThings_19 : decode cX3_keepThings 19 = .ok (.getfield 19, 3) := by decide +kernel
theorem dX3_keepThings_22 : decode cX3_keepThings 22 = .ok (.iload_n 2, 1) := by decide +kernel
theorem dX3_keepThings_23 : decode cX3_keepThings 23 = .ok (.aaload, 1) := by decide +kernel
theorem dX3_keepThings_24 : decode cX3_keepThings 24 = .ok (.iconst 2, 1) := by decide +kernel
theorem dX3_keepThings_25 : decode cX3_keepThings 25 = .ok (.putfield 115, 3) := by decide +kernel
theorem dX3_keepThings_28 : decode cX3_keepThings 28 = .ok (.iinc 2 1, 3) := by decide +kernel
theorem dX3_keepThings_31 : decode cX3_keepThings 31 = .ok (.goto (-29), 3) := by decide +kernel
theorem dX3_keepThings_34 : decode cX3_keepThings 34 = .ok (.return_, 1) := by decide +kernel
theorem dX3_searchFor_0 : decode cX3_searchFor 0 = .ok (.aload_n 1, 1) := by decide +kernel
theorem dX3_searchFor_1 : decode cX3_searchFor 1 = .ok (.iconst 1, 1) := by decide +kernel
theorem dX3_searchFor_2 : decode cX3_searchFor 2 = .ok (.putfield 157, 3) := by decide +kernel
theorem dX3_searchFor_5 : decode cX3_searchFor 5 = .ok (.aload_n 1, 1) := by decide +kernel
theorem dX3_searchFor_6 : decode cX3_searchFor 6 = .ok (.dup, 1) := by decide +kernel
theorem dX3_searchFor_7 : decode cX3_searchFor 7 = .ok (.getfield 207, 3) := by decide +kernel
theorem dX3_searchFor_10 : decode cX3_searchFor 10 = .ok (.iload_n 2, 1) := by decide +kernel
theorem dX3_searchFor_11 : decode cX3_searchFor 11 = .ok (.iadd, 1) := by decide +kernel
theorem dX3_searchFor_12 : decode cX3_searchFor 12 = .ok (.putfield 207, 3) := by decide +kernel
theorem dX3_searchFor_15 : decode cX3_searchFor 15 = .ok (.aload_n 1, 1) := by decide +kernel
theorem dX3_searchFor_16 : decode cX3_searchFor 16 = .ok (.getfield 207, 3) := by decide +kernel
theorem dX3_searchFor_19 : decode cX3_searchFor 19 = .ok (.aload_n 1, 1) := by decide +kernel
theorem dX3_searchFor_20 : decode cX3_searchFor 20 = .ok (.getfield 93, 3) := by decide +kernel
theorem dX3_searchFor_23 : decode cX3_searchFor 23 = .ok (.if_icmp .le 8, 3) := by decide +kernel
theorem dX3_searchFor_26 : decode cX3_searchFor 26 = .ok (.aload_n 1, 1) := by decide +kernel
theorem dX3_searchFor_27 : decode cX3_searchFor 27 = .ok (.iconst 1, 1) := by decide +kernel
theorem dX3_searchFor_28 : decode cX3_searchFor 28 = .ok (.putfield 115, 3) := by decide +kernel
theorem dX3_searchFor_31 : decode cX3_searchFor 31 = .ok (.return_, 1) := by decide +kernel
set_option maxRecDepth 20000 in
theorem ggX3_releaseMagnets_X6_isIn : GoodIn wsX3_releaseMagnets wsX6_isIn := goodIn_r _ [10] (by decide +kernel) (by decide +kernel)
set_option maxRecDepth 20000 in
theorem gX3_releaseMagnets_X6_isIn_n111 : GoodIn wsX3_releaseMagnets (wsX6_isIn) := ggX3_releaseMagnets_X6_isIn
set_option maxRecDepth 20000 in
theorem ggX3_releaseMagnets_X3_loseGame : GoodIn wsX3_releaseMagnets wsX3_loseGame := goodIn_r _ [15, 5, 16, 17, 18, 19, 20, 21, 22, 23, 24, 25, 26, 27, 28, 29, 30, 31, 32, 33, 34, 35, 46, 47, 48, 49, 50, 51, 52] (by decide +kernel) (by decide +kernel)
set_option maxRecDepth 20000 in
theorem gX3_releaseMagnets_X3_loseGame : GoodIn wsX3_releaseMagnets (wsV RX3 151 RX3 yX3_loseGame wsX3_loseGame) := goodIn_app (goodIn_of _ (by decide +kernel)) ggX3_releaseMagnets_X3_loseGame
theorem dX3_releaseMagnets_0 : decode cX3_releaseMagnets 0 = .ok (.iconst 0, 1) := by decide +kernel
theorem dX3_releaseMagnets_1 : decode cX3_releaseMagnets 1 = .ok (.istore_n 1, 1) := by decide +kernel
theorem dX3_releaseMagnets_2 : decode cX3_releaseMagnets 2 = .ok (.iconst 0, 1) := by decide +kernel
theorem dX3_releaseMagnets_3 : decode cX3_releaseMagnets 3 = .ok (.istore_n 2, 1) := by decide +kernel
theorem dX3_releaseMagnets_4 : decode cX3_releaseMagnets 4 = .ok (.iload_n 2, 1) := by decide +kernel
theorem dX3_releaseMagnets_5 : decode cX3_releaseMagnets 5 = .ok (.aload_n 0, 1) := by decide +kernel
theorem dX3_releaseMagnets_6 : decode cX3_releaseMagnets 6 = .ok (.getfield 47, 3) := by decide +kernel
theorem dX3_releaseMagnets_9 : decode cX3_releaseMagnets 9 = .ok (.if_icmp .ge 49, 3) := by decide +kernel
theorem dX3_releaseMagnets_12 : decode cX3_releaseMagnets 12 = .ok (.aload_n 0, 1) := by decide +kernel
theorem dX3_releaseMagnets_13 : decode cX3_releaseMagnets 13 = .ok (.getfield 11, 3) := by decide +kernel
theorem dX3_releaseMagnets_16 : decode cX3_releaseMagnets 16 = .ok (.iload_n 2, 1) := by decide +kernel
theorem dX3_releaseMagnets_17 : decode cX3_releaseMagnets 17 = .ok (.aaload, 1) := by decide +kernel
theorem dX3_releaseMagnets_18 : decode cX3_releaseMagnets 18 = .ok (.getfield 87, 3) := by decide +kernel
theorem dX3_releaseMagnets_21 : decode cX3_releaseMagnets 21 = .ok (.ifCond .eq 31, 3) := by decide +kernel
theorem dX3_releaseMagnets_24 : decode cX3_releaseMagnets 24 = .ok (.aload_n 0, 1) := by decide +kernel
theorem dX3_releaseMagnets_25 : decode cX3_releaseMagnets 25 = .ok (.getfield 11, 3) := by decide +kernel
theorem dX3_releaseMagnets_28 : decode cX3_releaseMagnets 28 = .ok (.iload_n 2, 1) := by decide +kernel
theorem dX3_releaseMagnets_29 : decode cX3_releaseMagnets 29 = .ok (.aaload, 1) := by decide +kernel
theorem dX3_releaseMagnets_30 : decode cX3_releaseMagnets 30 = .ok (.getfield 100, 3) := by decide +kernel
theorem dX3_releaseMagnets_33 : decode cX3_releaseMagnets 33 = .ok (.ifCond .ne 19, 3) := by decide +kernel
theorem dX3_releaseMagnets_36 : decode cX3_releaseMagnets 36 = .ok (.aload_n 0, 1) := by decide +kernel
theorem dX3_releaseMagnets_37 : decode cX3_releaseMagnets 37 = .ok (.getfield 11, 3) := by decide +kernel
theorem dX3_releaseMagnets_40 : decode cX3_releaseMagnets 40 = .ok (.iload_n 2, 1) := by decide +kernel
theorem dX3_releaseMagnets_41 : decode cX3_releaseMagnets 41 = .ok (.aaload, 1) := by decide +kernel
theorem dX3_releaseMagnets_42 : decode cX3_releaseMagnets 42 = .ok (.iconst 1, 1) := by decide +kernel
theorem dX3_releaseMagnets_43 : decode cX3_releaseMagnets 43 = .ok (.putfield 100, 3) := by decide +kernel
theorem dX3_releaseMagnets_46 : decode cX3_releaseMagnets 46 = .ok (.iload_n 1, 1) := by decide +kernel
theorem dX3_releaseMagnets_47 : decode cX3_releaseMagnets 47 = .ok (.iconst 1, 1) := by decide +kernel
theorem dX3_releaseMagnets_48 : decode cX3_releaseMagnets 48 = .ok (.iload_n 2, 1) := by decide +kernel
theorem dX3_releaseMagnets_49 : decode cX3_releaseMagnets 49 = .ok (.ishl, 1) := by decide +kernel
theorem dX3_releaseMagnets_50 : decode cX3_releaseMagnets 50 = .ok (.ior, 1) := by decide +kernel
theorem dX3_releaseMagnets_51 : decode cX3_releaseMagnets 51 = .ok (.istore_n 1, 1) := by decide +kernel
theorem dX3_releaseMagnets_52 : decode cX3_releaseMagnets 52 = .ok (.iinc 2 1, 3) := by decide +kernel
theorem dX3_releaseMagnets_55 : decode cX3_releaseMagnets 55 = .ok (.goto (-51), 3) := by decide +kernel
theorem dX3_releaseMagnets_58 : decode cX3_releaseMagnets 58 = .ok (.aload_n 0, 1) := by decide +kernel
theorem dX3_releaseMagnets_59 : decode cX3_releaseMagnets 59 = .ok (.getfield 32, 3) := by decide +kernel
theorem dX3_releaseMagnets_62 : decode cX3_releaseMagnets 62 = .ok (.getfield 134, 3) := by decide +kernel
theorem dX3_releaseMagnets_65 : decode cX3_releaseMagnets 65 = .ok (.ifCond .eq 18, 3) := by decide +kernel
theorem dX3_releaseMagnets_68 : decode cX3_releaseMagnets 68 = .ok (.iload_n 1, 1) := by decide +kernel
theorem dX3_releaseMagnets_69 : decode cX3_releaseMagnets 69 = .ok (.aload_n 0, 1) := by decide +kernel
theorem dX3_releaseMagnets_70 : decode cX3_releaseMagnets 70 = .ok (.getfield 36, 3) := by decide +kernel
theorem dX3_releaseMagnets_73 : decode cX3_releaseMagnets 73 = .ok (.invokestatic 111, 3) := by decide +kernel
theorem dX3_releaseMagnets_76 : decode cX3_releaseMagnets 76 = .ok (.ifCond .eq 7, 3) := by decide +kernel
theorem dX3_releaseMagnets_79 : decode cX3_releaseMagnets 79 = .ok (.aload_n 0, 1) := by decide +kernel
theorem dX3_releaseMagnets_80 : decode cX3_releaseMagnets 80 = .ok (.invokevirtual 151, 3) := by decide +kernel
theorem dX3_releaseMagnets_83 : decode cX3_releaseMagnets 83 = .ok (.iload_n 1, 1) := by decide +kernel
theorem dX3_releaseMagnets_84 : decode cX3_releaseMagnets 84 = .ok (.ireturn, 1) := by decide +kernel
set_option maxRecDepth 20000 in
theorem ggX3_tellLock_X3_hasLock : GoodIn wsX3_tellLock wsX3_hasLock := goodIn_r _ [15, 16, 35, 36, 37, 38, 39, 40, 41, 42, 43, 44, 45, 46] (by decide +kernel) (by decide +kernel)
set_option maxRecDepth 20000 in
theorem gX3_tellLock_X3_hasLock : GoodIn wsX3_tellLock (wsV RX3 166 RX3 yX3_hasLock wsX3_hasLock) := goodIn_app (goodIn_of _ (by decide +kernel)) ggX3_tellLock_X3_hasLock
set_option maxRecDepth 20000 in
theorem ggX3_tellLock_X6_oneIf : GoodIn wsX3_tellLock wsX6_oneIf := goodIn_r _ [19] (by decide +kernel) (by decide +kernel)
set_option maxRecDepth 20000 in
theorem gX3_tellLock_X6_oneIf_n147 : GoodIn wsX3_tellLock (wsX6_oneIf) := ggX3_tellLock_X6_oneIf
set_option maxRecDepth 20000 in
theorem ggX3_tellLock_X3_thingsIn : GoodIn wsX3_tellLock wsX3_thingsIn := goodIn_r _ [23, 24, 25, 26, 35, 36, 37, 38, 39, 40, 41, 42, 43, 44, 45, 46, 57, 58, 59, 60, 61] (by decide +kernel) (by decide +kernel)
set_option maxRecDepth 20000 in
theorem gX3_tellLock_X3_thingsIn : GoodIn wsX3_tellLock (wsV RX3 103 RX3 yX3_thingsIn wsX3_thingsIn) := goodIn_app (goodIn_of _ (by decide +kernel)) ggX3_tellLock_X3_thingsIn
set_option maxRecDepth 20000 in
theorem ggX3_tellLock_X1_isReady : GoodIn wsX3_tellLock wsX1_isReady := goodIn_r _ [31, 32, 33, 34, 47, 48, 49, 50, 51, 52, 53, 54, 55, 56] (by decide +kernel) (by decide +kernel)
set_option maxRecDepth 20000 in
theorem gX3_tellLock_X1_isReady : GoodIn wsX3_tellLock (wsV RX3 107 RX1 yX1_isReady wsX1_isReady) := goodIn_app (goodIn_of _ (by decide +kernel)) ggX3_tellLock_X1_isReady
theorem dX3_tellLock_0 : decode cX3_tellLock 0 = .ok (.aload_n 0, 1) := by decide +kernel
theorem dX3_tellLock_1 : decode cX3_tellLock 1 = .ok (.iload_n 1, 1) := by decide +kernel
theorem dX3_tellLock_2 : decode cX3_tellLock 2 = .ok (.invokevirtual 166, 3) := by decide +kernel
theorem dX3_tellLock_5 : decode cX3_tellLock 5 = .ok (.ifCond .ne 5, 3) := by decide +kernel
theorem dX3_tellLock_8 : decode cX3_tellLock 8 = .ok (.iconst (-1), 1) := by decide +kernel
theorem dX3_tellLock_9 : decode cX3_tellLock 9 = .ok (.ireturn, 1) := by decide +kernel
theorem dX3_tellLock_10 : decode cX3_tellLock 10 = .ok (.aload_n 0, 1) := by decide +kernel
theorem dX3_tellLock_11 : decode cX3_tellLock 11 = .ok (.getfield 11, 3) := by decide +kernel
theorem dX3_tellLock_14 : decode cX3_tellLock 14 = .ok (.iload_n 1, 1) := by decide +kernel
theorem dX3_tellLock_15 : decode cX3_tellLock 15 = .ok (.aaload, 1) := by decide +kernel
theorem dX3_tellLock_16 : decode cX3_tellLock 16 = .ok (.astore_n 3, 1) := by decide +kernel
theorem dX3_tellLock_17 : decode cX3_tellLock 17 = .ok (.iload_n 2, 1) := by decide +kernel
theorem dX3_tellLock_18 : decode cX3_tellLock 18 = .ok (.tableswitch 104 0 8 #[50, 55, 60, 65, 73, 81, 86, 91, 96], 50) := by decide +kernel
theorem dX3_tellLock_68 : decode cX3_tellLock 68 = .ok (.aload_n 3, 1) := by decide +kernel
theorem dX3_tellLock_69 : decode cX3_tellLock 69 = .ok (.getfield 78, 3) := by decide +kernel
theorem dX3_tellLock_72 : decode cX3_tellLock 72 = .ok (.ireturn, 1) := by decide +kernel
theorem dX3_tellLock_73 : decode cX3_tellLock 73 = .ok (.aload_n 3, 1) := by decide +kernel
theorem dX3_tellLock_74 : decode cX3_tellLock 74 = .ok (.getfield 81, 3) := by decide +kernel
theorem dX3_tellLock_77 : decode cX3_tellLock 77 = .ok (.ireturn, 1) := by decide +kernel
theorem dX3_tellLock_78 : decode cX3_tellLock 78 = .ok (.aload_n 3, 1) := by decide +kernel
theorem dX3_tellLock_79 : decode cX3_tellLock 79 = .ok (.getfield 84, 3) := by decide +kernel
theorem dX3_tellLock_82 : decode cX3_tellLock 82 = .ok (.ireturn, 1) := by decide +kernel
theorem dX3_tellLock_83 : decode cX3_tellLock 83 = .ok (.aload_n 3, 1) := by decide +kernel
theorem dX3_tellLock_84 : decode cX3_tellLock 84 = .ok (.getfield 87, 3) := by decide +kernel
theorem dX3_tellLock_87 : decode cX3_tellLock 87 = .ok (.invokestatic 147, 3) := by decide +kernel
theorem dX3_tellLock_90 : decode cX3_tellLock 90 = .ok (.ireturn, 1) := by decide +kernel
theorem dX3_tellLock_91 : decode cX3_tellLock 91 = .ok (.aload_n 3, 1) := by decide +kernel
theorem dX3_tellLock_92 : decode cX3_tellLock 92 = .ok (.getfield 100, 3) := by decide +kernel
theorem dX3_tellLock_95 : decode cX3_tellLock 95 = .ok (.invokestatic 147, 3) := by decide +kernel
theorem dX3_tellLock_98 : decode cX3_tellLock 98 = .ok (.ireturn, 1) := by decide +kernel
theorem dX3_tellLock_99 : decode cX3_tellLock 99 = .ok (.aload_n 3, 1) := by decide +kernel
theorem dX3_tellLock_100 : decode cX3_tellLock 100 = .ok (.getfield 195, 3) := by decide +kernel
theorem dX3_tellLock_103 : decode cX3_tellLock 103 = .ok (.ireturn, 1) := by decide +kernel
theorem dX3_tellLock_104 : decode cX3_tellLock 104 = .ok (.aload_n 3, 1) := by decide +kernel
theorem dX3_tellLock_105 : decode cX3_tellLock 105 = .ok (.getfield 210, 3) := by decide +kernel
theorem dX3_tellLock_108 : decode cX3_tellLock 108 = .ok (.ireturn, 1) := by decide +kernel
theorem dX3_tellLock_109 : decode cX3_tellLock 109 = .ok (.aload_n 3, 1) := by decide +kernel
theorem dX3_tellLock_110 : decode cX3_tellLock 110 = .ok (.getfield 213, 3) := by decide +kernel
theorem dX3_tellLock_113 : decode cX3_tellLock 113 = .ok (.ireturn, 1) := by decide +kernel
theorem dX3_tellLock_114 : decode cX3_tellLock 114 = .ok (.aload_n 3, 1) := by decide +kernel
theorem dX3_tellLock_115 : decode cX3_tellLock 115 = .ok (.getfield 216, 3) := by decide +kernel
theorem dX3_tellLock_118 : decode cX3_tellLock 118 = .ok (.invokestatic 147, 3) := by decide +kernel
theorem dX3_tellLock_121 : decode cX3_tellLock 121 = .ok (.ireturn, 1) := by decide +kernel
theorem dX3_tellLock_122 : decode cX3_tellLock 122 = .ok (.aload_n 3, 1) := by decide +kernel
theorem dX3_tellLock_123 : decode cX3_tellLock 123 = .ok (.aload_n 0, 1) := by decide +kernel
theorem dX3_tellLock_124 : decode cX3_tellLock 124 = .ok (.iconst 1, 1) := by decide +kernel
theorem dX3_tellLock_125 : decode cX3_tellLock 125 = .ok (.invokevirtual 103, 3) := by decide +kernel
theorem dX3_tellLock_128 : decode cX3_tellLock 128 = .ok (.invokevirtual 107, 3) := by decide +kernel
theorem dX3_tellLock_131 : decode cX3_tellLock 131 = .ok (.invokestatic 147, 3) := by decide +kernel
theorem dX3_tellLock_134 : decode cX3_tellLock 134 = .ok (.ireturn, 1) := by decide +kernel
set_option maxRecDepth 20000 in
theorem ggX3_tellThing_X3_hasThing : GoodIn wsX3_tellThing wsX3_hasThing := goodIn_r _ [10, 11, 36, 37, 38, 39, 40, 41, 42, 43, 44, 45, 46, 47] (by decide +kernel) (by decide +kernel)
set_option maxRecDepth 20000 in
theorem gX3_tellThing_X3_hasThing : GoodIn wsX3_tellThing (wsV RX3 182 RX3 yX3_hasThing wsX3_hasThing) := goodIn_app (goodIn_of _ (by decide +kernel)) ggX3_tellThing_X3_hasThing
set_option maxRecDepth 20000 in
theorem ggX3_tellThing_X3_openLocks : GoodIn wsX3_tellThing wsX3_openLocks := goodIn_r _ [15, 16, 17, 18, 36, 37, 38, 39, 40, 41, 42, 43, 44, 45, 46, 47, 53, 54, 55, 56, 57, 58, 59, 60, 61, 62] (by decide +kernel) (by decide +kernel)
set_option maxRecDepth 20000 in
theorem gX3_tellThing_X3_openLocks : GoodIn wsX3_tellThing (wsV RX3 118 RX3 yX3_openLocks wsX3_openLocks) := goodIn_app (goodIn_of _ (by decide +kernel)) ggX3_tellThing_X3_openLocks
set_option maxRecDepth 20000 in
theorem ggX3_tellThing_X5_canBeReached : GoodIn wsX3_tellThing wsX5_canBeReached := goodIn_r _ [23, 24, 25, 48, 49, 50, 51, 52] (by decide +kernel) (by decide +kernel)
set_option maxRecDepth 20000 in
theorem gX3_tellThing_X5_canBeReached : GoodIn wsX3_tellThing (wsV RX3 122 RX5 yX5_canBeReached wsX5_canBeReached) := goodIn_app (goodIn_of _ (by decide +kernel)) ggX3_tellThing_X5_canBeReached
set_option maxRecDepth 20000 in
theorem ggX3_tellThing_X6_oneIf : GoodIn wsX3_tellThing wsX6_oneIf := goodIn_r _ [28] (by decide +kernel) (by decide +kernel)
set_option maxRecDepth 20000 in
theorem gX3_tellThing_X6_oneIf_n147 : GoodIn wsX3_tellThing (wsX6_oneIf) := ggX3_tellThing_X6_oneIf
set_option maxRecDepth 20000 in
theorem ggX3_tellThing_X3_locksThatNeed : GoodIn wsX3_tellThing wsX3_locksThatNeed := goodIn_r _ [32, 16, 17, 33, 34, 27, 35, 36, 37, 38, 39, 40, 41, 42, 43, 44, 45, 46, 47, 53, 54, 55, 56, 57, 58, 59, 60, 61, 62] (by decide +kernel) (by decide +kernel)
set_option maxRecDepth 20000 in
theorem gX3_tellThing_X3_locksThatNeed : GoodIn wsX3_tellThing (wsV RX3 219 RX3 yX3_locksThatNeed wsX3_locksThatNeed) := goodIn_app (goodIn_of _ (by decide +kernel)) ggX3_tellThing_X3_locksThatNeed
theorem dX3_tellThing_0 : decode cX3_tellThing 0 = .ok (.aload_n 0, 1) := by decide +kernel
theorem dX3_tellThing_1 : decode cX3_tellThing 1 = .ok (.iload_n 1, 1) := by decide +kernel
theorem dX3_tellThing_2 : decode cX3_tellThing 2 = .ok (.invokevirtual 182, 3) := by decide +kernel
theorem dX3_tellThing_5 : decode cX3_tellThing 5 = .ok (.ifCond .ne 5, 3) := by decide +kernel
theorem dX3_tellThing_8 : decode cX3_tellThing 8 = .ok (.iconst (-1), 1) := by decide +kernel
theorem dX3_tellThing_9 : decode cX3_tellThing 9 = .ok (.ireturn, 1) := by decide +kernel
theorem dX3_tellThing_10 : decode cX3_tellThing 10 = .ok (.aload_n 0, 1) := by decide +kernel
theorem dX3_tellThing_11 : decode cX3_tellThing 11 = .ok (.getfield 19, 3) := by decide +kernel
theorem dX3_tellThing_14 : decode cX3_tellThing 14 = .ok (.iload_n 1, 1) := by decide +kernel
theorem dX3_tellThing_15 : decode cX3_tellThing 15 = .ok (.aaload, 1) := by decide +kernel
theorem dX3_tellThing_16 : decode cX3_tellThing 16 = .ok (.astore_n 3, 1) := by decide +kernel
theorem dX3_tellThing_17 : decode cX3_tellThing 17 = .ok (.iload_n 2, 1) := by decide +kernel
theorem dX3_tellThing_18 : decode cX3_tellThing 18 = .ok (.tableswitch 66 0 4 #[34, 39, 44, 49, 54], 34) := by decide +kernel
theorem dX3_tellThing_52 : decode cX3_tellThing 52 = .ok (.aload_n 3, 1) := by decide +kernel
theorem dX3_tellThing_53 : decode cX3_tellThing 53 = .ok (.getfield 90, 3) := by decide +kernel
theorem dX3_tellThing_56 : decode cX3_tellThing 56 = .ok (.ireturn, 1) := by decide +kernel
theorem dX3_tellThing_57 : decode cX3_tellThing 57 = .ok (.aload_n 3, 1) := by decide +kernel
theorem dX3_tellThing_58 : decode cX3_tellThing 58 = .ok (.getfield 93, 3) := by decide +kernel
theorem dX3_tellThing_61 : decode cX3_tellThing 61 = .ok (.ireturn, 1) := by decide +kernel
theorem dX3_tellThing_62 : decode cX3_tellThing 62 = .ok (.aload_n 3, 1) := by decide +kernel
theorem dX3_tellThing_63 : decode cX3_tellThing 63 = .ok (.getfield 207, 3) := by decide +kernel
theorem dX3_tellThing_66 : decode cX3_tellThing 66 = .ok (.ireturn, 1) := by decide +kernel
theorem dX3_tellThing_67 : decode cX3_tellThing 67 = .ok (.aload_n 3, 1) := by decide +kernel
theorem dX3_tellThing_68 : decode cX3_tellThing 68 = .ok (.getfield 115, 3) := by decide +kernel
theorem dX3_tellThing_71 : decode cX3_tellThing 71 = .ok (.ireturn, 1) := by decide +kernel
theorem dX3_tellThing_72 : decode cX3_tellThing 72 = .ok (.aload_n 3, 1) := by decide +kernel
theorem dX3_tellThing_73 : decode cX3_tellThing 73 = .ok (.aload_n 0, 1) := by decide +kernel
theorem dX3_tellThing_74 : decode cX3_tellThing 74 = .ok (.invokevirtual 118, 3) := by decide +kernel
theorem dX3_tellThing_77 : decode cX3_tellThing 77 = .ok (.invokevirtual 122, 3) := by decide +kernel
theorem dX3_tellThing_80 : decode cX3_tellThing 80 = .ok (.invokestatic 147, 3) := by decide +kernel
theorem dX3_tellThing_83 : decode cX3_tellThing 83 = .ok (.ireturn, 1) := by decide +kernel
theorem dX3_tellThing_84 : decode cX3_tellThing 84 = .ok (.aload_n 0, 1) := by decide +kernel
theorem dX3_tellThing_85 : decode cX3_tellThing 85 = .ok (.iload_n 1, 1) := by decide +kernel
theorem dX3_tellThing_86 : decode cX3_tellThing 86 = .ok (.invokevirtual 219, 3) := by decide +kernel
theorem dX3_tellThing_89 : decode cX3_tellThing 89 = .ok (.ireturn, 1) := by decide +kernel
set_option maxRecDepth 20000 in
theorem ggX3_tellPlayer_X3_hasPlayer : GoodIn wsX3_tellPlayer wsX3_hasPlayer := goodIn_r _ [10, 11, 12, 13, 14, 15, 16, 17, 18, 19, 20, 21, 22, 23] (by decide +kernel) (by decide +kernel)
set_option maxRecDepth 20000 in
theorem gX3_tellPlayer_X3_hasPlayer : GoodIn wsX3_tellPlayer (wsV RX3 222 RX3 yX3_hasPlayer wsX3_hasPlayer) := goodIn_app (goodIn_of _ (by decide +kernel)) ggX3_tellPlayer_X3_hasPlayer
theorem dX3_tellPlayer_0 : decode cX3_tellPlayer 0 = .ok (.aload_n 0, 1) := by decide +kernel
theorem dX3_tellPlayer_1 : decode cX3_tellPlayer 1 = .ok (.iload_n 1, 1) := by decide +kernel
theorem dX3_tellPlayer_2 : decode cX3_tellPlayer 2 = .ok (.invokevirtual 222, 3) := by decide +kernel
theorem dX3_tellPlayer_5 : decode cX3_tellPlayer 5 = .ok (.ifCond .ne 5, 3) := by decide +kernel
theorem dX3_tellPlayer_8 : decode cX3_tellPlayer 8 = .ok (.iconst (-1), 1) := by decide +kernel
theorem dX3_tellPlayer_9 : decode cX3_tellPlayer 9 = .ok (.ireturn, 1) := by decide +kernel
theorem dX3_tellPlayer_10 : decode cX3_tellPlayer 10 = .ok (.aload_n 0, 1) := by decide +kernel
theorem dX3_tellPlayer_11 : decode cX3_tellPlayer 11 = .ok (.getfield 25, 3) := by decide +kernel
theorem dX3_tellPlayer_14 : decode cX3_tellPlayer 14 = .ok (.iload_n 1, 1) := by decide +kernel
theorem dX3_tellPlayer_15 : decode cX3_tellPlayer 15 = .ok (.aaload, 1) := by decide +kernel
theorem dX3_tellPlayer_16 : decode cX3_tellPlayer 16 = .ok (.astore_n 3, 1) := by decide +kernel
theorem dX3_tellPlayer_17 : decode cX3_tellPlayer 17 = .ok (.iload_n 2, 1) := by decide +kernel
theorem dX3_tellPlayer_18 : decode cX3_tellPlayer 18 = .ok (.tableswitch 41 0 2 #[26, 31, 36], 26) := by decide +kernel
theorem dX3_tellPlayer_44 : decode cX3_tellPlayer 44 = .ok (.aload_n 3, 1) := by decide +kernel
theorem dX3_tellPlayer_45 : decode cX3_tellPlayer 45 = .ok (.getfield 172, 3) := by decide +kernel
theorem dX3_tellPlayer_48 : decode cX3_tellPlayer 48 = .ok (.ireturn, 1) := by decide +kernel
theorem dX3_tellPlayer_49 : decode cX3_tellPlayer 49 = .ok (.aload_n 3, 1) := by decide +kernel
theorem dX3_tellPlayer_50 : decode cX3_tellPlayer 50 = .ok (.getfield 169, 3) := by decide +kernel
theorem dX3_tellPlayer_53 : decode cX3_tellPlayer 53 = .ok (.ireturn, 1) := by decide +kernel
theorem dX3_tellPlayer_54 : decode cX3_tellPlayer 54 = .ok (.aload_n 3, 1) := by decide +kernel
theorem dX3_tellPlayer_55 : decode cX3_tellPlayer 55 = .ok (.getfield 185, 3) := by decide +kernel
theorem dX3_tellPlayer_58 : decode cX3_tellPlayer 58 = .ok (.ireturn, 1) := by decide +kernel
theorem dX3_tellPlayer_59 : decode cX3_tellPlayer 59 = .ok (.aload_n 3, 1) := by decide +kernel
theorem dX3_tellPlayer_60 : decode cX3_tellPlayer 60 = .ok (.getfield 192, 3) := by decide +kernel
theorem dX3_tellPlayer_63 : decode cX3_tellPlayer 63 = .ok (.ireturn, 1) := by decide +kernel
set_option maxRecDepth 20000 in
theorem ggX3_tell_X6_oneIf : GoodIn wsX3_tell wsX6_oneIf := goodIn_r _ [18] (by decide +kernel) (by decide +kernel)
set_option maxRecDepth 20000 in
theorem gX3_tell_X6_oneIf_n147 : GoodIn wsX3_tell (wsX6_oneIf) := ggX3_tell_X6_oneIf
set_option maxRecDepth 20000 in
theorem ggX3_tell_X3_openLocks : GoodIn wsX3_tell wsX3_openLocks := goodIn_r _ [23, 2, 24, 25, 44, 45, 46, 47, 48, 49, 50, 51, 52, 53, 54, 55, 63, 64, 65, 66, 67, 68, 69, 70, 71, 72] (by decide +kernel) (by decide +kernel)
set_option maxRecDepth 20000 in
theorem gX3_tell_X3_openLocks : GoodIn wsX3_tell (wsV RX3 118 RX3 yX3_openLocks wsX3_openLocks) := goodIn_app (goodIn_of _ (by decide +kernel)) ggX3_tell_X3_openLocks
set_option maxRecDepth 20000 in
theorem ggX3_tell_X3_readyLocks : GoodIn wsX3_tell wsX3_readyLocks := goodIn_r _ [29, 2, 24, 30, 31, 32, 22, 33, 3, 34, 35, 36, 37, 38, 39, 40, 41, 42, 43, 44, 45, 46, 47, 48, 49, 50, 51, 52, 53, 54, 55, 73, 74, 75, 76, 77, 63, 64, 65, 66, 67, 68, 69, 70, 71, 72] (by decide +kernel) (by decide +kernel)
set_option maxRecDepth 20000 in
theorem gX3_tell_X3_readyLocks : GoodIn wsX3_tell (wsV RX3 235 RX3 yX3_readyLocks wsX3_readyLocks) := goodIn_app (goodIn_of _ (by decide +kernel)) ggX3_tell_X3_readyLocks
set_option maxRecDepth 20000 in
theorem ggX3_tell_X3_thingsIn : GoodIn wsX3_tell wsX3_thingsIn := goodIn_r _ [33, 3, 34, 35, 44, 45, 46, 47, 48, 49, 50, 51, 52, 53, 54, 55, 73, 74, 75, 76, 77] (by decide +kernel) (by decide +kernel)
set_option maxRecDepth 20000 in
theorem gX3_tell_X3_thingsIn : GoodIn wsX3_tell (wsV RX3 103 RX3 yX3_thingsIn wsX3_thingsIn) := goodIn_app (goodIn_of _ (by decide +kernel)) ggX3_tell_X3_thingsIn
theorem dX3_tell_0 : decode cX3_tell 0 = .ok (.iload_n 1, 1) := by decide +kernel
theorem dX3_tell_1 : decode cX3_tell 1 = .ok (.tableswitch 204 0 17 #[87, 92, 97, 102, 107, 118, 126, 134, 142, 150, 155, 163, 168, 173, 178, 184, 190, 196], 87) := by decide +kernel
theorem dX3_tell_88 : decode cX3_tell 88 = .ok (.aload_n 0, 1) := by decide +kernel
theorem dX3_tell_89 : decode cX3_tell 89 = .ok (.getfield 69, 3) := by decide +kernel
theorem dX3_tell_92 : decode cX3_tell 92 = .ok (.ireturn, 1) := by decide +kernel
theorem dX3_tell_93 : decode cX3_tell 93 = .ok (.aload_n 0, 1) := by decide +kernel
theorem dX3_tell_94 : decode cX3_tell 94 = .ok (.getfield 47, 3) := by decide +kernel
theorem dX3_tell_97 : decode cX3_tell 97 = .ok (.ireturn, 1) := by decide +kernel
theorem dX3_tell_98 : decode cX3_tell 98 = .ok (.aload_n 0, 1) := by decide +kernel
theorem dX3_tell_99 : decode cX3_tell 99 = .ok (.getfield 54, 3) := by decide +kernel
theorem dX3_tell_102 : decode cX3_tell 102 = .ok (.ireturn, 1) := by decide +kernel
theorem dX3_tell_103 : decode cX3_tell 103 = .ok (.aload_n 0, 1) := by decide +kernel
theorem dX3_tell_104 : decode cX3_tell 104 = .ok (.getfield 60, 3) := by decide +kernel
theorem dX3_tell_107 : decode cX3_tell 107 = .ok (.ireturn, 1) := by decide +kernel
theorem dX3_tell_108 : decode cX3_tell 108 = .ok (.aload_n 0, 1) := by decide +kernel
theorem dX3_tell_109 : decode cX3_tell 109 = .ok (.getfield 32, 3) := by decide +kernel
theorem dX3_tell_112 : decode cX3_tell 112 = .ok (.getfield 134, 3) := by decide +kernel
theorem dX3_tell_115 : decode cX3_tell 115 = .ok (.invokestatic 147, 3) := by decide +kernel
theorem dX3_tell_118 : decode cX3_tell 118 = .ok (.ireturn, 1) := by decide +kernel
theorem dX3_tell_119 : decode cX3_tell 119 = .ok (.aload_n 0, 1) := by decide +kernel
theorem dX3_tell_120 : decode cX3_tell 120 = .ok (.getfield 32, 3) := by decide +kernel
theorem dX3_tell_123 : decode cX3_tell 123 = .ok (.getfield 137, 3) := by decide +kernel
theorem dX3_tell_126 : decode cX3_tell 126 = .ok (.ireturn, 1) := by decide +kernel
theorem dX3_tell_127 : decode cX3_tell 127 = .ok (.aload_n 0, 1) := by decide +kernel
theorem dX3_tell_128 : decode cX3_tell 128 = .ok (.getfield 32, 3) := by decide +kernel
theorem dX3_tell_131 : decode cX3_tell 131 = .ok (.getfield 225, 3) := by decide +kernel
theorem dX3_tell_134 : decode cX3_tell 134 = .ok (.ireturn, 1) := by decide +kernel
theorem dX3_tell_135 : decode cX3_tell 135 = .ok (.aload_n 0, 1) := by decide +kernel
theorem dX3_tell_136 : decode cX3_tell 136 = .ok (.getfield 32, 3) := by decide +kernel
theorem dX3_tell_139 : decode cX3_tell 139 = .ok (.getfield 228, 3) := by decide +kernel
theorem dX3_tell_142 : decode cX3_tell 142 = .ok (.ireturn, 1) := by decide +kernel
theorem dX3_tell_143 : decode cX3_tell 143 = .ok (.aload_n 0, 1) := by decide +kernel
theorem dX3_tell_144 : decode cX3_tell 144 = .ok (.getfield 32, 3) := by decide +kernel
theorem dX3_tell_147 : decode cX3_tell 147 = .ok (.getfield 231, 3) := by decide +kernel
theorem dX3_tell_150 : decode cX3_tell 150 = .ok (.ireturn, 1) := by decide +kernel
theorem dX3_tell_151 : decode cX3_tell 151 = .ok (.aload_n 0, 1) := by decide +kernel
theorem dX3_tell_152 : decode cX3_tell 152 = .ok (.getfield 72, 3) := by decide +kernel
theorem dX3_tell_155 : decode cX3_tell 155 = .ok (.ireturn, 1) := by decide +kernel
theorem dX3_tell_156 : decode cX3_tell 156 = .ok (.aload_n 0, 1) := by decide +kernel
theorem dX3_tell_157 : decode cX3_tell 157 = .ok (.getfield 32, 3) := by decide +kernel
theorem dX3_tell_160 : decode cX3_tell 160 = .ok (.getfield 234, 3) := by decide +kernel
theorem dX3_tell_163 : decode cX3_tell 163 = .ok (.ireturn, 1) := by decide +kernel
theorem dX3_tell_164 : decode cX3_tell 164 = .ok (.aload_n 0, 1) := by decide +kernel
theorem dX3_tell_165 : decode cX3_tell 165 = .ok (.getfield 36, 3) := by decide +kernel
theorem dX3_tell_168 : decode cX3_tell 168 = .ok (.ireturn, 1) := by decide +kernel
theorem dX3_tell_169 : decode cX3_tell 169 = .ok (.aload_n 0, 1) := by decide +kernel
theorem dX3_tell_170 : decode cX3_tell 170 = .ok (.invokevirtual 118, 3) := by decide +kernel
theorem dX3_tell_173 : decode cX3_tell 173 = .ok (.ireturn, 1) := by decide +kernel
theorem dX3_tell_174 : decode cX3_tell 174 = .ok (.aload_n 0, 1) := by decide +kernel
theorem dX3_tell_175 : decode cX3_tell 175 = .ok (.invokevirtual 235, 3) := by decide +kernel
theorem dX3_tell_178 : decode cX3_tell 178 = .ok (.ireturn, 1) := by decide +kernel
theorem dX3_tell_179 : decode cX3_tell 179 = .ok (.aload_n 0, 1) := by decide +kernel
theorem dX3_tell_180 : decode cX3_tell 180 = .ok (.iconst 1, 1) := by decide +kernel
theorem dX3_tell_181 : decode cX3_tell 181 = .ok (.invokevirtual 103, 3) := by decide +kernel
theorem dX3_tell_184 : decode cX3_tell 184 = .ok (.ireturn, 1) := by decide +kernel
theorem dX3_tell_185 : decode cX3_tell 185 = .ok (.aload_n 0, 1) := by decide +kernel
theorem dX3_tell_186 : decode cX3_tell 186 = .ok (.iconst 2, 1) := by decide +kernel
theorem dX3_tell_187 : decode cX3_tell 187 = .ok (.invokevirtual 103, 3) := by decide +kernel
theorem dX3_tell_190 : decode cX3_tell 190 = .ok (.ireturn, 1) := by decide +kernel
theorem dX3_tell_191 : decode cX3_tell 191 = .ok (.aload_n 0, 1) := by decide +kernel
theorem dX3_tell_192 : decode cX3_tell 192 = .ok (.iconst 3, 1) := by decide +kernel
theorem dX3_tell_193 : decode cX3_tell 193 = .ok (.invokevirtual 103, 3) := by decide +kernel
theorem dX3_tell_196 : decode cX3_tell 196 = .ok (.ireturn, 1) := by decide +kernel
theorem dX3_tell_197 : decode cX3_tell 197 = .ok (.aload_n 0, 1) := by decide +kernel
theorem dX3_tell_198 : decode cX3_tell 198 = .ok (.getfield 40, 3) := by decide +kernel
theorem dX3_tell_201 : decode cX3_tell 201 = .ok (.invokestatic 147, 3) := by decide +kernel
theorem dX3_tell_204 : decode cX3_tell 204 = .ok (.ireturn, 1) := by decide +kernel
theorem dX3_tell_205 : decode cX3_tell 205 = .ok (.aload_n 0, 1) := by decide +kernel
theorem dX3_tell_206 : decode cX3_tell 206 = .ok (.getfield 75, 3) := by decide +kernel
theorem dX3_tell_209 : decode cX3_tell 209 = .ok (.ireturn, 1) := by decide +kernel
theorem dX4_init_0 : decode cX4_init 0 = .ok (.aload_n 0, 1) := by decide +kernel
theorem dX4_init_1 : decode cX4_init 1 = .ok (.invokespecial 3, 3) := by decide +kernel
theorem dX4_init_4 : decode cX4_init 4 = .ok (.aload_n 0, 1) := by decide +kernel
theorem dX4_init_5 : decode cX4_init 5 = .ok (.sipush 1024, 3) := by decide +kernel
theorem dX4_init_8 : decode cX4_init 8 = .ok (.newarray .boolean, 2) := by decide +kernel
theorem dX4_init_10 : decode cX4_init 10 = .ok (.putfield 9, 3) := by decide +kernel
theorem dX4_init_13 : decode cX4_init 13 = .ok (.aload_n 0, 1) := by decide +kernel
theorem dX4_init_14 : decode cX4_init 14 = .ok (.sipush 1024, 3) := by decide +kernel
theorem dX4_init_17 : decode cX4_init 17 = .ok (.newarray .int, 2) := by decide +kernel
theorem dX4_init_19 : decode cX4_init 19 = .ok (.putfield 15, 3) := by decide +kernel
theorem dX4_init_22 : decode cX4_init 22 = .ok (.aload_n 0, 1) := by decide +kernel
theorem dX4_init_23 : decode cX4_init 23 = .ok (.sipush 1024, 3) := by decide +kernel
theorem dX4_init_26 : decode cX4_init 26 = .ok (.newarray .int, 2) := by decide +kernel
theorem dX4_init_28 : decode cX4_init 28 = .ok (.putfield 19, 3) := by decide +kernel
theorem dX4_init_31 : decode cX4_init 31 = .ok (.return_, 1) := by decide +kernel
set_option maxRecDepth 20000 in
theorem ggX4_countReached_X4_explore : GoodIn wsX4_countReached wsX4_explore := goodIn_r _ [6, 1, 7, 8, 9, 10, 11, 5, 12, 13, 14, 15, 16, 17, 18, 19, 20, 21, 22, 23, 24, 25, 26, 27, 28, 29, 30, 31, 32, 33, 34, 35, 36, 37, 38, 39, 40, 41, 42, 43, 44, 45, 46, 47, 48, 49, 50, 51, 52, 53, 54, 55, 56, 57, 58, 59, 60, 61, 62, 63, 64, 65, 66, 67, 68, 69, 72, 73, 74, 75, 76, 77, 78, 79, 80, 81, 82, 83, 84, 85, 86, 87, 88, 89, 90, 91, 92, 93, 94, 95, 96, 97, 98, 99, 100, 101] (by decide +kernel) (by decide +kernel)
set_option maxRecDepth 20000 in
theorem gX4_countReached_X4_explore : GoodIn wsX4_countReached (wsV RX4 22 RX4 yX4_explore wsX4_explore) := goodIn_app (goodIn_of _ (by decide +kernel)) ggX4_countReached_X4_explore
set_option maxRecDepth 20000 in
theorem ggX4_countReached_X4_endOfStands : GoodIn wsX4_countReached wsX4_endOfStands := goodIn_r _ [12, 13, 14, 15, 16, 17, 75, 76, 77, 78, 79, 80, 81, 82, 83, 84, 85, 86] (by decide +kernel) (by decide +kernel)
set_option maxRecDepth 20000 in
theorem gX4_countReached_X4_endOfStands : GoodIn wsX4_countReached (wsV RX4 26 RX4 yX4_endOfStands wsX4_endOfStands) := goodIn_app (goodIn_of _ (by decide +kernel)) ggX4_countReached_X4_endOfStands
set_option maxRecDepth 20000 in
theorem ggX4_countReached_X6_oneIf : GoodIn wsX4_countReached wsX6_oneIf := goodIn_r _ [71] (by decide +kernel) (by decide +kernel)
set_option maxRecDepth 20000 in
theorem gX4_countReached_X6_oneIf_n30 : GoodIn wsX4_countReached (wsX6_oneIf) := ggX4_countReached_X6_oneIf
theorem dX4_countReached_0 : decode cX4_countReached 0 = .ok (.aload_n 0, 1) := by decide +kernel
theorem dX4_countReached_1 : decode cX4_countReached 1 = .ok (.aload_n 1, 1) := by decide +kernel
theorem dX4_countReached_2 : decode cX4_countReached 2 = .ok (.iconst 0, 1) := by decide +kernel
theorem dX4_countReached_3 : decode cX4_countReached 3 = .ok (.invokevirtual 22, 3) := by decide +kernel
theorem dX4_countReached_6 : decode cX4_countReached 6 = .ok (.iconst 0, 1) := by decide +kernel
theorem dX4_countReached_7 : decode cX4_countReached 7 = .ok (.istore_n 2, 1) := by decide +kernel
theorem dX4_countReached_8 : decode cX4_countReached 8 = .ok (.iconst 0, 1) := by decide +kernel
theorem dX4_countReached_9 : decode cX4_countReached 9 = .ok (.istore_n 3, 1) := by decide +kernel
theorem dX4_countReached_10 : decode cX4_countReached 10 = .ok (.iload_n 3, 1) := by decide +kernel
theorem dX4_countReached_11 : decode cX4_countReached 11 = .ok (.aload_n 0, 1) := by decide +kernel
theorem dX4_countReached_12 : decode cX4_countReached 12 = .ok (.aload_n 1, 1) := by decide +kernel
theorem dX4_countReached_13 : decode cX4_countReached 13 = .ok (.invokevirtual 26, 3) := by decide +kernel
theorem dX4_countReached_16 : decode cX4_countReached 16 = .ok (.if_icmp .ge 21, 3) := by decide +kernel
theorem dX4_countReached_19 : decode cX4_countReached 19 = .ok (.iload_n 2, 1) := by decide +kernel
theorem dX4_countReached_20 : decode cX4_countReached 20 = .ok (.aload_n 0, 1) := by decide +kernel
theorem dX4_countReached_21 : decode cX4_countReached 21 = .ok (.getfield 9, 3) := by decide +kernel
theorem dX4_countReached_24 : decode cX4_countReached 24 = .ok (.iload_n 3, 1) := by decide +kernel
theorem dX4_countReached_25 : decode cX4_countReached 25 = .ok (.baload, 1) := by decide +kernel
theorem dX4_countReached_26 : decode cX4_countReached 26 = .ok (.invokestatic 30, 3) := by decide +kernel
theorem dX4_countReached_29 : decode cX4_countReached 29 = .ok (.iadd, 1) := by decide +kernel
theorem dX4_countReached_30 : decode cX4_countReached 30 = .ok (.istore_n 2, 1) := by decide +kernel
theorem dX4_countReached_31 : decode cX4_countReached 31 = .ok (.iinc 3 1, 3) := by decide +kernel
theorem dX4_countReached_34 : decode cX4_countReached 34 = .ok (.goto (-24), 3) := by decide +kernel
theorem dX4_countReached_37 : decode cX4_countReached 37 = .ok (.iload_n 2, 1) := by decide +kernel
theorem dX4_countReached_38 : decode cX4_countReached 38 = .ok (.ireturn, 1) := by decide +kernel
set_option maxRecDepth 20000 in
theorem ggX4_countDeadEnds_X4_explore : GoodIn wsX4_countDeadEnds wsX4_explore := goodIn_r _ [7, 1, 2, 8, 9, 10, 11, 6, 12, 13, 14, 15, 16, 17, 18, 19, 20, 21, 22, 23, 24, 25, 26, 27, 28, 29, 30, 31, 32, 33, 34, 35, 36, 37, 38, 39, 40, 41, 42, 43, 44, 45, 46, 47, 48, 49, 50, 51, 52, 53, 54, 55, 56, 57, 58, 59, 60, 61, 62, 63, 64, 65, 66, 67, 68, 69, 72, 73, 74, 75, 76, 77, 78, 79, 80, 81, 82, 83, 84, 85, 86, 87, 88, 89, 90, 91, 92, 93, 94, 95, 96, 97, 98, 99, 100, 101] (by decide +kernel) (by decide +kernel)
set_option maxRecDepth 20000 in
theorem gX4_countDeadEnds_X4_explore : GoodIn wsX4_countDeadEnds (wsV RX4 22 RX4 yX4_explore wsX4_explore) := goodIn_app (goodIn_of _ (by decide +kernel)) ggX4_countDeadEnds_X4_explore
set_option maxRecDepth 20000 in
theorem ggX4_countDeadEnds_X4_endOfStands : GoodIn wsX4_countDeadEnds wsX4_endOfStands := goodIn_r _ [12, 13, 14, 15, 16, 17, 75, 76, 77, 78, 79, 80, 81, 82, 83, 84, 85, 86] (by decide +kernel) (by decide +kernel)
set_option maxRecDepth 20000 in
theorem gX4_countDeadEnds_X4_endOfStands : GoodIn wsX4_countDeadEnds (wsV RX4 26 RX4 yX4_endOfStands wsX4_endOfStands) := goodIn_app (goodIn_of _ (by decide +kernel)) ggX4_countDeadEnds_X4_endOfStands
set_option maxRecDepth 20000 in
theorem ggX4_countDeadEnds_X6_oneIf : GoodIn wsX4_countDeadEnds wsX6_oneIf := goodIn_r _ [71] (by decide +kernel) (by decide +kernel)
set_option maxRecDepth 20000 in
theorem gX4_countDeadEnds_X6_oneIf_n30 : GoodIn wsX4_countDeadEnds (wsX6_oneIf) := ggX4_countDeadEnds_X6_oneIf
theorem dX4_countDeadEnds_0 : decode cX4_countDeadEnds 0 = .ok (.aload_n 0, 1) := by decide +kernel
theorem dX4_countDeadEnds_1 : decode cX4_countDeadEnds 1 = .ok (.aload_n 1, 1) := by decide +kernel
theorem dX4_countDeadEnds_2 : decode cX4_countDeadEnds 2 = .ok (.iconst 0, 1) := by decide +kernel
theorem dX4_countDeadEnds_3 : decode cX4_countDeadEnds 3 = .ok (.invokevirtual 22, 3) := by decide +kernel
theorem dX4_countDeadEnds_6 : decode cX4_countDeadEnds 6 = .ok (.iconst 0, 1) := by decide +kernel
theorem dX4_countDeadEnds_7 : decode cX4_countDeadEnds 7 = .ok (.istore_n 2, 1) := by decide +kernel
theorem dX4_countDeadEnds_8 : decode cX4_countDeadEnds 8 = .ok (.iconst 0, 1) := by decide +kernel
theorem dX4_countDeadEnds_9 : decode cX4_countDeadEnds 9 = .ok (.istore_n 3, 1) := by decide +kernel
theorem dX4_countDeadEnds_10 : decode cX4_countDeadEnds 10 = .ok (.iload_n 3, 1) := by decide +kernel
theorem dX4_countDeadEnds_11 : decode cX4_countDeadEnds 11 = .ok (.aload_n 0, 1) := by decide +kernel
theorem dX4_countDeadEnds_12 : decode cX4_countDeadEnds 12 = .ok (.aload_n 1, 1) := by decide +kernel
theorem dX4_countDeadEnds_13 : decode cX4_countDeadEnds 13 = .ok (.invokevirtual 26, 3) := by decide +kernel
theorem dX4_countDeadEnds_16 : decode cX4_countDeadEnds 16 = .ok (.if_icmp .ge 39, 3) := by decide +kernel
theorem dX4_countDeadEnds_19 : decode cX4_countDeadEnds 19 = .ok (.iload_n 2, 1) := by decide +kernel
theorem dX4_countDeadEnds_20 : decode cX4_countDeadEnds 20 = .ok (.aload_n 0, 1) := by decide +kernel
theorem dX4_countDeadEnds_21 : decode cX4_countDeadEnds 21 = .ok (.getfield 9, 3) := by decide +kernel
theorem dX4_countDeadEnds_24 : decode cX4_countDeadEnds 24 = .ok (.iload_n 3, 1) := by decide +kernel
theorem dX4_countDeadEnds_25 : decode cX4_countDeadEnds 25 = .ok (.baload, 1) := by decide +kernel
theorem dX4_countDeadEnds_26 : decode cX4_countDeadEnds 26 = .ok (.ifCond .eq 17, 3) := by decide +kernel
theorem dX4_countDeadEnds_29 : decode cX4_countDeadEnds 29 = .ok (.aload_n 0, 1) := by decide +kernel
theorem dX4_countDeadEnds_30 : decode cX4_countDeadEnds 30 = .ok (.getfield 19, 3) := by decide +kernel
theorem dX4_countDeadEnds_33 : decode cX4_countDeadEnds 33 = .ok (.iload_n 3, 1) := by decide +kernel
theorem dX4_countDeadEnds_34 : decode cX4_countDeadEnds 34 = .ok (.iaload, 1) := by decide +kernel
theorem dX4_countDeadEnds_35 : decode cX4_countDeadEnds 35 = .ok (.iconst (-1), 1) := by decide +kernel
theorem dX4_countDeadEnds_36 : decode cX4_countDeadEnds 36 = .ok (.if_icmp .ne 7, 3) := by decide +kernel
theorem dX4_countDeadEnds_39 : decode cX4_countDeadEnds 39 = .ok (.iconst 1, 1) := by decide +kernel
theorem dX4_countDeadEnds_40 : decode cX4_countDeadEnds 40 = .ok (.goto 4, 3) := by decide +kernel
theorem dX4_countDeadEnds_43 : decode cX4_countDeadEnds 43 = .ok (.iconst 0, 1) := by decide +kernel
theorem dX4_countDeadEnds_44 : decode cX4_countDeadEnds 44 = .ok (.invokestatic 30, 3) := by decide +kernel
theorem dX4_countDeadEnds_47 : decode cX4_countDeadEnds 47 = .ok (.iadd, 1) := by decide +kernel
theorem dX4_countDeadEnds_48 : decode cX4_countDeadEnds 48 = .ok (.istore_n 2, 1) := by decide +kernel
theorem dX4_countDeadEnds_49 : decode cX4_countDeadEnds 49 = .ok (.iinc 3 1, 3) := by decide +kernel
theorem dX4_countDeadEnds_52 : decode cX4_countDeadEnds 52 = .ok (.goto (-42), 3) := by decide +kernel
theorem dX4_countDeadEnds_55 : decode cX4_countDeadEnds 55 = .ok (.iload_n 2, 1) := by decide +kernel
theorem dX4_countDeadEnds_56 : decode cX4_countDeadEnds 56 = .ok (.ireturn, 1) := by decide +kernel
set_option maxRecDepth 20000 in
theorem ggX4_findDepth_X4_explore : GoodIn wsX4_findDepth wsX4_explore := goodIn_r _ [5, 6, 7, 8, 9, 10, 11, 4, 12, 13, 14, 15, 16, 17, 18, 19, 20, 21, 22, 23, 24, 25, 26, 27, 28, 29, 30, 31, 32, 33, 34, 35, 36, 37, 38, 39, 40, 41, 42, 43, 44, 45, 46, 47, 48, 49, 50, 51, 52, 53, 54, 55, 56, 57, 58, 59, 60, 61, 62, 63, 64, 65, 66, 67, 68, 69, 70, 71, 72, 73, 74, 75, 76, 77, 78, 79, 80, 81, 82, 83, 84, 85, 86, 87, 88, 89, 90, 91, 92, 93, 94, 95, 96, 97, 98, 99] (by decide +kernel) (by decide +kernel)
set_option maxRecDepth 20000 in
theorem gX4_findDepth_X4_explore : GoodIn wsX4_findDepth (wsV RX4 22 RX4 yX4_explore wsX4_explore) := goodIn_app (goodIn_of _ (by decide +kernel)) ggX4_findDepth_X4_explore
set_option maxRecDepth 20000 in
theorem ggX4_findDepth_X3_openLocks : GoodIn wsX4_findDepth wsX3_openLocks := goodIn_r _ [22, 23, 24, 25, 73, 74, 75, 76, 77, 78, 79, 80, 81, 82, 83, 84, 85, 86, 87, 88, 89, 90, 91, 92, 93, 94] (by decide +kernel) (by decide +kernel)
set_option maxRecDepth 20000 in
theorem gX4_findDepth_X3_openLocks : GoodIn wsX4_findDepth (wsV RX4 34 RX3 yX3_openLocks wsX3_openLocks) := goodIn_app (goodIn_of _ (by decide +kernel)) ggX4_findDepth_X3_openLocks
set_option maxRecDepth 20000 in
theorem ggX4_findDepth_X4_yetBehind : GoodIn wsX4_findDepth wsX4_yetBehind := goodIn_r _ [69, 7, 70, 71, 72] (by decide +kernel) (by decide +kernel)
set_option maxRecDepth 20000 in
theorem gX4_findDepth_X4_yetBehind : GoodIn wsX4_findDepth (wsV RX4 40 RX4 yX4_yetBehind wsX4_yetBehind) := goodIn_app (goodIn_of _ (by decide +kernel)) ggX4_findDepth_X4_yetBehind
theorem dX4_findDepth_0 : decode cX4_findDepth 0 = .ok (.aload_n 0, 1) := by decide +kernel
theorem dX4_findDepth_1 : decode cX4_findDepth 1 = .ok (.aload_n 1, 1) := by decide +kernel
theorem dX4_findDepth_2 : decode cX4_findDepth 2 = .ok (.iconst 0, 1) := by decide +kernel
theorem dX4_findDepth_3 : decode cX4_findDepth 3 = .ok (.invokevirtual 22, 3) := by decide +kernel
theorem dX4_findDepth_6 : decode cX4_findDepth 6 = .ok (.aload_n 0, 1) := by decide +kernel
theorem dX4_findDepth_7 : decode cX4_findDepth 7 = .ok (.aload_n 1, 1) := by decide +kernel
theorem dX4_findDepth_8 : decode cX4_findDepth 8 = .ok (.invokevirtual 34, 3) := by decide +kernel
theorem dX4_findDepth_11 : decode cX4_findDepth 11 = .ok (.invokevirtual 40, 3) := by decide +kernel
theorem dX4_findDepth_14 : decode cX4_findDepth 14 = .ok (.ireturn, 1) := by decide +kernel
set_option maxRecDepth 20000 in
theorem ggX4_findMusts_X3_openLocks : GoodIn wsX4_findMusts wsX3_openLocks := goodIn_r _ [6, 7, 8, 9, 71, 72, 73, 74, 75, 76, 77, 78, 79, 80, 81, 82, 83, 84, 85, 86, 87, 88, 89, 90, 91, 92] (by decide +kernel) (by decide +kernel)
set_option maxRecDepth 20000 in
theorem gX4_findMusts_X3_openLocks : GoodIn wsX4_findMusts (wsV RX4 34 RX3 yX3_openLocks wsX3_openLocks) := goodIn_app (goodIn_of _ (by decide +kernel)) ggX4_findMusts_X3_openLocks
set_option maxRecDepth 20000 in
theorem ggX4_findMusts_X4_explore : GoodIn wsX4_findMusts wsX4_explore := goodIn_r _ [14, 15, 16, 17, 18, 19, 20, 13, 21, 22, 23, 24, 25, 26, 2, 3, 4, 5, 6, 7, 8, 9, 27, 28, 29, 30, 31, 32, 33, 34, 35, 36, 37, 38, 39, 40, 41, 42, 43, 44, 45, 46, 47, 48, 49, 50, 51, 52, 53, 54, 55, 56, 57, 58, 59, 60, 61, 62, 63, 64, 65, 66, 67, 68, 69, 70, 93, 94, 95, 71, 72, 73, 74, 75, 76, 77, 78, 79, 80, 81, 82, 83, 84, 85, 86, 87, 88, 89, 90, 91, 92, 96, 97, 98, 99, 100] (by decide +kernel) (by decide +kernel)
set_option maxRecDepth 20000 in
theorem gX4_findMusts_X4_explore : GoodIn wsX4_findMusts (wsV RX4 22 RX4 yX4_explore wsX4_explore) := goodIn_app (goodIn_of _ (by decide +kernel)) ggX4_findMusts_X4_explore
set_option maxRecDepth 20000 in
theorem ggX4_findMusts_X4_yetBehind : GoodIn wsX4_findMusts wsX4_yetBehind := goodIn_r _ [70, 16, 93, 94, 95] (by decide +kernel) (by decide +kernel)
set_option maxRecDepth 20000 in
theorem gX4_findMusts_X4_yetBehind : GoodIn wsX4_findMusts (wsV RX4 40 RX4 yX4_yetBehind wsX4_yetBehind) := goodIn_app (goodIn_of _ (by decide +kernel)) ggX4_findMusts_X4_yetBehind
theorem dX4_findMusts_0 : decode cX4_findMusts 0 = .ok (.aload_n 1, 1) := by decide +kernel
theorem dX4_findMusts_1 : decode cX4_findMusts 1 = .ok (.invokevirtual 34, 3) := by decide +kernel
theorem dX4_findMusts_4 : decode cX4_findMusts 4 = .ok (.istore_n 2, 1) := by decide +kernel
theorem dX4_findMusts_5 : decode cX4_findMusts 5 = .ok (.aload_n 0, 1) := by decide +kernel
theorem dX4_findMusts_6 : decode cX4_findMusts 6 = .ok (.aload_n 1, 1) := by decide +kernel
theorem dX4_findMusts_7 : decode cX4_findMusts 7 = .ok (.iconst 0, 1) := by decide +kernel
theorem dX4_findMusts_8 : decode cX4_findMusts 8 = .ok (.invokevirtual 22, 3) := by decide +kernel
theorem dX4_findMusts_11 : decode cX4_findMusts 11 = .ok (.aload_n 0, 1) := by decide +kernel
theorem dX4_findMusts_12 : decode cX4_findMusts 12 = .ok (.iload_n 2, 1) := by decide +kernel
theorem dX4_findMusts_13 : decode cX4_findMusts 13 = .ok (.invokevirtual 40, 3) := by decide +kernel
theorem dX4_findMusts_16 : decode cX4_findMusts 16 = .ok (.iconst (-1), 1) := by decide +kernel
theorem dX4_findMusts_17 : decode cX4_findMusts 17 = .ok (.if_icmp .ne 5, 3) := by decide +kernel
theorem dX4_findMusts_20 : decode cX4_findMusts 20 = .ok (.iconst 0, 1) := by decide +kernel
theorem dX4_findMusts_21 : decode cX4_findMusts 21 = .ok (.ireturn, 1) := by decide +kernel
theorem dX4_findMusts_22 : decode cX4_findMusts 22 = .ok (.iconst 0, 1) := by decide +kernel
theorem dX4_findMusts_23 : decode cX4_findMusts 23 = .ok (.istore_n 3, 1) := by decide +kernel
theorem dX4_findMusts_24 : decode cX4_findMusts 24 = .ok (.iconst 0, 1) := by decide +kernel
theorem dX4_findMusts_25 : decode cX4_findMusts 25 = .ok (.istore 4, 2) := by decide +kernel
theorem dX4_findMusts_27 : decode cX4_findMusts 27 = .ok (.iload 4, 2) := by decide +kernel
theorem dX4_findMusts_29 : decode cX4_findMusts 29 = .ok (.aload_n 1, 1) := by decide +kernel
theorem dX4_findMusts_30 : decode cX4_findMusts 30 = .ok (.getfield 44, 3) := by decide +kernel
theorem dX4_findMusts_33 : decode cX4_findMusts 33 = .ok (.if_icmp .ge 34, 3) := by decide +kernel
theorem dX4_findMusts_36 : decode cX4_findMusts 36 = .ok (.aload_n 0, 1) := by decide +kernel
theorem dX4_findMusts_37 : decode cX4_findMusts 37 = .ok (.aload_n 1, 1) := by decide +kernel
theorem dX4_findMusts_38 : decode cX4_findMusts 38 = .ok (.iconst 1, 1) := by decide +kernel
theorem dX4_findMusts_39 : decode cX4_findMusts 39 = .ok (.iload 4, 2) := by decide +kernel
theorem dX4_findMusts_41 : decode cX4_findMusts 41 = .ok (.ishl, 1) := by decide +kernel
theorem dX4_findMusts_42 : decode cX4_findMusts 42 = .ok (.invokevirtual 22, 3) := by decide +kernel
theorem dX4_findMusts_45 : decode cX4_findMusts 45 = .ok (.aload_n 0, 1) := by decide +kernel
theorem dX4_findMusts_46 : decode cX4_findMusts 46 = .ok (.iload_n 2, 1) := by decide +kernel
theorem dX4_findMusts_47 : decode cX4_findMusts 47 = .ok (.invokevirtual 40, 3) := by decide +kernel
theorem dX4_findMusts_50 : decode cX4_findMusts 50 = .ok (.iconst (-1), 1) := by decide +kernel
theorem dX4_findMusts_51 : decode cX4_findMusts 51 = .ok (.if_icmp .ne 10, 3) := by decide +kernel
theorem dX4_findMusts_54 : decode cX4_findMusts 54 = .ok (.iload_n 3, 1) := by decide +kernel
theorem dX4_findMusts_55 : decode cX4_findMusts 55 = .ok (.iconst 1, 1) := by decide +kernel
theorem dX4_findMusts_56 : decode cX4_findMusts 56 = .ok (.iload 4, 2) := by decide +kernel
theorem dX4_findMusts_58 : decode cX4_findMusts 58 = .ok (.ishl, 1) := by decide +kernel
theorem dX4_findMusts_59 : decode cX4_findMusts 59 = .ok (.ior, 1) := by decide +kernel
theorem dX4_findMusts_60 : decode cX4_findMusts 60 = .ok (.istore_n 3, 1) := by decide +kernel
theorem dX4_findMusts_61 : decode cX4_findMusts 61 = .ok (.iinc 4 1, 3) := by decide +kernel
theorem dX4_findMusts_64 : decode cX4_findMusts 64 = .ok (.goto (-37), 3) := by decide +kernel
theorem dX4_findMusts_67 : decode cX4_findMusts 67 = .ok (.iload_n 3, 1) := by decide +kernel
theorem dX4_findMusts_68 : decode cX4_findMusts 68 = .ok (.ireturn, 1) := by decide +kernel
set_option maxRecDepth 20000 in
theorem ggX4_findBestReady_X4_explore : GoodIn wsX4_findBestReady wsX4_explore := goodIn_r _ [6, 7, 8, 9, 10, 11, 12, 5, 13, 1, 14, 15, 16, 17, 18, 19, 20, 21, 22, 23, 24, 25, 26, 27, 28, 29, 30, 31, 32, 33, 34, 35, 36, 37, 38, 39, 40, 41, 42, 43, 44, 45, 46, 47, 48, 49, 50, 51, 52, 53, 54, 55, 56, 57, 58, 59, 60, 61, 62, 63, 64, 65, 66, 67, 68, 69, 87, 88, 89, 75, 76, 77, 78, 79, 80, 81, 82, 83, 84, 85, 86, 90, 91, 92, 93, 94, 95, 96, 97, 98, 99, 100, 101, 102, 103, 104] (by decide +kernel) (by decide +kernel)
set_option maxRecDepth 20000 in
theorem gX4_findBestReady_X4_explore : GoodIn wsX4_findBestReady (wsV RX4 22 RX4 yX4_explore wsX4_explore) := goodIn_app (goodIn_of _ (by decide +kernel)) ggX4_findBestReady_X4_explore
set_option maxRecDepth 20000 in
theorem ggX4_findBestReady_X3_openLocks : GoodIn wsX4_findBestReady wsX3_openLocks := goodIn_r _ [22, 23, 24, 25, 75, 76, 77, 78, 79, 80, 81, 82, 83, 84, 85, 86, 90, 91, 92, 93, 94, 95, 96, 97, 98, 99] (by decide +kernel) (by decide +kernel)
set_option maxRecDepth 20000 in
theorem gX4_findBestReady_X3_openLocks : GoodIn wsX4_findBestReady (wsV RX4 34 RX3 yX3_openLocks wsX3_openLocks) := goodIn_app (goodIn_of _ (by decide +kernel)) ggX4_findBestReady_X3_openLocks
set_option maxRecDepth 20000 in
theorem ggX4_findBestReady_X3_readyLocks : GoodIn wsX4_findBestReady wsX3_readyLocks := goodIn_r _ [73, 23, 24, 39, 40, 41, 21, 42, 36, 37, 43, 74, 55, 56, 57, 58, 59, 60, 61, 75, 76, 77, 78, 79, 80, 81, 82, 83, 84, 85, 86, 100, 101, 102, 103, 104, 90, 91, 92, 93, 94, 95, 96, 97, 98, 99] (by decide +kernel) (by decide +kernel)
set_option maxRecDepth 20000 in
theorem gX4_findBestReady_X3_readyLocks : GoodIn wsX4_findBestReady (wsV RX4 48 RX3 yX3_readyLocks wsX3_readyLocks) := goodIn_app (goodIn_of _ (by decide +kernel)) ggX4_findBestReady_X3_readyLocks
set_option maxRecDepth 20000 in
theorem ggX4_findBestReady_X6_isIn : GoodIn wsX4_findBestReady wsX6_isIn := goodIn_r _ [53] (by decide +kernel) (by decide +kernel)
set_option maxRecDepth 20000 in
theorem gX4_findBestReady_X6_isIn_n54 : GoodIn wsX4_findBestReady (wsX6_isIn) := ggX4_findBestReady_X6_isIn
set_option maxRecDepth 20000 in
theorem ggX4_findBestReady_X4_yetBehind : GoodIn wsX4_findBestReady wsX4_yetBehind := goodIn_r _ [69, 8, 87, 88, 89] (by decide +kernel) (by decide +kernel)
set_option maxRecDepth 20000 in
theorem gX4_findBestReady_X4_yetBehind : GoodIn wsX4_findBestReady (wsV RX4 40 RX4 yX4_yetBehind wsX4_yetBehind) := goodIn_app (goodIn_of _ (by decide +kernel)) ggX4_findBestReady_X4_yetBehind
theorem dX4_findBestReady_0 : decode cX4_findBestReady 0 = .ok (.aload_n 0, 1) := by decide +kernel
theorem dX4_findBestReady_1 : decode cX4_findBestReady 1 = .ok (.aload_n 1, 1) := by decide +kernel
theorem dX4_findBestReady_2 : decode cX4_findBestReady 2 = .ok (.iconst 0, 1) := by decide +kernel
theorem dX4_findBestReady_3 : decode cX4_findBestReady 3 = .ok (.invokevirtual 22, 3) := by decide +kernel
theorem dX4_findBestReady_6 : decode cX4_findBestReady 6 = .ok (.aload_n 1, 1) := by decide +kernel
theorem dX4_findBestReady_7 : decode cX4_findBestReady 7 = .ok (.invokevirtual 34, 3) := by decide +kernel
theorem dX4_findBestReady_10 : decode cX4_findBestReady 10 = .ok (.istore_n 2, 1) := by decide +kernel
theorem dX4_findBestReady_11 : decode cX4_findBestReady 11 = .ok (.aload_n 1, 1) := by decide +kernel
theorem dX4_findBestReady_12 : decode cX4_findBestReady 12 = .ok (.invokevirtual 48, 3) := by decide +kernel
theorem dX4_findBestReady_15 : decode cX4_findBestReady 15 = .ok (.istore_n 3, 1) := by decide +kernel
theorem dX4_findBestReady_16 : decode cX4_findBestReady 16 = .ok (.iconst (-1), 1) := by decide +kernel
theorem dX4_findBestReady_17 : decode cX4_findBestReady 17 = .ok (.istore 4, 2) := by decide +kernel
theorem dX4_findBestReady_19 : decode cX4_findBestReady 19 = .ok (.iconst (-1), 1) := by decide +kernel
theorem dX4_findBestReady_20 : decode cX4_findBestReady 20 = .ok (.istore 5, 2) := by decide +kernel
theorem dX4_findBestReady_22 : decode cX4_findBestReady 22 = .ok (.iconst 0, 1) := by decide +kernel
theorem dX4_findBestReady_23 : decode cX4_findBestReady 23 = .ok (.istore 6, 2) := by decide +kernel
theorem dX4_findBestReady_25 : decode cX4_findBestReady 25 = .ok (.iload 6, 2) := by decide +kernel
theorem dX4_findBestReady_27 : decode cX4_findBestReady 27 = .ok (.aload_n 1, 1) := by decide +kernel
theorem dX4_findBestReady_28 : decode cX4_findBestReady 28 = .ok (.getfield 51, 3) := by decide +kernel
theorem dX4_findBestReady_31 : decode cX4_findBestReady 31 = .ok (.if_icmp .ge 61, 3) := by decide +kernel
theorem dX4_findBestReady_34 : decode cX4_findBestReady 34 = .ok (.iload_n 3, 1) := by decide +kernel
theorem dX4_findBestReady_35 : decode cX4_findBestReady 35 = .ok (.iload 6, 2) := by decide +kernel
theorem dX4_findBestReady_37 : decode cX4_findBestReady 37 = .ok (.invokestatic 54, 3) := by decide +kernel
theorem dX4_findBestReady_40 : decode cX4_findBestReady 40 = .ok (.ifCond .eq 16, 3) := by decide +kernel
theorem dX4_findBestReady_43 : decode cX4_findBestReady 43 = .ok (.aload_n 0, 1) := by decide +kernel
theorem dX4_findBestReady_44 : decode cX4_findBestReady 44 = .ok (.iload_n 2, 1) := by decide +kernel
theorem dX4_findBestReady_45 : decode cX4_findBestReady 45 = .ok (.iconst 1, 1) := by decide +kernel
theorem dX4_findBestReady_46 : decode cX4_findBestReady 46 = .ok (.iload 6, 2) := by decide +kernel
theorem dX4_findBestReady_48 : decode cX4_findBestReady 48 = .ok (.ishl, 1) := by decide +kernel
theorem dX4_findBestReady_49 : decode cX4_findBestReady 49 = .ok (.ior, 1) := by decide +kernel
theorem dX4_findBestReady_50 : decode cX4_findBestReady 50 = .ok (.invokevirtual 40, 3) := by decide +kernel
theorem dX4_findBestReady_53 : decode cX4_findBestReady 53 = .ok (.goto 4, 3) := by decide +kernel
theorem dX4_findBestReady_56 : decode cX4_findBestReady 56 = .ok (.iconst (-1), 1) := by decide +kernel
theorem dX4_findBestReady_57 : decode cX4_findBestReady 57 = .ok (.istore 7, 2) := by decide +kernel
theorem dX4_findBestReady_59 : decode cX4_findBestReady 59 = .ok (.iload 7, 2) := by decide +kernel
theorem dX4_findBestReady_61 : decode cX4_findBestReady 61 = .ok (.iconst (-1), 1) := by decide +kernel
theorem dX4_findBestReady_62 : decode cX4_findBestReady 62 = .ok (.if_icmp .eq 24, 3) := by decide +kernel
theorem dX4_findBestReady_65 : decode cX4_findBestReady 65 = .ok (.iload 4, 2) := by decide +kernel
theorem dX4_findBestReady_67 : decode cX4_findBestReady 67 = .ok (.iconst (-1), 1) := by decide +kernel
theorem dX4_findBestReady_68 : decode cX4_findBestReady 68 = .ok (.if_icmp .eq 10, 3) := by decide +kernel
theorem dX4_findBestReady_71 : decode cX4_findBestReady 71 = .ok (.iload 7, 2) := by decide +kernel
theorem dX4_findBestReady_73 : decode cX4_findBestReady 73 = .ok (.iload 5, 2) := by decide +kernel
theorem dX4_findBestReady_75 : decode cX4_findBestReady 75 = .ok (.if_icmp .ge 11, 3) := by decide +kernel
theorem dX4_findBestReady_78 : decode cX4_findBestReady 78 = .ok (.iload 6, 2) := by decide +kernel
theorem dX4_findBestReady_80 : decode cX4_findBestReady 80 = .ok (.istore 4, 2) := by decide +kernel
theorem dX4_findBestReady_82 : decode cX4_findBestReady 82 = .ok (.iload 7, 2) := by decide +kernel
theorem dX4_findBestReady_84 : decode cX4_findBestReady 84 = .ok (.istore 5, 2) := by decide +kernel
theorem dX4_findBestReady_86 : decode cX4_findBestReady 86 = .ok (.iinc 6 1, 3) := by decide +kernel
theorem dX4_findBestReady_89 : decode cX4_findBestReady 89 = .ok (.goto (-64), 3) := by decide +kernel
theorem dX4_findBestReady_92 : decode cX4_findBestReady 92 = .ok (.iload 4, 2) := by decide +kernel
theorem dX4_findBestReady_94 : decode cX4_findBestReady 94 = .ok (.ireturn, 1) := by decide +kernel
theorem dX4_endOfStands_0 : decode cX4_endOfStands 0 = .ok (.iconst 1, 1) := by decide +kernel
theorem dX4_endOfStands_1 : decode cX4_endOfStands 1 = .ok (.aload_n 1, 1) := by decide +kernel
theorem dX4_endOfStands_2 : decode cX4_endOfStands 2 = .ok (.getfield 51, 3) := by decide +kernel
theorem dX4_endOfStands_5 : decode cX4_endOfStands 5 = .ok (.ishl, 1) := by decide +kernel
theorem dX4_endOfStands_6 : decode cX4_endOfStands 6 = .ok (.sipush 1024, 3) := by decide +kernel
theorem dX4_endOfStands_9 : decode cX4_endOfStands 9 = .ok (.invokestatic 58, 3) := by decide +kernel
theorem dX4_endOfStands_12 : decode cX4_endOfStands 12 = .ok (.ireturn, 1) := by decide +kernel
theorem dX4_yetBehind_0 : decode cX4_yetBehind 0 = .ok (.iload_n 1, 1) := by decide +kernel
theorem dX4_yetBehind_1 : decode cX4_yetBehind 1 = .ok (.ifCond .lt 19, 3) := by decide +kernel
theorem dX4_yetBehind_4 : decode cX4_yetBehind 4 = .ok (.iload_n 1, 1) := by decide +kernel
theorem dX4_yetBehind_5 : decode cX4_yetBehind 5 = .ok (.sipush 1024, 3) := by decide +kernel
theorem dX4_yetBehind_8 : decode cX4_yetBehind 8 = .ok (.if_icmp .ge 12, 3) := by decide +kernel
theorem dX4_yetBehind_11 : decode cX4_yetBehind 11 = .ok (.aload_n 0, 1) := by decide +kernel
theorem dX4_yetBehind_12 : decode cX4_yetBehind 12 = .ok (.getfield 19, 3) := by decide +kernel
theorem dX4_yetBehind_15 : decode cX4_yetBehind 15 = .ok (.iload_n 1, 1) := by decide +kernel
theorem dX4_yetBehind_16 : decode cX4_yetBehind 16 = .ok (.iaload, 1) := by decide +kernel
theorem dX4_yetBehind_17 : decode cX4_yetBehind 17 = .ok (.goto 4, 3) := by decide +kernel
theorem dX4_yetBehind_20 : decode cX4_yetBehind 20 = .ok (.iconst (-1), 1) := by decide +kernel
theorem dX4_yetBehind_21 : decode cX4_yetBehind 21 = .ok (.ireturn, 1) := by decide +kernel
set_option maxRecDepth 20000 in
theorem ggX4_explore_X4_endOfStands : GoodIn wsX4_explore wsX4_endOfStands := goodIn_r _ [8, 9, 10, 11, 12, 13, 69, 70, 71, 72, 73, 74, 75, 76, 77, 78, 79, 80] (by decide +kernel) (by decide +kernel)
set_option maxRecDepth 20000 in
theorem gX4_explore_X4_endOfStands : GoodIn wsX4_explore (wsV RX4 26 RX4 yX4_endOfStands wsX4_endOfStands) := goodIn_app (goodIn_of _ (by decide +kernel)) ggX4_explore_X4_endOfStands
set_option maxRecDepth 20000 in
theorem ggX4_explore_X3_openLocks : GoodIn wsX4_explore wsX3_openLocks := goodIn_r _ [18, 19, 20, 21, 69, 70, 71, 72, 73, 74, 75, 76, 77, 78, 79, 80, 81, 82, 83, 84, 85, 86, 87, 88, 89, 90] (by decide +kernel) (by decide +kernel)
set_option maxRecDepth 20000 in
theorem gX4_explore_X3_openLocks : GoodIn wsX4_explore (wsV RX4 34 RX3 yX3_openLocks wsX3_openLocks) := goodIn_app (goodIn_of _ (by decide +kernel)) ggX4_explore_X3_openLocks
set_option maxRecDepth 20000 in
theorem ggX4_explore_X4_goOn : GoodIn wsX4_explore wsX4_goOn := goodIn_r _ [25, 9, 26, 1, 27, 28, 29, 30, 17, 31, 32, 33, 19, 20, 21, 34, 35, 36, 37, 38, 39, 40, 41, 42, 43, 44, 45, 46, 47, 48, 49, 50, 51, 52, 53, 54, 55, 56, 57, 69, 70, 71, 72, 73, 74, 75, 76, 77, 78, 79, 80, 66, 67, 68, 81, 82, 83, 84, 85, 86, 87, 88, 89, 90, 91, 92, 93, 94, 95] (by decide +kernel) (by decide +kernel)
set_option maxRecDepth 20000 in
theorem gX4_explore_X4_goOn : GoodIn wsX4_explore (wsV RX4 64 RX4 yX4_goOn wsX4_goOn) := goodIn_app (goodIn_of _ (by decide +kernel)) ggX4_explore_X4_goOn
set_option maxRecDepth 20000 in
theorem ggX4_explore_X6_isIn : GoodIn wsX4_explore wsX6_isIn := goodIn_r _ [49] (by decide +kernel) (by decide +kernel)
set_option maxRecDepth 20000 in
theorem gX4_explore_X6_isIn_n54 : GoodIn wsX4_explore (wsX6_isIn) := ggX4_explore_X6_isIn
set_option maxRecDepth 20000 in
theorem ggX4_explore_X4_leastYet : GoodIn wsX4_explore wsX4_leastYet := goodIn_r _ [61, 9, 27, 47, 48, 49, 62, 63, 64, 7, 65, 2, 69, 70, 71, 72, 73, 74, 75, 76, 77, 78, 79, 80, 66, 67, 68] (by decide +kernel) (by decide +kernel)
set_option maxRecDepth 20000 in
theorem gX4_explore_X4_leastYet : GoodIn wsX4_explore (wsV RX4 71 RX4 yX4_leastYet wsX4_leastYet) := goodIn_app (goodIn_of _ (by decide +kernel)) ggX4_explore_X4_leastYet
theorem dX4_explore_0 : decode cX4_explore 0 = .ok (.aload_n 0, 1) := by decide +kernel
theorem dX4_explore_1 : decode cX4_explore 1 = .ok (.aload_n 1, 1) := by decide +kernel
theorem dX4_explore_2 : decode cX4_explore 2 = .ok (.invokevirtual 26, 3) := by decide +kernel
theorem dX4_explore_5 : decode cX4_explore 5 = .ok (.istore_n 3, 1) := by decide +kernel
theorem dX4_explore_6 : decode cX4_explore 6 = .ok (.aload_n 1, 1) := by decide +kernel
theorem dX4_explore_7 : decode cX4_explore 7 = .ok (.invokevirtual 34, 3) := by decide +kernel
theorem dX4_explore_10 : decode cX4_explore 10 = .ok (.istore 4, 2) := by decide +kernel
theorem dX4_explore_12 : decode cX4_explore 12 = .ok (.iconst 0, 1) := by decide +kernel
theorem dX4_explore_13 : decode cX4_explore 13 = .ok (.istore 5, 2) := by decide +kernel
theorem dX4_explore_15 : decode cX4_explore 15 = .ok (.iload 5, 2) := by decide +kernel
theorem dX4_explore_17 : decode cX4_explore 17 = .ok (.iload_n 3, 1) := by decide +kernel
theorem dX4_explore_18 : decode cX4_explore 18 = .ok (.if_icmp .ge 36, 3) := by decide +kernel
theorem dX4_explore_21 : decode cX4_explore 21 = .ok (.aload_n 0, 1) := by decide +kernel
theorem dX4_explore_22 : decode cX4_explore 22 = .ok (.getfield 9, 3) := by decide +kernel
theorem dX4_explore_25 : decode cX4_explore 25 = .ok (.iload 5, 2) := by decide +kernel
theorem dX4_explore_27 : decode cX4_explore 27 = .ok (.iload 5, 2) := by decide +kernel
theorem dX4_explore_29 : decode cX4_explore 29 = .ok (.iload 4, 2) := by decide +kernel
theorem dX4_explore_31 : decode cX4_explore 31 = .ok (.if_icmp .ne 7, 3) := by decide +kernel
theorem dX4_explore_34 : decode cX4_explore 34 = .ok (.iconst 1, 1) := by decide +kernel
theorem dX4_explore_35 : decode cX4_explore 35 = .ok (.goto 4, 3) := by decide +kernel
theorem dX4_explore_38 : decode cX4_explore 38 = .ok (.iconst 0, 1) := by decide +kernel
theorem dX4_explore_39 : decode cX4_explore 39 = .ok (.bastore, 1) := by decide +kernel
theorem dX4_explore_40 : decode cX4_explore 40 = .ok (.aload_n 0, 1) := by decide +kernel
theorem dX4_explore_41 : decode cX4_explore 41 = .ok (.getfield 19, 3) := by decide +kernel
theorem dX4_explore_44 : decode cX4_explore 44 = .ok (.iload 5, 2) := by decide +kernel
theorem dX4_explore_46 : decode cX4_explore 46 = .ok (.iconst (-1), 1) := by decide +kernel
theorem dX4_explore_47 : decode cX4_explore 47 = .ok (.iastore, 1) := by decide +kernel
theorem dX4_explore_48 : decode cX4_explore 48 = .ok (.iinc 5 1, 3) := by decide +kernel
theorem dX4_explore_51 : decode cX4_explore 51 = .ok (.goto (-36), 3) := by decide +kernel
theorem dX4_explore_54 : decode cX4_explore 54 = .ok (.iconst 0, 1) := by decide +kernel
theorem dX4_explore_55 : decode cX4_explore 55 = .ok (.istore 5, 2) := by decide +kernel
theorem dX4_explore_57 : decode cX4_explore 57 = .ok (.iload 5, 2) := by decide +kernel
theorem dX4_explore_59 : decode cX4_explore 59 = .ok (.iload_n 3, 1) := by decide +kernel
theorem dX4_explore_60 : decode cX4_explore 60 = .ok (.if_icmp .ge 27, 3) := by decide +kernel
theorem dX4_explore_63 : decode cX4_explore 63 = .ok (.aload_n 0, 1) := by decide +kernel
theorem dX4_explore_64 : decode cX4_explore 64 = .ok (.getfield 9, 3) := by decide +kernel
theorem dX4_explore_67 : decode cX4_explore 67 = .ok (.iload 5, 2) := by decide +kernel
theorem dX4_explore_69 : decode cX4_explore 69 = .ok (.baload, 1) := by decide +kernel
theorem dX4_explore_70 : decode cX4_explore 70 = .ok (.ifCond .eq 11, 3) := by decide +kernel
theorem dX4_explore_73 : decode cX4_explore 73 = .ok (.aload_n 0, 1) := by decide +kernel
theorem dX4_explore_74 : decode cX4_explore 74 = .ok (.aload_n 1, 1) := by decide +kernel
theorem dX4_explore_75 : decode cX4_explore 75 = .ok (.iload 5, 2) := by decide +kernel
theorem dX4_explore_77 : decode cX4_explore 77 = .ok (.iload_n 2, 1) := by decide +kernel
theorem dX4_explore_78 : decode cX4_explore 78 = .ok (.invokevirtual 64, 3) := by decide +kernel
theorem dX4_explore_81 : decode cX4_explore 81 = .ok (.iinc 5 1, 3) := by decide +kernel
theorem dX4_explore_84 : decode cX4_explore 84 = .ok (.goto (-27), 3) := by decide +kernel
theorem dX4_explore_87 : decode cX4_explore 87 = .ok (.iload_n 3, 1) := by decide +kernel
theorem dX4_explore_88 : decode cX4_explore 88 = .ok (.iconst 1, 1) := by decide +kernel
theorem dX4_explore_89 : decode cX4_explore 89 = .ok (.isub, 1) := by decide +kernel
theorem dX4_explore_90 : decode cX4_explore 90 = .ok (.istore 5, 2) := by decide +kernel
theorem dX4_explore_92 : decode cX4_explore 92 = .ok (.iload 5, 2) := by decide +kernel
theorem dX4_explore_94 : decode cX4_explore 94 = .ok (.ifCond .lt 49, 3) := by decide +kernel
theorem dX4_explore_97 : decode cX4_explore 97 = .ok (.aload_n 0, 1) := by decide +kernel
theorem dX4_explore_98 : decode cX4_explore 98 = .ok (.getfield 9, 3) := by decide +kernel
theorem dX4_explore_101 : decode cX4_explore 101 = .ok (.iload 5, 2) := by decide +kernel
theorem dX4_explore_103 : decode cX4_explore 103 = .ok (.baload, 1) := by decide +kernel
theorem dX4_explore_104 : decode cX4_explore 104 = .ok (.ifCond .eq 33, 3) := by decide +kernel
theorem dX4_explore_107 : decode cX4_explore 107 = .ok (.aload_n 0, 1) := by decide +kernel
theorem dX4_explore_108 : decode cX4_explore 108 = .ok (.getfield 19, 3) := by decide +kernel
theorem dX4_explore_111 : decode cX4_explore 111 = .ok (.iload 5, 2) := by decide +kernel
theorem dX4_explore_113 : decode cX4_explore 113 = .ok (.iload 5, 2) := by decide +kernel
theorem dX4_explore_115 : decode cX4_explore 115 = .ok (.aload_n 1, 1) := by decide +kernel
theorem dX4_explore_116 : decode cX4_explore 116 = .ok (.getfield 68, 3) := by decide +kernel
theorem dX4_explore_119 : decode cX4_explore 119 = .ok (.invokestatic 54, 3) := by decide +kernel
theorem dX4_explore_122 : decode cX4_explore 122 = .ok (.ifCond .eq 7, 3) := by decide +kernel
theorem dX4_explore_125 : decode cX4_explore 125 = .ok (.iconst 0, 1) := by decide +kernel
theorem dX4_explore_126 : decode cX4_explore 126 = .ok (.goto 10, 3) := by decide +kernel
theorem dX4_explore_129 : decode cX4_explore 129 = .ok (.aload_n 0, 1) := by decide +kernel
theorem dX4_explore_130 : decode cX4_explore 130 = .ok (.aload_n 1, 1) := by decide +kernel
theorem dX4_explore_131 : decode cX4_explore 131 = .ok (.iload 5, 2) := by decide +kernel
theorem dX4_explore_133 : decode cX4_explore 133 = .ok (.invokevirtual 71, 3) := by decide +kernel
theorem dX4_explore_136 : decode cX4_explore 136 = .ok (.iastore, 1) := by decide +kernel
theorem dX4_explore_137 : decode cX4_explore 137 = .ok (.iinc 5 (-1), 3) := by decide +kernel
theorem dX4_explore_140 : decode cX4_explore 140 = .ok (.goto (-48), 3) := by decide +kernel
theorem dX4_explore_143 : decode cX4_explore 143 = .ok (.return_, 1) := by decide +kernel
set_option maxRecDepth 20000 in
theorem ggX4_goOn_X3_thingsAtHand : GoodIn wsX4_goOn wsX3_thingsAtHand := goodIn_r _ [9, 10, 11, 12, 13, 14, 15, 16, 17, 18, 8, 19, 20, 21, 22, 23, 24, 25, 26, 27, 28, 29, 30, 39, 40, 41, 42, 43, 44, 45, 46, 47, 48, 49, 50, 54, 55, 56, 57, 58, 59, 60, 61, 62, 63, 64, 65, 66, 67, 68] (by decide +kernel) (by decide +kernel)
set_option maxRecDepth 20000 in
theorem gX4_goOn_X3_thingsAtHand : GoodIn wsX4_goOn (wsV RX4 75 RX3 yX3_thingsAtHand wsX3_thingsAtHand) := goodIn_app (goodIn_of _ (by decide +kernel)) ggX4_goOn_X3_thingsAtHand
set_option maxRecDepth 20000 in
theorem ggX4_goOn_X1_isReady : GoodIn wsX4_goOn wsX1_isReady := goodIn_r _ [35, 36, 37, 38, 54, 55, 56, 57, 58, 59, 60, 61, 62, 63] (by decide +kernel) (by decide +kernel)
set_option maxRecDepth 20000 in
theorem gX4_goOn_X1_isReady : GoodIn wsX4_goOn (wsV RX4 82 RX1 yX1_isReady wsX1_isReady) := goodIn_app (goodIn_of _ (by decide +kernel)) ggX4_goOn_X1_isReady
theorem dX4_goOn_0 : decode cX4_goOn 0 = .ok (.aload_n 1, 1) := by decide +kernel
theorem dX4_goOn_1 : decode cX4_goOn 1 = .ok (.iload_n 2, 1) := by decide +kernel
theorem dX4_goOn_2 : decode cX4_goOn 2 = .ok (.invokevirtual 75, 3) := by decide +kernel
theorem dX4_goOn_5 : decode cX4_goOn 5 = .ok (.iload_n 3, 1) := by decide +kernel
theorem dX4_goOn_6 : decode cX4_goOn 6 = .ok (.iconst (-1), 1) := by decide +kernel
theorem dX4_goOn_7 : decode cX4_goOn 7 = .ok (.ixor, 1) := by decide +kernel
theorem dX4_goOn_8 : decode cX4_goOn 8 = .ok (.iand, 1) := by decide +kernel
theorem dX4_goOn_9 : decode cX4_goOn 9 = .ok (.istore 4, 2) := by decide +kernel
theorem dX4_goOn_11 : decode cX4_goOn 11 = .ok (.iconst 0, 1) := by decide +kernel
theorem dX4_goOn_12 : decode cX4_goOn 12 = .ok (.istore 5, 2) := by decide +kernel
theorem dX4_goOn_14 : decode cX4_goOn 14 = .ok (.iconst 0, 1) := by decide +kernel
theorem dX4_goOn_15 : decode cX4_goOn 15 = .ok (.istore 6, 2) := by decide +kernel
theorem dX4_goOn_17 : decode cX4_goOn 17 = .ok (.iload 6, 2) := by decide +kernel
theorem dX4_goOn_19 : decode cX4_goOn 19 = .ok (.aload_n 1, 1) := by decide +kernel
theorem dX4_goOn_20 : decode cX4_goOn 20 = .ok (.getfield 51, 3) := by decide +kernel
theorem dX4_goOn_23 : decode cX4_goOn 23 = .ok (.if_icmp .ge 63, 3) := by decide +kernel
theorem dX4_goOn_26 : decode cX4_goOn 26 = .ok (.iload_n 2, 1) := by decide +kernel
theorem dX4_goOn_27 : decode cX4_goOn 27 = .ok (.iconst 1, 1) := by decide +kernel
theorem dX4_goOn_28 : decode cX4_goOn 28 = .ok (.iload 6, 2) := by decide +kernel
theorem dX4_goOn_30 : decode cX4_goOn 30 = .ok (.ishl, 1) := by decide +kernel
theorem dX4_goOn_31 : decode cX4_goOn 31 = .ok (.ior, 1) := by decide +kernel
theorem dX4_goOn_32 : decode cX4_goOn 32 = .ok (.istore 7, 2) := by decide +kernel
theorem dX4_goOn_34 : decode cX4_goOn 34 = .ok (.iload 7, 2) := by decide +kernel
theorem dX4_goOn_36 : decode cX4_goOn 36 = .ok (.iload_n 2, 1) := by decide +kernel
theorem dX4_goOn_37 : decode cX4_goOn 37 = .ok (.if_icmp .eq 43, 3) := by decide +kernel
theorem dX4_goOn_40 : decode cX4_goOn 40 = .ok (.iload 7, 2) := by decide +kernel
theorem dX4_goOn_42 : decode cX4_goOn 42 = .ok (.sipush 1024, 3) := by decide +kernel
theorem dX4_goOn_45 : decode cX4_goOn 45 = .ok (.if_icmp .ge 35, 3) := by decide +kernel
theorem dX4_goOn_48 : decode cX4_goOn 48 = .ok (.aload_n 1, 1) := by decide +kernel
theorem dX4_goOn_49 : decode cX4_goOn 49 = .ok (.getfield 78, 3) := by decide +kernel
theorem dX4_goOn_52 : decode cX4_goOn 52 = .ok (.iload 6, 2) := by decide +kernel
theorem dX4_goOn_54 : decode cX4_goOn 54 = .ok (.aaload, 1) := by decide +kernel
theorem dX4_goOn_55 : decode cX4_goOn 55 = .ok (.iload 4, 2) := by decide +kernel
theorem dX4_goOn_57 : decode cX4_goOn 57 = .ok (.invokevirtual 82, 3) := by decide +kernel
theorem dX4_goOn_60 : decode cX4_goOn 60 = .ok (.ifCond .eq 20, 3) := by decide +kernel
theorem dX4_goOn_63 : decode cX4_goOn 63 = .ok (.aload_n 0, 1) := by decide +kernel
theorem dX4_goOn_64 : decode cX4_goOn 64 = .ok (.getfield 9, 3) := by decide +kernel
theorem dX4_goOn_67 : decode cX4_goOn 67 = .ok (.iload 7, 2) := by decide +kernel
theorem dX4_goOn_69 : decode cX4_goOn 69 = .ok (.iconst 1, 1) := by decide +kernel
theorem dX4_goOn_70 : decode cX4_goOn 70 = .ok (.bastore, 1) := by decide +kernel
theorem dX4_goOn_71 : decode cX4_goOn 71 = .ok (.iload 5, 2) := by decide +kernel
theorem dX4_goOn_73 : decode cX4_goOn 73 = .ok (.iconst 1, 1) := by decide +kernel
theorem dX4_goOn_74 : decode cX4_goOn 74 = .ok (.iload 6, 2) := by decide +kernel
theorem dX4_goOn_76 : decode cX4_goOn 76 = .ok (.ishl, 1) := by decide +kernel
theorem dX4_goOn_77 : decode cX4_goOn 77 = .ok (.ior, 1) := by decide +kernel
theorem dX4_goOn_78 : decode cX4_goOn 78 = .ok (.istore 5, 2) := by decide +kernel
theorem dX4_goOn_80 : decode cX4_goOn 80 = .ok (.iinc 6 1, 3) := by decide +kernel
theorem dX4_goOn_83 : decode cX4_goOn 83 = .ok (.goto (-66), 3) := by decide +kernel
theorem dX4_goOn_86 : decode cX4_goOn 86 = .ok (.aload_n 0, 1) := by decide +kernel
theorem dX4_goOn_87 : decode cX4_goOn 87 = .ok (.getfield 15, 3) := by decide +kernel
theorem dX4_goOn_90 : decode cX4_goOn 90 = .ok (.iload_n 2, 1) := by decide +kernel
theorem dX4_goOn_91 : decode cX4_goOn 91 = .ok (.iload 5, 2) := by decide +kernel
theorem dX4_goOn_93 : decode cX4_goOn 93 = .ok (.iastore, 1) := by decide +kernel
theorem dX4_goOn_94 : decode cX4_goOn 94 = .ok (.return_, 1) := by decide +kernel
set_option maxRecDepth 20000 in
theorem ggX4_leastYet_X6_isIn : GoodIn wsX4_leastYet wsX6_isIn := goodIn_r _ [5] (by decide +kernel) (by decide +kernel)
set_option maxRecDepth 20000 in
theorem gX4_leastYet_X6_isIn_n54 : GoodIn wsX4_leastYet (wsX6_isIn) := ggX4_leastYet_X6_isIn
set_option maxRecDepth 20000 in
theorem ggX4_leastYet_X4_yetBehind : GoodIn wsX4_leastYet wsX4_yetBehind := goodIn_r _ [10, 11, 24, 25, 26] (by decide +kernel) (by decide +kernel)
set_option maxRecDepth 20000 in
theorem gX4_leastYet_X4_yetBehind : GoodIn wsX4_leastYet (wsV RX4 40 RX4 yX4_yetBehind wsX4_yetBehind) := goodIn_app (goodIn_of _ (by decide +kernel)) ggX4_leastYet_X4_yetBehind
theorem dX4_leastYet_0 : decode cX4_leastYet 0 = .ok (.iconst (-1), 1) := by decide +kernel
theorem dX4_leastYet_1 : decode cX4_leastYet 1 = .ok (.istore_n 3, 1) := by decide +kernel
theorem dX4_leastYet_2 : decode cX4_leastYet 2 = .ok (.iconst 0, 1) := by decide +kernel
theorem dX4_leastYet_3 : decode cX4_leastYet 3 = .ok (.istore 4, 2) := by decide +kernel
theorem dX4_leastYet_5 : decode cX4_leastYet 5 = .ok (.iload 4, 2) := by decide +kernel
theorem dX4_leastYet_7 : decode cX4_leastYet 7 = .ok (.aload_n 1, 1) := by decide +kernel
theorem dX4_leastYet_8 : decode cX4_leastYet 8 = .ok (.getfield 51, 3) := by decide +kernel
theorem dX4_leastYet_11 : decode cX4_leastYet 11 = .ok (.if_icmp .ge 63, 3) := by decide +kernel
theorem dX4_leastYet_14 : decode cX4_leastYet 14 = .ok (.aload_n 0, 1) := by decide +kernel
theorem dX4_leastYet_15 : decode cX4_leastYet 15 = .ok (.getfield 15, 3) := by decide +kernel
theorem dX4_leastYet_18 : decode cX4_leastYet 18 = .ok (.iload_n 2, 1) := by decide +kernel
theorem dX4_leastYet_19 : decode cX4_leastYet 19 = .ok (.iaload, 1) := by decide +kernel
theorem dX4_leastYet_20 : decode cX4_leastYet 20 = .ok (.iload 4, 2) := by decide +kernel
theorem dX4_leastYet_22 : decode cX4_leastYet 22 = .ok (.invokestatic 54, 3) := by decide +kernel
theorem dX4_leastYet_25 : decode cX4_leastYet 25 = .ok (.ifCond .eq 16, 3) := by decide +kernel
theorem dX4_leastYet_28 : decode cX4_leastYet 28 = .ok (.aload_n 0, 1) := by decide +kernel
theorem dX4_leastYet_29 : decode cX4_leastYet 29 = .ok (.iload_n 2, 1) := by decide +kernel
theorem dX4_leastYet_30 : decode cX4_leastYet 30 = .ok (.iconst 1, 1) := by decide +kernel
theorem dX4_leastYet_31 : decode cX4_leastYet 31 = .ok (.iload 4, 2) := by decide +kernel
theorem dX4_leastYet_33 : decode cX4_leastYet 33 = .ok (.ishl, 1) := by decide +kernel
theorem dX4_leastYet_34 : decode cX4_leastYet 34 = .ok (.ior, 1) := by decide +kernel
theorem dX4_leastYet_35 : decode cX4_leastYet 35 = .ok (.invokevirtual 40, 3) := by decide +kernel
theorem dX4_leastYet_38 : decode cX4_leastYet 38 = .ok (.goto 4, 3) := by decide +kernel
theorem dX4_leastYet_41 : decode cX4_leastYet 41 = .ok (.iconst (-1), 1) := by decide +kernel
theorem dX4_leastYet_42 : decode cX4_leastYet 42 = .ok (.istore 5, 2) := by decide +kernel
theorem dX4_leastYet_44 : decode cX4_leastYet 44 = .ok (.iload 5, 2) := by decide +kernel
theorem dX4_leastYet_46 : decode cX4_leastYet 46 = .ok (.iconst (-1), 1) := by decide +kernel
theorem dX4_leastYet_47 : decode cX4_leastYet 47 = .ok (.if_icmp .eq 21, 3) := by decide +kernel
theorem dX4_leastYet_50 : decode cX4_leastYet 50 = .ok (.iload_n 3, 1) := by decide +kernel
theorem dX4_leastYet_51 : decode cX4_leastYet 51 = .ok (.iconst (-1), 1) := by decide +kernel
theorem dX4_leastYet_52 : decode cX4_leastYet 52 = .ok (.if_icmp .eq 11, 3) := by decide +kernel
theorem dX4_leastYet_55 : decode cX4_leastYet 55 = .ok (.iload 5, 2) := by decide +kernel
theorem dX4_leastYet_57 : decode cX4_leastYet 57 = .ok (.iconst 1, 1) := by decide +kernel
theorem dX4_leastYet_58 : decode cX4_leastYet 58 = .ok (.iadd, 1) := by decide +kernel
theorem dX4_leastYet_59 : decode cX4_leastYet 59 = .ok (.iload_n 3, 1) := by decide +kernel
theorem dX4_leastYet_60 : decode cX4_leastYet 60 = .ok (.if_icmp .ge 8, 3) := by decide +kernel
theorem dX4_leastYet_63 : decode cX4_leastYet 63 = .ok (.iload 5, 2) := by decide +kernel
theorem dX4_leastYet_65 : decode cX4_leastYet 65 = .ok (.iconst 1, 1) := by decide +kernel
theorem dX4_leastYet_66 : decode cX4_leastYet 66 = .ok (.iadd, 1) := by decide +kernel
theorem dX4_leastYet_67 : decode cX4_leastYet 67 = .ok (.istore_n 3, 1) := by decide +kernel
theorem dX4_leastYet_68 : decode cX4_leastYet 68 = .ok (.iinc 4 1, 3) := by decide +kernel
theorem dX4_leastYet_71 : decode cX4_leastYet 71 = .ok (.goto (-66), 3) := by decide +kernel
theorem dX4_leastYet_74 : decode cX4_leastYet 74 = .ok (.iload_n 3, 1) := by decide +kernel
theorem dX4_leastYet_75 : decode cX4_leastYet 75 = .ok (.ireturn, 1) := by decide +kernel
theorem dX5_init_0 : decode cX5_init 0 = .ok (.aload_n 0, 1) := by decide +kernel
theorem dX5_init_1 : decode cX5_init 1 = .ok (.invokespecial 3, 3) := by decide +kernel
theorem dX5_init_4 : decode cX5_init 4 = .ok (.return_, 1) := by decide +kernel
theorem dX5_copyFrom_0 : decode cX5_copyFrom 0 = .ok (.aload_n 0, 1) := by decide +kernel
theorem dX5_copyFrom_1 : decode cX5_copyFrom 1 = .ok (.aload_n 1, 1) := by decide +kernel
theorem dX5_copyFrom_2 : decode cX5_copyFrom 2 = .ok (.getfield 9, 3) := by decide +kernel
theorem dX5_copyFrom_5 : decode cX5_copyFrom 5 = .ok (.putfield 9, 3) := by decide +kernel
theorem dX5_copyFrom_8 : decode cX5_copyFrom 8 = .ok (.aload_n 0, 1) := by decide +kernel
theorem dX5_copyFrom_9 : decode cX5_copyFrom 9 = .ok (.aload_n 1, 1) := by decide +kernel
theorem dX5_copyFrom_10 : decode cX5_copyFrom 10 = .ok (.getfield 15, 3) := by decide +kernel
theorem dX5_copyFrom_13 : decode cX5_copyFrom 13 = .ok (.putfield 15, 3) := by decide +kernel
theorem dX5_copyFrom_16 : decode cX5_copyFrom 16 = .ok (.aload_n 0, 1) := by decide +kernel
theorem dX5_copyFrom_17 : decode cX5_copyFrom 17 = .ok (.aload_n 1, 1) := by decide +kernel
theorem dX5_copyFrom_18 : decode cX5_copyFrom 18 = .ok (.getfield 18, 3) := by decide +kernel
theorem dX5_copyFrom_21 : decode cX5_copyFrom 21 = .ok (.putfield 18, 3) := by decide +kernel
theorem dX5_copyFrom_24 : decode cX5_copyFrom 24 = .ok (.aload_n 0, 1) := by decide +kernel
theorem dX5_copyFrom_25 : decode cX5_copyFrom 25 = .ok (.aload_n 1, 1) := by decide +kernel
theorem dX5_copyFrom_26 : decode cX5_copyFrom 26 = .ok (.getfield 21, 3) := by decide +kernel
theorem dX5_copyFrom_29 : decode cX5_copyFrom 29 = .ok (.putfield 21, 3) := by decide +kernel
theorem dX5_copyFrom_32 : decode cX5_copyFrom 32 = .ok (.aload_n 0, 1) := by decide +kernel
theorem dX5_copyFrom_33 : decode cX5_copyFrom 33 = .ok (.aload_n 1, 1) := by decide +kernel
theorem dX5_copyFrom_34 : decode cX5_copyFrom 34 = .ok (.getfield 24, 3) := by decide +kernel
theorem dX5_copyFrom_37 : decode cX5_copyFrom 37 = .ok (.putfield 24, 3) := by decide +kernel
theorem dX5_copyFrom_40 : decode cX5_copyFrom 40 = .ok (.return_, 1) := by decide +kernel
theorem dX5_canBeReached_0 : decode cX5_canBeReached 0 = .ok (.aload_n 0, 1) := by decide +kernel
theorem dX5_canBeReached_1 : decode cX5_canBeReached 1 = .ok (.getfield 21, 3) := by decide +kernel
theorem dX5_canBeReached_4 : decode cX5_canBeReached 4 = .ok (.ifCond .ne 27, 3) := by decide +kernel
theorem dX5_canBeReached_7 : decode cX5_canBeReached 7 = .ok (.aload_n 0, 1) := by decide +kernel
theorem dX5_canBeReached_8 : decode cX5_canBeReached 8 = .ok (.getfield 9, 3) := by decide +kernel
theorem dX5_canBeReached_11 : decode cX5_canBeReached 11 = .ok (.iconst (-1), 1) := by decide +kernel
theorem dX5_canBeReached_12 : decode cX5_canBeReached 12 = .ok (.if_icmp .eq 15, 3) := by decide +kernel
theorem dX5_canBeReached_15 : decode cX5_canBeReached 15 = .ok (.iload_n 1, 1) := by decide +kernel
theorem dX5_canBeReached_16 : decode cX5_canBeReached 16 = .ok (.aload_n 0, 1) := by decide +kernel
theorem dX5_canBeReached_17 : decode cX5_canBeReached 17 = .ok (.getfield 9, 3) := by decide +kernel
theorem dX5_canBeReached_20 : decode cX5_canBeReached 20 = .ok (.ishr, 1) := by decide +kernel
theorem dX5_canBeReached_21 : decode cX5_canBeReached 21 = .ok (.iconst 1, 1) := by decide +kernel
theorem dX5_canBeReached_22 : decode cX5_canBeReached 22 = .ok (.iand, 1) := by decide +kernel
theorem dX5_canBeReached_23 : decode cX5_canBeReached 23 = .ok (.iconst 1, 1) := by decide +kernel
theorem dX5_canBeReached_24 : decode cX5_canBeReached 24 = .ok (.if_icmp .ne 7, 3) := by decide +kernel
theorem dX5_canBeReached_27 : decode cX5_canBeReached 27 = .ok (.iconst 1, 1) := by decide +kernel
theorem dX5_canBeReached_28 : decode cX5_canBeReached 28 = .ok (.goto 4, 3) := by decide +kernel
theorem dX5_canBeReached_31 : decode cX5_canBeReached 31 = .ok (.iconst 0, 1) := by decide +kernel
theorem dX5_canBeReached_32 : decode cX5_canBeReached 32 = .ok (.ireturn, 1) := by decide +kernel
theorem dX5_layInPlace_0 : decode cX5_layInPlace 0 = .ok (.aload_n 0, 1) := by decide +kernel
theorem dX5_layInPlace_1 : decode cX5_layInPlace 1 = .ok (.iconst 0, 1) := by decide +kernel
theorem dX5_layInPlace_2 : decode cX5_layInPlace 2 = .ok (.putfield 21, 3) := by decide +kernel
theorem dX5_layInPlace_5 : decode cX5_layInPlace 5 = .ok (.aload_n 0, 1) := by decide +kernel
theorem dX5_layInPlace_6 : decode cX5_layInPlace 6 = .ok (.iconst 0, 1) := by decide +kernel
theorem dX5_layInPlace_7 : decode cX5_layInPlace 7 = .ok (.putfield 18, 3) := by decide +kernel
theorem dX5_layInPlace_10 : decode cX5_layInPlace 10 = .ok (.return_, 1) := by decide +kernel
set_option maxRecDepth 20000 in
theorem ggX6_init_X3_init : GoodIn wsX6_init wsX3_init := goodIn_r _ [15, 16, 2, 3, 17, 18, 19, 20, 21, 22, 23, 24, 25, 26, 27, 28, 29, 30, 31, 32, 33, 34, 35, 36, 37, 38, 39, 40, 41, 42, 43, 44, 45, 46, 47, 56, 57, 58, 59, 60, 61, 62, 63, 64, 65, 66, 67, 74, 75, 76, 77, 78, 79, 80, 81, 82, 83, 84, 85, 86, 87, 88, 89, 90, 91, 92, 93, 94, 95, 96, 97, 98, 99] (by decide +kernel) (by decide +kernel)
set_option maxRecDepth 20000 in
theorem gX6_init_X3_init : GoodIn wsX6_init (wsX3_init) := ggX6_init_X3_init
set_option maxRecDepth 20000 in
theorem ggX6_init_X4_init : GoodIn wsX6_init wsX4_init := goodIn_r _ [49, 50, 2, 3, 51, 52, 53, 54, 55, 71, 72, 73] (by decide +kernel) (by decide +kernel)
set_option maxRecDepth 20000 in
theorem gX6_init_X4_init_n21 : GoodIn wsX6_init (wsX4_init) := ggX6_init_X4_init
theorem dX6_init_0 : decode cX6_init 0 = .ok (.aload_n 0, 1) := by decide +kernel
theorem dX6_init_1 : decode cX6_init 1 = .ok (.invokespecial 3, 3) := by decide +kernel
theorem dX6_init_4 : decode cX6_init 4 = .ok (.aload_n 0, 1) := by decide +kernel
theorem dX6_init_5 : decode cX6_init 5 = .ok (.new 9, 3) := by decide +kernel
theorem dX6_init_8 : decode cX6_init 8 = .ok (.dup, 1) := by decide +kernel
theorem dX6_init_9 : decode cX6_init 9 = .ok (.invokespecial 11, 3) := by decide +kernel
theorem dX6_init_12 : decode cX6_init 12 = .ok (.putfield 12, 3) := by decide +kernel
theorem dX6_init_15 : decode cX6_init 15 = .ok (.aload_n 0, 1) := by decide +kernel
theorem dX6_init_16 : decode cX6_init 16 = .ok (.new 9, 3) := by decide +kernel
theorem dX6_init_19 : decode cX6_init 19 = .ok (.dup, 1) := by decide +kernel
theorem dX6_init_20 : decode cX6_init 20 = .ok (.invokespecial 11, 3) := by decide +kernel
theorem dX6_init_23 : decode cX6_init 23 = .ok (.putfield 16, 3) := by decide +kernel
theorem dX6_init_26 : decode cX6_init 26 = .ok (.aload_n 0, 1) := by decide +kernel
theorem dX6_init_27 : decode cX6_init 27 = .ok (.new 19, 3) := by decide +kernel
theorem dX6_init_30 : decode cX6_init 30 = .ok (.dup, 1) := by decide +kernel
theorem dX6_init_31 : decode cX6_init 31 = .ok (.invokespecial 21, 3) := by decide +kernel
theorem dX6_init_34 : decode cX6_init 34 = .ok (.putfield 22, 3) := by decide +kernel
theorem dX6_init_37 : decode cX6_init 37 = .ok (.return_, 1) := by decide +kernel
set_option maxRecDepth 20000 in
theorem ggX6_lock_X6_isWithin : GoodIn wsX6_lock wsX6_isWithin := goodIn_r _ [12] (by decide +kernel) (by decide +kernel)
set_option maxRecDepth 20000 in
theorem gX6_lock_X6_isWithin : GoodIn wsX6_lock (va_wsS RX6 26 yX6_isWithin wsX6_isWithin) := goodIn_app (goodIn_of _ (by decide +kernel)) ggX6_lock_X6_isWithin
set_option maxRecDepth 20000 in
theorem ggX6_lock_X3_addLock : GoodIn wsX6_lock wsX3_addLock := goodIn_r _ [17, 18, 19, 20, 21, 22, 23, 24, 28, 29, 30, 31, 32, 33, 34, 35, 36, 37, 38, 39, 47, 48, 49, 50, 51, 52, 53, 54, 55, 56] (by decide +kernel) (by decide +kernel)
set_option maxRecDepth 20000 in
theorem gX6_lock_X3_addLock : GoodIn wsX6_lock (wsV RX6 56 RX3 yX3_addLock wsX3_addLock) := goodIn_app (goodIn_of _ (by decide +kernel)) ggX6_lock_X3_addLock
theorem dX6_lock_0 : decode cX6_lock 0 = .ok (.iload_n 1, 1) := by decide +kernel
theorem dX6_lock_1 : decode cX6_lock 1 = .ok (.ifCond .lt 28, 3) := by decide +kernel
theorem dX6_lock_4 : decode cX6_lock 4 = .ok (.iload_n 1, 1) := by decide +kernel
theorem dX6_lock_5 : decode cX6_lock 5 = .ok (.sipush 4095, 3) := by decide +kernel
