theorem q_in {big : List Cond} (ws : List Cond) (ps : List Nat) (hp : ws = ps.filterMap (fun i => big[i]?)) : ∀ w ∈ ws, w ∈ big := fun w hw => by
  rw [hp] at hw
  obtain ⟨i, -, hi⟩ := List.mem_filterMap.mp hw
  exact List.mem_of_getElem? hi
set_option maxRecDepth 20000 in
theorem zin_Jx35411 : ∀ w ∈ u_ws RJx35411 TJx35411 4, w ∈ lw_tbl := q_in _ [1106, 1108, 1110, 1112] (by decide +kernel)
set_option maxRecDepth 20000 in
theorem zin_Jx4a65c : ∀ w ∈ u_ws RJx4a65c TJx4a65c 3, w ∈ lw_tbl := q_in _ [895, 891, 893] (by decide +kernel)
set_option maxRecDepth 20000 in
theorem zin_X0 : ∀ w ∈ u_ws RX0 TX0 7, w ∈ lw_tbl := q_in _ [105, 107, 109, 111, 113, 115, 117] (by decide +kernel)
set_option maxRecDepth 20000 in
theorem zin_X1 : ∀ w ∈ u_ws RX1 TX1 10, w ∈ lw_tbl := q_in _ [152, 154, 156, 158, 160, 162, 164, 166, 168, 170] (by decide +kernel)
set_option maxRecDepth 20000 in
theorem zin_X2 : ∀ w ∈ u_ws RX2 TX2 4, w ∈ lw_tbl := q_in _ [213, 215, 217, 219] (by decide +kernel)
set_option maxRecDepth 20000 in
theorem zin_X3 : ∀ w ∈ u_ws RX3 TX3 12, w ∈ lw_tbl := q_in _ [247, 249, 251, 253, 255, 257, 259, 261, 263, 265, 267, 269] (by decide +kernel)
set_option maxRecDepth 20000 in
theorem zin_X4 : ∀ w ∈ u_ws RX4 TX4 3, w ∈ lw_tbl := q_in _ [281, 283, 285] (by decide +kernel)
set_option maxRecDepth 20000 in
theorem zin_X5 : ∀ w ∈ u_ws RX5 TX5 5, w ∈ lw_tbl := q_in _ [189, 191, 193, 195, 197] (by decide +kernel)
set_option maxRecDepth 20000 in
theorem zin_X6 : ∀ w ∈ u_ws RX6 TX6 3, w ∈ lw_tbl := q_in _ [293, 295, 297] (by decide +kernel)
set_option maxRecDepth 20000 in
theorem zin_X7 : ∀ w ∈ u_ws RX7 TX7 14, w ∈ lw_tbl := q_in _ [925, 927, 929, 931, 933, 935, 937, 939, 941, 943, 945, 947, 949, 951] (by decide +kernel)
set_option maxRecDepth 20000 in
theorem zin_X8 : ∀ w ∈ u_ws RX8 TX8 4, w ∈ lw_tbl := q_in _ [958, 960, 962, 964] (by decide +kernel)
set_option maxRecDepth 20000 in
theorem zlf_0 : GoodIn lw_tbl (wsX6_init_r1) := goodIn_r _ [66, 67, 68, 69, 70, 36, 290, 291, 272, 273, 41, 292, 71, 72, 73, 74, 75, 222, 77, 225, 79, 227, 81, 82] (by decide +kernel) (by decide +kernel)
set_option maxRecDepth 20000 in
theorem zlf_1 : GoodIn lw_tbl (wsX6_init_r2) := goodIn_r _ [37, 228, 238, 240, 120, 38, 173, 39, 200, 40, 84, 85, 86, 101, 122, 123, 124, 175, 176, 177, 202, 203, 204, 275] (by decide +kernel) (by decide +kernel)
set_option maxRecDepth 20000 in
theorem zlf_2 : GoodIn lw_tbl (wsX6_init_r3) := goodIn_r _ [276, 277, 288, 278, 289, 279, 280] (by decide +kernel) (by decide +kernel)
set_option maxRecDepth 20000 in
theorem zlf_3 : GoodIn lw_tbl wsX30 := goodIn_sub zin_X3 (by decide +kernel)
set_option maxRecDepth 20000 in
theorem zlf_4 : GoodIn lw_tbl wsX60 := goodIn_sub zin_X6 (by decide +kernel)
set_option maxRecDepth 20000 in
theorem zlf_5 : GoodIn lw_tbl wsX40 := goodIn_sub zin_X4 (by decide +kernel)
set_option maxRecDepth 20000 in
theorem zlf_6 : GoodIn lw_tbl wsX00 := goodIn_sub zin_X0 (by decide +kernel)
set_option maxRecDepth 20000 in
theorem zlf_7 : GoodIn lw_tbl wsX10 := goodIn_sub zin_X1 (by decide +kernel)
set_option maxRecDepth 20000 in
theorem zlf_8 : GoodIn lw_tbl wsX50 := goodIn_sub zin_X5 (by decide +kernel)
set_option maxRecDepth 20000 in
theorem zlf_9 : GoodIn lw_tbl wsX20 := goodIn_sub zin_X2 (by decide +kernel)
set_option maxRecDepth 20000 in
theorem zhd_X6_init : GoodIn lw_tbl [Cond.code yX6_init cX6_init 1 none] := goodIn_r _ [65] (by decide +kernel) (by decide +kernel)
theorem zggL_X6_init : GoodIn lw_tbl wsX6_init := fun w h => (List.mem_cons.mp h).elim (fun e => zhd_X6_init w (by rw [e]; exact List.mem_cons_self)) ((goodIn_app (goodIn_app (goodIn_app (goodIn_app (goodIn_app (goodIn_app (goodIn_app (goodIn_app zlf_0 (goodIn_app zlf_1 zlf_2)) zlf_3) zlf_4) zlf_5) zlf_6) zlf_7) zlf_8) zlf_9) w)
set_option maxRecDepth 20000 in
theorem zgL_X6_init : GoodIn lw_tbl (wsX6_init) := zggL_X6_init
set_option maxRecDepth 20000 in
theorem zlf_10 : GoodIn lw_tbl (wsX8_init_r1) := goodIn_r _ [862, 67, 68, 863, 864, 43, 955, 956, 866, 867, 868, 869, 870, 46, 898, 900, 902, 904, 918, 871, 872, 873, 881, 883] (by decide +kernel) (by decide +kernel)
set_option maxRecDepth 20000 in
theorem zlf_11 : GoodIn lw_tbl (wsX8_init_r2) := goodIn_r _ [874, 875, 45, 876, 887, 877, 878, 44, 879, 880] (by decide +kernel) (by decide +kernel)
set_option maxRecDepth 20000 in
theorem zlf_12 : GoodIn lw_tbl wsX70 := goodIn_sub zin_X7 (by decide +kernel)
set_option maxRecDepth 20000 in
theorem zlf_13 : GoodIn lw_tbl wsX80 := goodIn_sub zin_X8 (by decide +kernel)
set_option maxRecDepth 20000 in
theorem zlf_14 : GoodIn lw_tbl wsJx4a65c0 := goodIn_sub zin_Jx4a65c (by decide +kernel)
set_option maxRecDepth 20000 in
theorem zhd_X8_init : GoodIn lw_tbl [Cond.code yX8_init cX8_init 1 none] := goodIn_r _ [861] (by decide +kernel) (by decide +kernel)
theorem zggL_X8_init : GoodIn lw_tbl wsX8_init := fun w h => (List.mem_cons.mp h).elim (fun e => zhd_X8_init w (by rw [e]; exact List.mem_cons_self)) ((goodIn_app (goodIn_app (goodIn_app (goodIn_app zlf_10 zlf_11) zlf_12) zlf_13) zlf_14) w)
set_option maxRecDepth 20000 in
theorem zgL_X8_init : GoodIn lw_tbl (wsX8_init) := zggL_X8_init
set_option maxRecDepth 20000 in
theorem zlf_15 : GoodIn lw_tbl (wsL_lock_r1) := goodIn_r _ [557, 559, 560, 561, 35, 562, 566, 50, 634, 51, 290, 231, 229, 88, 563, 564, 565, 650, 651, 652, 36, 653, 230, 222] (by decide +kernel) (by decide +kernel)
set_option maxRecDepth 20000 in
theorem zlf_16 : GoodIn lw_tbl (wsL_lock_r2) := goodIn_r _ [126, 128, 130, 133, 238] (by decide +kernel) (by decide +kernel)
set_option maxRecDepth 20000 in
theorem zlf_17 : GoodIn lw_tbl ((vx_atS RX6 34 "java/lang/IllegalArgumentException" ["java/lang/RuntimeException", "java/lang/Exception"]).filter goodWord) := goodIn_sub (by decide +kernel) (by decide +kernel)
set_option maxRecDepth 20000 in
theorem zlf_18 : GoodIn lw_tbl ((vx_atS RX6 55 "java/lang/IllegalStateException" ["java/lang/RuntimeException", "java/lang/Exception"]).filter goodWord) := goodIn_sub (by decide +kernel) (by decide +kernel)
set_option maxRecDepth 20000 in
theorem zhd_L_lock : GoodIn lw_tbl [Cond.codeWith yL_lock cL_lock 8 (some .int) [(0, 16, 19, 13), (0, 16, 23, 15)]] := goodIn_r _ [556] (by decide +kernel) (by decide +kernel)
theorem zggL_L_lock : GoodIn lw_tbl wsL_lock := fun w h => (List.mem_cons.mp h).elim (fun e => zhd_L_lock w (by rw [e]; exact List.mem_cons_self)) ((goodIn_app (goodIn_app (goodIn_app (goodIn_app (goodIn_app (goodIn_app (goodIn_app zlf_15 zlf_16) zlf_4) zlf_3) zlf_6) zlf_7) zlf_17) zlf_18) w)
set_option maxRecDepth 20000 in
theorem zgL_L_lock : GoodIn lw_tbl (va_wsS RL 74 yL_lock wsL_lock) := goodIn_app (goodIn_r _ [554, 555, 34] (by decide +kernel) (by decide +kernel)) zggL_L_lock
set_option maxRecDepth 20000 in
theorem zlf_19 : GoodIn lw_tbl (wsX8_lock_r1) := goodIn_r _ [954, 955, 289, 975, 976, 42, 977, 978, 980, 16, 981, 982, 983, 984, 46, 985, 886, 986, 987, 988, 989, 890, 889, 883] (by decide +kernel) (by decide +kernel)
set_option maxRecDepth 20000 in
theorem zlf_20 : GoodIn lw_tbl (wsX8_lock_r2) := goodIn_r _ [990, 992, 17, 993, 994, 996, 18, 997, 998, 1000, 19, 1001, 881, 1043, 1006, 53, 1007, 1044, 1002, 1003, 52, 1004, 1005, 1008] (by decide +kernel) (by decide +kernel)
set_option maxRecDepth 20000 in
theorem zlf_21 : GoodIn lw_tbl (wsX8_lock_r3) := goodIn_r _ [1009, 1010, 1011, 1012, 1013, 54, 1014, 1015, 1380, 1016, 1032, 1033, 1034, 1035, 1036, 1038, 1039, 340, 341, 1040, 1042, 1041, 55] (by decide +kernel) (by decide +kernel)
set_option maxRecDepth 20000 in
theorem zhd_X8_lock : GoodIn lw_tbl [Cond.code yX8_lock cX8_lock 7 (some .int)] := goodIn_r _ [974] (by decide +kernel) (by decide +kernel)
theorem zggL_X8_lock : GoodIn lw_tbl wsX8_lock := fun w h => (List.mem_cons.mp h).elim (fun e => zhd_X8_lock w (by rw [e]; exact List.mem_cons_self)) ((goodIn_app (goodIn_app (goodIn_app (goodIn_app zlf_19 (goodIn_app zlf_20 zlf_21)) zlf_13) zlf_12) zlf_14) w)
set_option maxRecDepth 20000 in
theorem zgL_X8_lock : GoodIn lw_tbl (wsV RL 79 RX8 yX8_lock wsX8_lock) := goodIn_app (goodIn_r _ [971, 972, 973, 42] (by decide +kernel) (by decide +kernel)) zggL_X8_lock
set_option maxRecDepth 20000 in
theorem zlf_22 : GoodIn lw_tbl ([.fieldLink RX8 20 "LockRoomsModel" "thrown" "I"]) := goodIn_r _ [954] (by decide +kernel) (by decide +kernel)
set_option maxRecDepth 20000 in
theorem zhd_X8_thrown : GoodIn lw_tbl [Cond.code yX8_thrown cX8_thrown 1 (some .int)] := goodIn_r _ [970] (by decide +kernel) (by decide +kernel)
theorem zggL_X8_thrown : GoodIn lw_tbl wsX8_thrown := fun w h => (List.mem_cons.mp h).elim (fun e => zhd_X8_thrown w (by rw [e]; exact List.mem_cons_self)) ((goodIn_app zlf_22 zlf_13) w)
set_option maxRecDepth 20000 in
theorem zgL_X8_thrown : GoodIn lw_tbl (wsV RL 133 RX8 yX8_thrown wsX8_thrown) := goodIn_app (goodIn_r _ [967, 968, 969, 42] (by decide +kernel) (by decide +kernel)) zggL_X8_thrown
set_option maxRecDepth 20000 in
theorem zlf_23 : GoodIn lw_tbl (wsL_thing_r1) := goodIn_r _ [657, 658, 659, 660, 35, 661, 663, 56, 566, 50, 634, 51, 290, 234, 229, 88, 662, 464, 465, 36, 466, 230, 563, 564] (by decide +kernel) (by decide +kernel)
set_option maxRecDepth 20000 in
theorem zlf_24 : GoodIn lw_tbl (wsL_thing_r2) := goodIn_r _ [565, 681, 682, 683, 684, 233, 225, 179, 181] (by decide +kernel) (by decide +kernel)
set_option maxRecDepth 20000 in
theorem zlf_25 : GoodIn lw_tbl ((vx_atS RX6 68 "java/lang/IndexOutOfBoundsException" ["java/lang/RuntimeException", "java/lang/Exception"]).filter goodWord) := goodIn_sub (by decide +kernel) (by decide +kernel)
set_option maxRecDepth 20000 in
theorem zhd_L_thing : GoodIn lw_tbl [Cond.codeWith yL_thing cL_thing 5 (some .int) [(0, 10, 13, 21), (0, 10, 17, 13), (0, 10, 21, 15)]] := goodIn_r _ [656] (by decide +kernel) (by decide +kernel)
theorem zggL_L_thing : GoodIn lw_tbl wsL_thing := fun w h => (List.mem_cons.mp h).elim (fun e => zhd_L_thing w (by rw [e]; exact List.mem_cons_self)) ((goodIn_app (goodIn_app (goodIn_app (goodIn_app (goodIn_app (goodIn_app (goodIn_app (goodIn_app zlf_23 zlf_24) zlf_4) zlf_3) zlf_6) zlf_8) zlf_25) zlf_17) zlf_18) w)
set_option maxRecDepth 20000 in
theorem zggM_L_thing : GoodIn lw_tbl zwsL_thing := goodIn_app zggL_L_thing (goodIn_sub (by decide +kernel) (by decide +kernel))
set_option maxRecDepth 20000 in
theorem zgL_L_thing : GoodIn lw_tbl (va_wsS RL 80 yL_thing zwsL_thing) := goodIn_app (goodIn_r _ [654, 655, 34] (by decide +kernel) (by decide +kernel)) zggM_L_thing
set_option maxRecDepth 20000 in
theorem zlf_26 : GoodIn lw_tbl (wsX8_thing_r1) := goodIn_r _ [954, 955, 289, 1049, 1051, 20, 42, 1052, 982, 983, 984, 46, 985, 886, 975, 976, 977, 978, 980, 16, 981, 986, 987, 988] (by decide +kernel) (by decide +kernel)
set_option maxRecDepth 20000 in
theorem zlf_27 : GoodIn lw_tbl (wsX8_thing_r2) := goodIn_r _ [989, 890, 889, 883, 990, 992, 17, 993, 994, 996, 18, 997, 998, 1000, 19, 1001, 881, 1043, 1006, 53, 1007, 1044, 1002, 1003] (by decide +kernel) (by decide +kernel)
set_option maxRecDepth 20000 in
theorem zlf_28 : GoodIn lw_tbl (wsX8_thing_r3) := goodIn_r _ [52, 1004, 1005, 1008, 1009, 1010, 1011, 1012, 1013, 54, 1014, 1015, 1380, 1016, 1032, 1033, 1034, 1035, 1036, 1038, 1039, 340, 341, 1040] (by decide +kernel) (by decide +kernel)
set_option maxRecDepth 20000 in
theorem zlf_29 : GoodIn lw_tbl (wsX8_thing_r4) := goodIn_r _ [1042, 1041, 55] (by decide +kernel) (by decide +kernel)
set_option maxRecDepth 20000 in
theorem zhd_X8_thing : GoodIn lw_tbl [Cond.code yX8_thing cX8_thing 4 (some .int)] := goodIn_r _ [1048] (by decide +kernel) (by decide +kernel)
theorem zggL_X8_thing : GoodIn lw_tbl wsX8_thing := fun w h => (List.mem_cons.mp h).elim (fun e => zhd_X8_thing w (by rw [e]; exact List.mem_cons_self)) ((goodIn_app (goodIn_app (goodIn_app (goodIn_app zlf_26 (goodIn_app zlf_27 (goodIn_app zlf_28 zlf_29))) zlf_13) zlf_12) zlf_14) w)
set_option maxRecDepth 20000 in
theorem zgL_X8_thing : GoodIn lw_tbl (wsV RL 83 RX8 yX8_thing wsX8_thing) := goodIn_app (goodIn_r _ [1045, 1046, 1047, 42] (by decide +kernel) (by decide +kernel)) zggL_X8_thing
set_option maxRecDepth 20000 in
theorem zlf_30 : GoodIn lw_tbl (wsX6_digest_r1) := goodIn_r _ [505, 290, 506, 507, 508, 36, 509, 242, 230, 233, 236, 228, 89, 92, 98, 100, 102, 244, 95, 238, 240, 246, 384, 35] (by decide +kernel) (by decide +kernel)
set_option maxRecDepth 20000 in
theorem zlf_31 : GoodIn lw_tbl (wsX6_digest_r2) := goodIn_r _ [385, 491, 343, 344, 345, 222, 136, 510, 415, 416, 417, 354, 355, 356, 357, 225, 186, 418, 363, 364, 38, 365, 135, 138] (by decide +kernel) (by decide +kernel)
set_option maxRecDepth 20000 in
theorem zlf_32 : GoodIn lw_tbl (wsX6_digest_r3) := goodIn_r _ [125, 511, 512, 513, 514, 515, 517, 12, 518, 231, 519, 520, 521, 522, 126, 128, 130, 133, 143, 146, 149, 140, 463, 464] (by decide +kernel) (by decide +kernel)
set_option maxRecDepth 20000 in
theorem zlf_33 : GoodIn lw_tbl (wsX6_digest_r4) := goodIn_r _ [465, 466, 523, 525, 13, 526, 234, 527, 528, 529, 530, 179, 181, 183, 492, 493, 494, 495, 358, 359, 360, 39, 361, 184] (by decide +kernel) (by decide +kernel)
set_option maxRecDepth 20000 in
theorem zlf_34 : GoodIn lw_tbl (wsX6_digest_r5) := goodIn_r _ [178, 531, 532, 533, 534, 309, 310, 535, 537, 14, 538, 237, 539, 540, 541, 542, 227, 206, 208, 210, 212, 543, 544, 545] (by decide +kernel) (by decide +kernel)
set_option maxRecDepth 20000 in
theorem zlf_35 : GoodIn lw_tbl (wsX6_digest_r6) := goodIn_r _ [546, 547, 324, 325, 326, 292, 327, 328, 329, 41, 330, 331, 333, 0, 334, 278, 280, 239, 335, 337, 1, 338, 232, 339] (by decide +kernel) (by decide +kernel)
set_option maxRecDepth 20000 in
theorem zlf_36 : GoodIn lw_tbl (wsX6_digest_r7) := goodIn_r _ [340, 53, 341, 342, 346, 348, 2, 349, 224, 279, 350, 351, 352, 353, 362, 367, 369, 3, 370, 371, 373, 4, 374, 548] (by decide +kernel) (by decide +kernel)
set_option maxRecDepth 20000 in
theorem zlf_37 : GoodIn lw_tbl (wsX6_digest_r8) := goodIn_r _ [376, 377, 378, 379, 380, 381, 382, 549, 387, 388, 389, 390, 391, 392, 393, 550, 395, 396, 397, 551, 399, 400, 401, 402] (by decide +kernel) (by decide +kernel)
set_option maxRecDepth 20000 in
theorem zlf_38 : GoodIn lw_tbl (wsX6_digest_r9) := goodIn_r _ [403, 404, 405, 235, 552, 407, 408, 409, 410, 411, 412, 413, 414, 553, 420, 421, 422, 229, 88, 291, 97, 91, 423, 424] (by decide +kernel) (by decide +kernel)
set_option maxRecDepth 20000 in
theorem zlf_39 : GoodIn lw_tbl (wsX6_digest_r10) := goodIn_r _ [425, 426, 427, 428, 429, 430, 127, 129, 132, 141, 144, 147, 150, 431, 432, 433, 434, 180, 182, 187, 435, 436, 437, 40] (by decide +kernel) (by decide +kernel)
set_option maxRecDepth 20000 in
theorem zlf_40 : GoodIn lw_tbl (wsX6_digest_r11) := goodIn_r _ [438, 205, 207, 209, 211, 439, 440, 441, 37, 442, 87, 90, 93, 96, 99, 101, 103, 443, 444, 445, 446, 447, 449, 5] (by decide +kernel) (by decide +kernel)
set_option maxRecDepth 20000 in
theorem zlf_41 : GoodIn lw_tbl (wsX6_digest_r12) := goodIn_r _ [450, 151, 188, 451, 452, 453, 454, 455, 457, 6, 458, 459, 461, 7, 462, 467, 469, 8, 470, 471, 472, 473, 474, 475] (by decide +kernel) (by decide +kernel)
set_option maxRecDepth 20000 in
theorem zlf_42 : GoodIn lw_tbl (wsX6_digest_r13) := goodIn_r _ [477, 9, 478, 479, 480, 481, 482, 483, 484, 485, 486, 487, 489, 10, 490, 496, 498, 11, 499, 311, 312, 313, 314, 315] (by decide +kernel) (by decide +kernel)
set_option maxRecDepth 20000 in
theorem zlf_43 : GoodIn lw_tbl (wsX6_digest_r14) := goodIn_r _ [316, 317, 318] (by decide +kernel) (by decide +kernel)
set_option maxRecDepth 20000 in
theorem zhd_X6_digest : GoodIn lw_tbl [Cond.code yX6_digest cX6_digest 4 (some .long)] := goodIn_r _ [504] (by decide +kernel) (by decide +kernel)
theorem zggL_X6_digest : GoodIn lw_tbl wsX6_digest := fun w h => (List.mem_cons.mp h).elim (fun e => zhd_X6_digest w (by rw [e]; exact List.mem_cons_self)) ((goodIn_app (goodIn_app (goodIn_app (goodIn_app (goodIn_app (goodIn_app (goodIn_app (goodIn_app zlf_30 (goodIn_app zlf_31 (goodIn_app zlf_32 (goodIn_app zlf_33 (goodIn_app zlf_34 (goodIn_app zlf_35 (goodIn_app zlf_36 (goodIn_app zlf_37 (goodIn_app zlf_38 (goodIn_app zlf_39 (goodIn_app zlf_40 (goodIn_app zlf_41 (goodIn_app zlf_42 zlf_43))))))))))))) zlf_4) zlf_3) zlf_6) zlf_7) zlf_8) zlf_9) zlf_5) w)
set_option maxRecDepth 20000 in
theorem zgL_X6_digest : GoodIn lw_tbl (wsV RL 173 RX6 yX6_digest wsX6_digest) := goodIn_app (goodIn_r _ [501, 502, 503, 35] (by decide +kernel) (by decide +kernel)) zggL_X6_digest
set_option maxRecDepth 20000 in
theorem zlf_44 : GoodIn lw_tbl (wsX8_digest_r1) := goodIn_r _ [954, 1350, 957, 955, 1174, 1244, 1246, 27, 42, 1247, 289, 956, 982, 983, 984, 46, 985, 886, 1248, 1249, 1250, 43, 1251, 898] (by decide +kernel) (by decide +kernel)
set_option maxRecDepth 20000 in
theorem zlf_45 : GoodIn lw_tbl (wsX8_digest_r2) := goodIn_r _ [1083, 1138, 1069, 1070, 1071, 1072, 1073, 1074, 57, 1075, 1076, 1077, 58, 1078, 1079, 1080, 1081, 1082, 883, 1252, 1253, 1254, 1255, 1143] (by decide +kernel) (by decide +kernel)
set_option maxRecDepth 20000 in
theorem zlf_46 : GoodIn lw_tbl (wsX8_digest_r3) := goodIn_r _ [1144, 1145, 1146, 1147, 1148, 1149, 1150, 900, 1189, 1351, 1353, 33, 1354, 1355, 1223, 1225, 25, 1226, 1173, 1175, 1231, 1233, 26, 1234] (by decide +kernel) (by decide +kernel)
set_option maxRecDepth 20000 in
theorem zlf_47 : GoodIn lw_tbl (wsX8_digest_r4) := goodIn_r _ [1235, 1156, 1157, 1158, 1356, 1093, 1094, 1095, 1096, 1097, 59, 1098, 1099, 1100, 1105, 1101, 67, 68, 1103, 888, 889, 1104, 1358, 1120] (by decide +kernel) (by decide +kernel)
set_option maxRecDepth 20000 in
theorem zlf_48 : GoodIn lw_tbl (wsX8_digest_r5) := goodIn_r _ [1122, 1124, 1102, 1360, 1129, 1131, 1133, 884, 1134, 1135, 1136, 1137, 1264, 1265, 1266, 1267, 1268, 1269, 1270, 1271, 1272, 1273, 1274, 1275] (by decide +kernel) (by decide +kernel)
set_option maxRecDepth 20000 in
theorem zlf_49 : GoodIn lw_tbl (wsX8_digest_r6) := goodIn_r _ [1276, 1277, 1279, 28, 1280, 1281, 1283, 29, 1284, 1285, 1287, 30, 1288, 904, 1293, 1294, 1295, 1296, 1301, 1302, 1303, 1304, 288, 1313] (by decide +kernel) (by decide +kernel)
set_option maxRecDepth 20000 in
theorem zlf_50 : GoodIn lw_tbl (wsX8_digest_r7) := goodIn_r _ [1315, 31, 1316, 1321, 1322, 1323, 1324, 1329, 1331, 32, 1332, 1333, 1334, 1335, 1336, 1337, 864, 1339, 1340, 1341, 1342, 1343, 902, 908] (by decide +kernel) (by decide +kernel)
set_option maxRecDepth 20000 in
theorem zlf_51 : GoodIn lw_tbl (wsX8_digest_r8) := goodIn_r _ [910, 1338, 866, 867, 868, 869, 870, 918, 871, 872, 873, 881, 874, 875, 45, 876, 887, 877, 878, 44, 879, 880, 1092, 1116] (by decide +kernel) (by decide +kernel)
set_option maxRecDepth 20000 in
theorem zlf_52 : GoodIn lw_tbl (wsX8_digest_r9) := goodIn_r _ [1126, 1345, 987, 988, 989, 890, 990, 992, 17, 993, 994, 996, 18, 997, 998, 1000, 19, 1001, 1043, 1006, 53, 1007, 1044, 1002] (by decide +kernel) (by decide +kernel)
set_option maxRecDepth 20000 in
theorem zlf_53 : GoodIn lw_tbl (wsX8_digest_r10) := goodIn_r _ [1003, 52, 1004, 1005, 1008, 1009, 1010, 1011, 1012, 1013, 54, 1014, 1015, 1380, 1016, 1032, 1033, 1034, 1035, 1036, 1038, 1039, 340, 341] (by decide +kernel) (by decide +kernel)
set_option maxRecDepth 20000 in
theorem zlf_54 : GoodIn lw_tbl (wsX8_digest_r11) := goodIn_r _ [1040, 1042, 1041, 55, 1088, 1089, 1090, 1091, 906, 1139, 1141, 21, 1142, 921, 1151, 1153, 22, 1154, 1155, 1159, 1066, 1067, 1068, 1160] (by decide +kernel) (by decide +kernel)
set_option maxRecDepth 20000 in
theorem zlf_55 : GoodIn lw_tbl (wsX8_digest_r12) := goodIn_r _ [1161, 1162, 1163, 916, 912, 914, 923, 1168, 1164, 1165, 1166, 1167] (by decide +kernel) (by decide +kernel)
set_option maxRecDepth 20000 in
theorem zlf_56 : GoodIn lw_tbl wsJx354110 := goodIn_sub zin_Jx35411 (by decide +kernel)
set_option maxRecDepth 20000 in
theorem zhd_X8_digest : GoodIn lw_tbl [Cond.code yX8_digest cX8_digest 7 (some .long)] := goodIn_r _ [1349] (by decide +kernel) (by decide +kernel)
theorem zggL_X8_digest : GoodIn lw_tbl wsX8_digest := fun w h => (List.mem_cons.mp h).elim (fun e => zhd_X8_digest w (by rw [e]; exact List.mem_cons_self)) ((goodIn_app (goodIn_app (goodIn_app (goodIn_app (goodIn_app zlf_44 (goodIn_app zlf_45 (goodIn_app zlf_46 (goodIn_app zlf_47 (goodIn_app zlf_48 (goodIn_app zlf_49 (goodIn_app zlf_50 (goodIn_app zlf_51 (goodIn_app zlf_52 (goodIn_app zlf_53 (goodIn_app zlf_54 zlf_55))))))))))) zlf_13) zlf_12) zlf_14) zlf_56) w)
set_option maxRecDepth 20000 in
theorem zgL_X8_digest : GoodIn lw_tbl (wsV RL 177 RX8 yX8_digest wsX8_digest) := goodIn_app (goodIn_r _ [1346, 1347, 1348, 42] (by decide +kernel) (by decide +kernel)) zggL_X8_digest
theorem q_at {big : List Cond} {w : Cond} (i : Nat) (h : [w] = [i].filterMap (fun i => big[i]?)) : w ∈ big := q_in _ _ h w List.mem_cons_self
set_option maxRecDepth 20000 in
theorem zw_35 : (Cond.initialized RX6) ∈ lw_tbl := q_at 35 (by decide +kernel)
set_option maxRecDepth 20000 in
theorem zw_42 : (Cond.initialized RX8) ∈ lw_tbl := q_at 42 (by decide +kernel)
set_option maxRecDepth 20000 in
theorem zw_61 : (Cond.classLink RL 8 RX6) ∈ lw_tbl := q_at 61 (by decide +kernel)
set_option maxRecDepth 20000 in
theorem zw_62 : (Cond.instantiable RX6 3) ∈ lw_tbl := q_at 62 (by decide +kernel)
set_option maxRecDepth 20000 in
theorem zw_63 : (Cond.methodLink RL 70 yX6_init) ∈ lw_tbl := q_at 63 (by decide +kernel)
set_option maxRecDepth 20000 in
theorem zw_64 : (Cond.instanceMethod yX6_init) ∈ lw_tbl := q_at 64 (by decide +kernel)
set_option maxRecDepth 20000 in
theorem zw_857 : (Cond.classLink RL 71 RX8) ∈ lw_tbl := q_at 857 (by decide +kernel)
set_option maxRecDepth 20000 in
theorem zw_858 : (Cond.instantiable RX8 4) ∈ lw_tbl := q_at 858 (by decide +kernel)
set_option maxRecDepth 20000 in
theorem zw_859 : (Cond.methodLink RL 73 yX8_init) ∈ lw_tbl := q_at 859 (by decide +kernel)
set_option maxRecDepth 20000 in
theorem zw_860 : (Cond.instanceMethod yX8_init) ∈ lw_tbl := q_at 860 (by decide +kernel)
set_option maxRecDepth 20000 in
theorem zw_1361 : (Cond.arrayClass .long) ∈ lw_tbl := q_at 1361 (by decide +kernel)
