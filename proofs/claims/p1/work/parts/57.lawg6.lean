set_option maxRecDepth 20000 in
theorem ggL_law_X8_depth : GoodIn wsL_law wsX8_depth := goodIn_r _ [874, 132, 72, 810, 811, 812, 71, 813, 814, 751, 752, 753, 80, 303, 462, 141, 142, 79, 143, 144, 304, 305, 306, 307, 308, 309, 310, 311, 312, 313, 314, 315, 316, 317, 318, 319, 89, 815, 816, 817, 818, 819, 820, 821, 822, 62, 823, 824, 825, 826, 827, 828, 829, 830, 81, 831, 832, 833, 834, 83, 1003, 1004, 1005, 1006, 1048, 1049, 1050, 1051, 1052, 1053, 1054, 1055, 1056, 1057, 1058, 1059, 1060, 1061, 1062, 1063, 1064] (by decide +kernel) (by decide +kernel)
set_option maxRecDepth 20000 in
theorem gL_law_X8_depth : GoodIn wsL_law (wsV RL 160 RX8 yX8_depth wsX8_depth) := goodIn_app (goodIn_of _ (by decide +kernel)) ggL_law_X8_depth
set_option maxRecDepth 20000 in
theorem ggL_law_X6_cannotMiss : GoodIn wsL_law wsX6_cannotMiss := goodIn_r _ [878, 21, 16, 879, 880, 881, 20, 882, 883, 787, 273, 274, 15, 275, 123, 27, 276, 776, 777, 778, 779, 61, 64, 780, 781, 782, 783, 784, 785, 786, 191, 165, 192, 788, 789, 790, 791, 792, 63, 793, 794, 795, 796, 220, 29, 125, 355, 356, 357, 358, 359, 396, 397, 398, 41, 399, 400, 401, 277, 2, 278, 797, 361, 362, 39, 363, 364, 365, 366, 798, 799, 800, 801, 802, 803, 804, 805, 1000, 1001, 1002, 1007, 1008, 1009, 1010, 1011, 1012, 1013, 1014, 1015, 1016, 1017, 1018, 1029, 1030, 1031, 1032, 1033, 1034, 1035, 1036, 1037, 1038, 1019, 1020, 1021, 1039, 1040, 1041, 1042, 1043] (by decide +kernel) (by decide +kernel)
set_option maxRecDepth 20000 in
theorem gL_law_X6_cannotMiss : GoodIn wsL_law (wsV RL 161 RX6 yX6_cannotMiss wsX6_cannotMiss) := goodIn_app (goodIn_of _ (by decide +kernel)) ggL_law_X6_cannotMiss
set_option maxRecDepth 20000 in
theorem ggL_law_X8_cannotMiss : GoodIn wsL_law wsX8_cannotMiss := goodIn_r _ [887, 132, 888, 889, 890, 5, 891, 72, 522, 810, 811, 812, 71, 813, 814, 751, 752, 753, 80, 303, 462, 141, 142, 79, 143, 144, 304, 305, 306, 307, 308, 309, 310, 311, 312, 313, 314, 315, 316, 317, 318, 319, 89, 815, 816, 817, 818, 819, 820, 821, 822, 62, 823, 824, 825, 826, 827, 828, 829, 830, 81, 831, 832, 833, 834, 83, 140, 523, 1003, 1004, 1005, 1006, 1048, 1049, 1050, 1051, 1052, 1053, 1054, 1055, 1056, 1057, 1058, 1059, 1060, 1061, 1062, 1063, 1064] (by decide +kernel) (by decide +kernel)
set_option maxRecDepth 20000 in
theorem gL_law_X8_cannotMiss : GoodIn wsL_law (wsV RL 164 RX8 yX8_cannotMiss wsX8_cannotMiss) := goodIn_app (goodIn_of _ (by decide +kernel)) ggL_law_X8_cannotMiss
set_option maxRecDepth 20000 in
theorem ggL_law_X6_bestHint : GoodIn wsL_law wsX6_bestHint := goodIn_r _ [895, 21, 16, 896, 897, 898, 20, 899, 785, 776, 777, 778, 779, 61, 64, 780, 781, 782, 783, 784, 786, 191, 165, 192, 787, 273, 274, 15, 275, 123, 27, 276, 788, 789, 790, 791, 792, 63, 793, 794, 795, 796, 220, 29, 125, 355, 356, 357, 358, 359, 396, 397, 398, 41, 399, 400, 401, 277, 2, 278, 797, 361, 362, 39, 363, 364, 365, 366, 798, 799, 800, 801, 802, 803, 804, 805, 900, 739, 740, 741, 360, 1000, 1001, 1002, 1007, 1008, 1009, 1010, 1011, 1012, 1013, 1014, 1015, 1016, 1017, 1018, 1019, 1020, 1021, 1029, 1030, 1031, 1032, 1033, 1034, 1035, 1036, 1037, 1038, 1039, 1040, 1041, 1042, 1043] (by decide +kernel) (by decide +kernel)
set_option maxRecDepth 20000 in
theorem gL_law_X6_bestHint : GoodIn wsL_law (wsV RL 165 RX6 yX6_bestHint wsX6_bestHint) := goodIn_app (goodIn_of _ (by decide +kernel)) ggL_law_X6_bestHint
set_option maxRecDepth 20000 in
theorem ggL_law_X8_bestHint : GoodIn wsL_law wsX8_bestHint := goodIn_r _ [904, 132, 72, 905, 906, 907, 71, 908, 80, 462, 141, 142, 79, 143, 144, 468, 469, 470, 471, 303, 304, 305, 306, 307, 308, 309, 310, 311, 312, 313, 314, 315, 316, 317, 318, 319, 89, 472, 473, 474, 475, 81, 814, 751, 752, 753, 815, 816, 817, 818, 819, 820, 821, 822, 62, 823, 824, 825, 826, 827, 828, 829, 830, 831, 832, 833, 834, 83, 1003, 1004, 1005, 1006, 1048, 1049, 1050, 1051, 1052, 1053, 1054, 1055, 1056, 1057, 1058, 1059, 1060, 1061, 1062, 1063, 1064] (by decide +kernel) (by decide +kernel)
set_option maxRecDepth 20000 in
theorem gL_law_X8_bestHint : GoodIn wsL_law (wsV RL 168 RX8 yX8_bestHint wsX8_bestHint) := goodIn_app (goodIn_of _ (by decide +kernel)) ggL_law_X8_bestHint
set_option maxRecDepth 20000 in
theorem ggL_law_X6_endsAt : GoodIn wsL_law wsX6_endsAt := goodIn_r _ [912, 16, 114, 115, 17, 762, 532, 913, 914, 915, 15, 916, 123, 27, 220, 29, 243, 31, 35, 36, 37, 332, 283, 350, 917, 918, 919, 39, 920, 366, 921, 517, 922, 364, 365, 516, 515, 377, 923, 924, 925, 926, 41, 927, 401, 928, 578, 400, 929, 930, 931, 932, 43, 933, 248, 254, 255, 249, 934, 935, 936, 34, 937, 288, 289, 290, 390, 421, 47, 391, 328, 329, 330, 331, 333, 334, 335, 336, 337, 338, 339, 340, 341, 251, 252, 253, 342, 343, 344, 345, 346, 347, 348, 349, 351, 352, 353, 354, 355, 356, 357, 358, 359, 360, 361, 362, 363, 367, 213, 214, 215, 368, 369, 370, 371, 372, 126, 125, 373, 374, 375, 376, 378, 379, 380, 381, 277, 2, 278, 382, 383, 384, 385, 386, 387, 388, 389, 392, 393, 394, 395, 272, 273, 274, 275, 276, 396, 397, 398, 399, 402, 403, 404, 405, 406, 407, 408, 409, 410, 222, 411, 412, 413, 414, 415, 416, 417, 418, 419, 420, 1000, 1001, 1002, 1007, 1008, 1009, 1010, 1011, 1012, 1013, 1014, 1015, 1016, 1017, 1018, 1022, 1023, 1024, 1025, 1026, 1027, 1028, 1029, 1030, 1031, 1032, 1033, 1034, 1035, 1036, 1037, 1038, 1039, 1040, 1041, 1042, 1043, 1044, 1045, 1046, 1047] (by decide +kernel) (by decide +kernel)
set_option maxRecDepth 20000 in
theorem gL_law_X6_endsAt : GoodIn wsL_law (wsV RL 169 RX6 yX6_endsAt wsX6_endsAt) := goodIn_app (goodIn_of _ (by decide +kernel)) ggL_law_X6_endsAt
set_option maxRecDepth 20000 in
theorem ggL_law_X8_endsAt : GoodIn wsL_law wsX8_endsAt := goodIn_r _ [941, 132, 942, 943, 944, 5, 945, 72, 946, 947, 948, 71, 949, 950, 70, 80, 303, 951, 952, 953, 954, 955, 81, 82, 83, 431, 432, 956, 74, 75, 76, 11, 12, 77, 78, 79, 84, 85, 86, 87, 88, 89, 90, 91, 92, 93, 94, 95, 96, 97, 98, 99, 433, 434, 435, 436, 437, 438, 439, 440, 441, 442, 443, 444, 445, 446, 150, 447, 448, 449, 450, 451, 452, 453, 454, 455, 456, 457, 458, 459, 460, 461, 957, 146, 147, 148, 149, 144, 151, 152, 153, 154, 155, 156, 157, 158, 159, 160, 161, 162, 163, 164, 165, 166, 167, 168, 169, 170, 171, 172, 173, 174, 175, 176, 177, 178, 179, 180, 181, 182, 183, 184, 185, 186, 187, 188, 189, 190, 191, 192, 193, 194, 195, 196, 426, 427, 428, 429, 430, 462, 141, 142, 143, 304, 305, 306, 307, 308, 309, 310, 311, 312, 313, 314, 315, 316, 317, 318, 319, 463, 464, 465, 466, 467, 468, 469, 470, 471, 472, 473, 474, 475, 476, 477, 478, 479, 480, 481, 482, 483, 484, 300, 301, 302, 485, 486, 487, 488, 489, 490, 491, 492, 493, 494, 495, 496, 497, 1003, 1004, 1005, 1006, 1048, 1049, 1050, 1051, 1052, 1053, 1054, 1055, 1056, 1057, 1058, 1059, 1060, 1061, 1062, 1063, 1064, 1065, 1066, 1067, 1068] (by decide +kernel) (by decide +kernel)
set_option maxRecDepth 20000 in
theorem gL_law_X8_endsAt : GoodIn wsL_law (wsV RL 172 RX8 yX8_endsAt wsX8_endsAt) := goodIn_app (goodIn_of _ (by decide +kernel)) ggL_law_X8_endsAt
set_option maxRecDepth 20000 in
theorem zgl_wsX6_digest_0 : GoodIn wsL_law wsX6_digest_r1 := goodIn_r _ [962, 16, 730, 731, 732, 15, 733, 332, 123, 220, 243, 35, 333, 334, 734, 735, 736, 283, 737, 36, 37, 350, 411, 2] (by decide +kernel) (by decide +kernel)
set_option maxRecDepth 20000 in
theorem zgl_wsX6_digest_1 : GoodIn wsL_law wsX6_digest_r2 := goodIn_r _ [412, 272, 273, 274, 275, 27, 276, 738, 739, 740, 741, 355, 356, 357, 358, 29, 359, 360, 361, 362, 39, 363, 364, 365] (by decide +kernel) (by decide +kernel)
set_option maxRecDepth 20000 in
theorem zgl_wsX6_digest_2 : GoodIn wsL_law wsX6_digest_r3 := goodIn_r _ [366, 963, 964, 965, 966, 967, 968, 969, 970, 113, 664, 665, 666, 667, 124, 125, 126, 127, 372, 668, 669, 670, 367, 213] (by decide +kernel) (by decide +kernel)
set_option maxRecDepth 20000 in
theorem zgl_wsX6_digest_3 : GoodIn wsL_law wsX6_digest_r4 := goodIn_r _ [214, 215, 971, 972, 973, 974, 211, 686, 687, 688, 689, 221, 222, 410, 402, 403, 404, 405, 396, 397, 398, 41, 399, 400] (by decide +kernel) (by decide +kernel)
set_option maxRecDepth 20000 in
theorem zgl_wsX6_digest_4 : GoodIn wsL_law wsX6_digest_r5 := goodIn_r _ [401, 690, 691, 692, 693, 277, 278, 975, 976, 977, 978, 238, 714, 715, 716, 717, 31, 347, 346, 348, 349, 718, 711, 712] (by decide +kernel) (by decide +kernel)
set_option maxRecDepth 20000 in
theorem zgl_wsX6_digest_5 : GoodIn wsL_law wsX6_digest_r6 := goodIn_r _ [713, 979, 769, 770, 771, 21, 772, 773, 774, 20, 775, 776, 777, 778, 779, 61, 64, 780, 781, 782, 783, 784, 785, 786] (by decide +kernel) (by decide +kernel)
set_option maxRecDepth 20000 in
theorem zgl_wsX6_digest_6 : GoodIn wsL_law wsX6_digest_r7 := goodIn_r _ [191, 165, 192, 787, 788, 789, 790, 791, 792, 63, 793, 794, 795, 796, 797, 798, 799, 800, 801, 802, 803, 804, 805, 980] (by decide +kernel) (by decide +kernel)
set_option maxRecDepth 20000 in
theorem zgl_wsX6_digest_7 : GoodIn wsL_law wsX6_digest_r8 := goodIn_r _ [836, 837, 838, 839, 840, 841, 842, 981, 852, 853, 854, 855, 856, 857, 858, 982, 868, 869, 870, 983, 876, 877, 878, 879] (by decide +kernel) (by decide +kernel)
set_option maxRecDepth 20000 in
theorem zgl_wsX6_digest_8 : GoodIn wsL_law wsX6_digest_r9 := goodIn_r _ [880, 881, 882, 883, 984, 893, 894, 895, 896, 897, 898, 899, 900, 985, 910, 911, 912, 114, 115, 17, 762, 532, 913, 914] (by decide +kernel) (by decide +kernel)
set_option maxRecDepth 20000 in
theorem zgl_wsX6_digest_9 : GoodIn wsL_law wsX6_digest_r10 := goodIn_r _ [915, 916, 917, 918, 919, 920, 921, 517, 922, 516, 515, 377, 923, 924, 925, 926, 927, 928, 578, 929, 930, 931, 932, 43] (by decide +kernel) (by decide +kernel)
set_option maxRecDepth 20000 in
theorem zgl_wsX6_digest_10 : GoodIn wsL_law wsX6_digest_r11 := goodIn_r _ [933, 248, 254, 255, 249, 934, 935, 936, 34, 937, 288, 289, 290, 390, 421, 47, 391, 328, 329, 330, 331, 335, 336, 337] (by decide +kernel) (by decide +kernel)
set_option maxRecDepth 20000 in
theorem zgl_wsX6_digest_11 : GoodIn wsL_law wsX6_digest_r12 := goodIn_r _ [338, 339, 340, 341, 251, 252, 253, 342, 343, 344, 345, 351, 352, 353, 354, 368, 369, 370, 371, 373, 374, 375, 376, 378] (by decide +kernel) (by decide +kernel)
set_option maxRecDepth 20000 in
theorem zgl_wsX6_digest_12 : GoodIn wsL_law wsX6_digest_r13 := goodIn_r _ [379, 380, 381, 382, 383, 384, 385, 386, 387, 388, 389, 392, 393, 394, 395, 406, 407, 408, 409, 413, 414, 415, 416, 417] (by decide +kernel) (by decide +kernel)
set_option maxRecDepth 20000 in
theorem zgl_wsX6_digest_13 : GoodIn wsL_law wsX6_digest_r14 := goodIn_r _ [418, 419, 420] (by decide +kernel) (by decide +kernel)
set_option maxRecDepth 20000 in
theorem zgl_wsX6_digest_14 : GoodIn wsL_law wsX60 := goodIn_sub inlX6 (by decide +kernel)
set_option maxRecDepth 20000 in
theorem zgl_wsX6_digest_15 : GoodIn wsL_law wsX30 := goodIn_sub inlX3 (by decide +kernel)
set_option maxRecDepth 20000 in
theorem zgl_wsX6_digest_16 : GoodIn wsL_law wsX00 := goodIn_sub inlX0 (by decide +kernel)
set_option maxRecDepth 20000 in
theorem zgl_wsX6_digest_17 : GoodIn wsL_law wsX10 := goodIn_sub inlX1 (by decide +kernel)
set_option maxRecDepth 20000 in
theorem zgl_wsX6_digest_18 : GoodIn wsL_law wsX50 := goodIn_sub inlX5 (by decide +kernel)
set_option maxRecDepth 20000 in
theorem zgl_wsX6_digest_19 : GoodIn wsL_law wsX20 := goodIn_sub inlX2 (by decide +kernel)
set_option maxRecDepth 20000 in
theorem zgl_wsX6_digest_20 : GoodIn wsL_law wsX40 := goodIn_sub inlX4 (by decide +kernel)
set_option maxRecDepth 20000 in
theorem zgc_wsX6_digest : GoodIn wsL_law [Cond.code yX6_digest cX6_digest 4 (some .long)] := goodIn_r _ [961] (by decide +kernel) (by decide +kernel)
theorem ggL_law_X6_digest : GoodIn wsL_law wsX6_digest := fun w h => (List.mem_cons.mp h).elim (fun e => zgc_wsX6_digest w (by rw [e]; exact List.mem_cons_self)) ((goodIn_app (goodIn_app (goodIn_app (goodIn_app (goodIn_app (goodIn_app (goodIn_app (goodIn_app zgl_wsX6_digest_0 (goodIn_app zgl_wsX6_digest_1 (goodIn_app zgl_wsX6_digest_2 (goodIn_app zgl_wsX6_digest_3 (goodIn_app zgl_wsX6_digest_4 (goodIn_app zgl_wsX6_digest_5 (goodIn_app zgl_wsX6_digest_6 (goodIn_app zgl_wsX6_digest_7 (goodIn_app zgl_wsX6_digest_8 (goodIn_app zgl_wsX6_digest_9 (goodIn_app zgl_wsX6_digest_10 (goodIn_app zgl_wsX6_digest_11 (goodIn_app zgl_wsX6_digest_12 zgl_wsX6_digest_13))))))))))))) zgl_wsX6_digest_14) zgl_wsX6_digest_15) zgl_wsX6_digest_16) zgl_wsX6_digest_17) zgl_wsX6_digest_18) zgl_wsX6_digest_19) zgl_wsX6_digest_20) w)
set_option maxRecDepth 20000 in
theorem gL_law_X6_digest : GoodIn wsL_law (wsV RL 173 RX6 yX6_digest wsX6_digest) := goodIn_app (goodIn_of _ (by decide +kernel)) ggL_law_X6_digest
