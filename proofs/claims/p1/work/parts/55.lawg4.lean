set_option maxRecDepth 20000 in
theorem ggL_law_X8_ofLock : GoodIn wsL_law wsX8_ofLock := goodIn_r _ [674, 132, 227, 228, 229, 5, 230, 72, 140, 141, 142, 79, 143, 144, 133, 134, 135, 136, 137, 138, 139, 675, 676, 677, 678, 522, 523, 305, 306, 307, 308, 309, 310, 311, 312, 313, 314, 315, 316, 317, 318, 319, 89, 524, 469, 470, 71, 471, 80, 303, 304, 472, 473, 474, 475, 81, 462, 1003, 1004, 1005, 1006, 1048, 1049, 1050, 1051, 1052, 1053, 1054, 1055, 1056, 1057, 1058, 1059, 1060, 1061, 1062, 1063, 1064] (by decide +kernel) (by decide +kernel)
set_option maxRecDepth 20000 in
theorem gL_law_X8_ofLock : GoodIn wsL_law (wsV RL 129 RX8 yX8_ofLock wsX8_ofLock) := goodIn_app (goodIn_of _ (by decide +kernel)) ggL_law_X8_ofLock
set_option maxRecDepth 20000 in
theorem ggL_law_L_ofThing : GoodIn wsL_law wsL_ofThing := goodIn_ca (goodIn_ca (goodIn_r _ [681, 204, 682, 683, 684, 2, 685, 209, 210, 109, 110, 16, 548, 403, 404, 15, 405, 220, 116, 117, 118, 686, 687, 688, 689, 29, 221, 222, 410, 359, 402, 272, 273, 274, 275, 123, 27, 276, 396, 397, 398, 41, 399, 400, 401, 411, 412, 690, 691, 692, 693, 124, 277, 278, 1000, 1001, 1002, 1007, 1008, 1009, 1010, 1011, 1012, 1013, 1014, 1015, 1016, 1017, 1018, 1039, 1040, 1041, 1042, 1043, 1029, 1030, 1031, 1032, 1033, 1034, 1035, 1036, 1037, 1038] (by decide +kernel) (by decide +kernel)) (goodIn_sub (fun _ h => List.mem_append_right _ h) (by decide +kernel))) (goodIn_sub (fun _ h => List.mem_append_left _ (List.mem_append_left _ (List.mem_append_right _ h))) (by decide +kernel))
set_option maxRecDepth 20000 in
theorem gL_law_L_ofThing : GoodIn wsL_law (va_wsS RL 130 yL_ofThing wsL_ofThing) := goodIn_app (goodIn_of _ (by decide +kernel)) ggL_law_L_ofThing
set_option maxRecDepth 20000 in
theorem ggL_law_X8_ofThing : GoodIn wsL_law wsX8_ofThing := goodIn_r _ [697, 132, 560, 561, 562, 5, 563, 72, 140, 141, 142, 79, 143, 144, 133, 134, 135, 136, 137, 138, 139, 698, 699, 700, 701, 522, 523, 305, 306, 307, 308, 309, 310, 311, 312, 313, 314, 315, 316, 317, 318, 319, 89, 702, 481, 482, 71, 483, 81, 303, 80, 304, 1003, 1004, 1005, 1006, 1048, 1049, 1050, 1051, 1052, 1053, 1054, 1055, 1056, 1057, 1058, 1059, 1060, 1061, 1062, 1063, 1064] (by decide +kernel) (by decide +kernel)
set_option maxRecDepth 20000 in
theorem gL_law_X8_ofThing : GoodIn wsL_law (wsV RL 132 RX8 yX8_ofThing wsX8_ofThing) := goodIn_app (goodIn_of _ (by decide +kernel)) ggL_law_X8_ofThing
set_option maxRecDepth 20000 in
theorem ggL_law_L_ofPlayer : GoodIn wsL_law wsL_ofPlayer := goodIn_ca (goodIn_ca (goodIn_r _ [705, 204, 706, 707, 708, 2, 709, 209, 210, 109, 110, 16, 710, 711, 712, 15, 713, 243, 116, 117, 118, 714, 715, 716, 717, 31, 347, 346, 348, 349, 718, 1000, 1001, 1002, 1007, 1008, 1009, 1010, 1011, 1012, 1013, 1014, 1015, 1016, 1017, 1018, 1044, 1045, 1046, 1047] (by decide +kernel) (by decide +kernel)) (goodIn_sub (fun _ h => List.mem_append_right _ h) (by decide +kernel))) (goodIn_sub (fun _ h => List.mem_append_left _ (List.mem_append_left _ (List.mem_append_right _ h))) (by decide +kernel))
set_option maxRecDepth 20000 in
theorem gL_law_L_ofPlayer : GoodIn wsL_law (va_wsS RL 133 yL_ofPlayer wsL_ofPlayer) := goodIn_app (goodIn_of _ (by decide +kernel)) ggL_law_L_ofPlayer
set_option maxRecDepth 20000 in
theorem ggL_law_X8_ofPlayer : GoodIn wsL_law wsX8_ofPlayer := goodIn_r _ [722, 132, 72, 522, 140, 141, 142, 79, 143, 144, 133, 134, 5, 135, 136, 137, 138, 139, 523, 305, 306, 307, 308, 309, 310, 311, 312, 313, 314, 315, 316, 317, 318, 319, 89, 1003, 1004, 1005, 1006, 1048, 1049, 1050, 1051, 1052, 1053, 1054, 1055, 1056, 1057, 1058, 1059, 1060, 1061, 1062, 1063, 1064] (by decide +kernel) (by decide +kernel)
set_option maxRecDepth 20000 in
theorem gL_law_X8_ofPlayer : GoodIn wsL_law (wsV RL 135 RX8 yX8_ofPlayer wsX8_ofPlayer) := goodIn_app (goodIn_of _ (by decide +kernel)) ggL_law_X8_ofPlayer
set_option maxRecDepth 20000 in
theorem ggL_law_L_many : GoodIn wsL_law wsL_many := goodIn_ca (goodIn_r _ [725, 104, 726, 727, 728, 2, 729, 109, 110, 16, 116, 117, 118, 730, 731, 732, 15, 733, 332, 123, 220, 243, 35, 333, 334, 734, 735, 736, 283, 737, 36, 37, 350, 411, 412, 272, 273, 274, 275, 27, 276, 738, 739, 740, 741, 355, 356, 357, 358, 29, 359, 360, 361, 362, 39, 363, 364, 365, 366, 1000, 1001, 1002, 1007, 1008, 1009, 1010, 1011, 1012, 1013, 1014, 1015, 1016, 1017, 1018, 1022, 1023, 1024, 1025, 1026, 1027, 1028, 1029, 1030, 1031, 1032, 1033, 1034, 1035, 1036, 1037, 1038, 1039, 1040, 1041, 1042, 1043] (by decide +kernel) (by decide +kernel)) (goodIn_sub (fun _ h => List.mem_append_left _ (List.mem_append_left _ (List.mem_append_right _ h))) (by decide +kernel))
set_option maxRecDepth 20000 in
theorem gL_law_L_many : GoodIn wsL_law (va_wsS RL 136 yL_many wsL_many) := goodIn_app (goodIn_of _ (by decide +kernel)) ggL_law_L_many
set_option maxRecDepth 20000 in
theorem ggL_law_X8_many : GoodIn wsL_law wsX8_many := goodIn_r _ [745, 132, 133, 134, 5, 135, 746, 747, 748, 749, 62, 72, 73, 140, 141, 142, 79, 143, 144, 750, 751, 752, 71, 753, 80, 303, 462, 304, 305, 306, 307, 308, 309, 310, 311, 312, 313, 314, 315, 316, 317, 318, 319, 89, 754, 755, 756, 757, 468, 469, 470, 471, 472, 473, 474, 475, 81, 564, 136, 137, 138, 139, 1003, 1004, 1005, 1006, 1048, 1049, 1050, 1051, 1052, 1053, 1054, 1055, 1056, 1057, 1058, 1059, 1060, 1061, 1062, 1063, 1064] (by decide +kernel) (by decide +kernel)
set_option maxRecDepth 20000 in
theorem gL_law_X8_many : GoodIn wsL_law (wsV RL 138 RX8 yX8_many wsX8_many) := goodIn_app (goodIn_of _ (by decide +kernel)) ggL_law_X8_many
set_option maxRecDepth 20000 in
theorem ggL_law_X6_meanScore : GoodIn wsL_law wsX6_meanScore := goodIn_r _ [761, 16, 114, 762, 763, 1000, 1001, 1002, 1007, 1008, 1009, 1010, 1011, 1012, 1013, 1014, 1015, 1016, 1017, 1018, 1022, 1023, 1024, 1025, 1026, 1027, 1028] (by decide +kernel) (by decide +kernel)
set_option maxRecDepth 20000 in
theorem gL_law_X6_meanScore : GoodIn wsL_law (wsV RL 139 RX6 yX6_meanScore wsX6_meanScore) := goodIn_app (goodIn_of _ (by decide +kernel)) ggL_law_X6_meanScore
