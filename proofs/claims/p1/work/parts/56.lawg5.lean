set_option maxRecDepth 20000 in
theorem ggL_law_X8_meanScore : GoodIn wsL_law wsX8_meanScore := goodIn_r _ [767, 132, 72, 1003, 1004, 1005, 1006, 1048, 1049, 1050, 1051, 1052, 1053, 1054, 1055, 1056, 1057, 1058, 1059, 1060, 1061] (by decide +kernel) (by decide +kernel)
set_option maxRecDepth 20000 in
theorem gL_law_X8_meanScore : GoodIn wsL_law (wsV RL 143 RX8 yX8_meanScore wsX8_meanScore) := goodIn_app (goodIn_of _ (by decide +kernel)) ggL_law_X8_meanScore
set_option maxRecDepth 20000 in
theorem ggL_law_X6_canEnd : GoodIn wsL_law wsX6_canEnd := goodIn_r _ [771, 21, 16, 772, 773, 774, 20, 775, 776, 777, 778, 779, 61, 64, 780, 781, 782, 783, 784, 785, 786, 191, 165, 192, 787, 273, 274, 15, 275, 123, 27, 276, 788, 789, 790, 791, 792, 63, 793, 794, 795, 796, 220, 29, 125, 355, 356, 357, 358, 359, 396, 397, 398, 41, 399, 400, 401, 277, 2, 278, 797, 361, 362, 39, 363, 364, 365, 366, 798, 799, 800, 801, 802, 803, 804, 805, 1000, 1001, 1002, 1019, 1020, 1021, 1007, 1008, 1009, 1010, 1011, 1012, 1013, 1014, 1015, 1016, 1017, 1018, 1029, 1030, 1031, 1032, 1033, 1034, 1035, 1036, 1037, 1038, 1039, 1040, 1041, 1042, 1043] (by decide +kernel) (by decide +kernel)
set_option maxRecDepth 20000 in
theorem gL_law_X6_canEnd : GoodIn wsL_law (wsV RL 144 RX6 yX6_canEnd wsX6_canEnd) := goodIn_app (goodIn_of _ (by decide +kernel)) ggL_law_X6_canEnd
set_option maxRecDepth 20000 in
theorem ggL_law_X8_canEnd : GoodIn wsL_law wsX8_canEnd := goodIn_r _ [809, 132, 72, 810, 811, 812, 71, 813, 814, 751, 752, 753, 80, 303, 462, 141, 142, 79, 143, 144, 304, 305, 306, 307, 308, 309, 310, 311, 312, 313, 314, 315, 316, 317, 318, 319, 89, 815, 816, 817, 818, 819, 820, 821, 822, 62, 823, 824, 825, 826, 827, 828, 829, 830, 81, 831, 832, 833, 834, 83, 1003, 1004, 1005, 1006, 1048, 1049, 1050, 1051, 1052, 1053, 1054, 1055, 1056, 1057, 1058, 1059, 1060, 1061, 1062, 1063, 1064] (by decide +kernel) (by decide +kernel)
set_option maxRecDepth 20000 in
theorem gL_law_X8_canEnd : GoodIn wsL_law (wsV RL 148 RX8 yX8_canEnd wsX8_canEnd) := goodIn_app (goodIn_of _ (by decide +kernel)) ggL_law_X8_canEnd
set_option maxRecDepth 20000 in
theorem ggL_law_X6_stands : GoodIn wsL_law wsX6_stands := goodIn_r _ [838, 21, 16, 839, 840, 841, 20, 842, 61, 776, 777, 778, 779, 64, 780, 781, 782, 783, 784, 785, 786, 191, 165, 192, 787, 273, 274, 15, 275, 123, 27, 276, 788, 789, 790, 791, 792, 63, 793, 794, 795, 796, 220, 29, 125, 355, 356, 357, 358, 359, 396, 397, 398, 41, 399, 400, 401, 277, 2, 278, 797, 361, 362, 39, 363, 364, 365, 366, 798, 799, 800, 801, 802, 803, 804, 805, 411, 412, 1000, 1001, 1002, 1019, 1020, 1021, 1007, 1008, 1009, 1010, 1011, 1012, 1013, 1014, 1015, 1016, 1017, 1018, 1029, 1030, 1031, 1032, 1033, 1034, 1035, 1036, 1037, 1038, 1039, 1040, 1041, 1042, 1043] (by decide +kernel) (by decide +kernel)
set_option maxRecDepth 20000 in
theorem gL_law_X6_stands : GoodIn wsL_law (wsV RL 149 RX6 yX6_stands wsX6_stands) := goodIn_app (goodIn_of _ (by decide +kernel)) ggL_law_X6_stands
set_option maxRecDepth 20000 in
theorem ggL_law_X8_stands : GoodIn wsL_law wsX8_stands := goodIn_r _ [846, 132, 72, 847, 848, 849, 71, 850, 814, 751, 752, 753, 80, 303, 462, 141, 142, 79, 143, 144, 304, 305, 306, 307, 308, 309, 310, 311, 312, 313, 314, 315, 316, 317, 318, 319, 89, 819, 820, 821, 822, 62, 823, 824, 825, 826, 827, 828, 829, 830, 81, 1003, 1004, 1005, 1006, 1048, 1049, 1050, 1051, 1052, 1053, 1054, 1055, 1056, 1057, 1058, 1059, 1060, 1061, 1062, 1063, 1064] (by decide +kernel) (by decide +kernel)
set_option maxRecDepth 20000 in
theorem gL_law_X8_stands : GoodIn wsL_law (wsV RL 152 RX8 yX8_stands wsX8_stands) := goodIn_app (goodIn_of _ (by decide +kernel)) ggL_law_X8_stands
set_option maxRecDepth 20000 in
theorem ggL_law_X6_deadEnds : GoodIn wsL_law wsX6_deadEnds := goodIn_r _ [854, 21, 16, 855, 856, 857, 20, 858, 61, 64, 776, 777, 778, 779, 780, 781, 782, 783, 784, 785, 786, 191, 165, 192, 787, 273, 274, 15, 275, 123, 27, 276, 788, 789, 790, 791, 792, 63, 793, 794, 795, 796, 220, 29, 125, 355, 356, 357, 358, 359, 396, 397, 398, 41, 399, 400, 401, 277, 2, 278, 797, 361, 362, 39, 363, 364, 365, 366, 798, 799, 800, 801, 802, 803, 804, 805, 411, 412, 1000, 1001, 1002, 1019, 1020, 1021, 1007, 1008, 1009, 1010, 1011, 1012, 1013, 1014, 1015, 1016, 1017, 1018, 1029, 1030, 1031, 1032, 1033, 1034, 1035, 1036, 1037, 1038, 1039, 1040, 1041, 1042, 1043] (by decide +kernel) (by decide +kernel)
set_option maxRecDepth 20000 in
theorem gL_law_X6_deadEnds : GoodIn wsL_law (wsV RL 153 RX6 yX6_deadEnds wsX6_deadEnds) := goodIn_app (goodIn_of _ (by decide +kernel)) ggL_law_X6_deadEnds
set_option maxRecDepth 20000 in
theorem ggL_law_X8_deadEnds : GoodIn wsL_law wsX8_deadEnds := goodIn_r _ [862, 132, 72, 863, 864, 865, 71, 866, 60, 814, 751, 752, 753, 80, 303, 462, 141, 142, 79, 143, 144, 304, 305, 306, 307, 308, 309, 310, 311, 312, 313, 314, 315, 316, 317, 318, 319, 89, 819, 820, 821, 822, 62, 823, 824, 825, 826, 827, 828, 829, 830, 81, 831, 832, 833, 834, 83, 1003, 1004, 1005, 1006, 1048, 1049, 1050, 1051, 1052, 1053, 1054, 1055, 1056, 1057, 1058, 1059, 1060, 1061, 1062, 1063, 1064] (by decide +kernel) (by decide +kernel)
set_option maxRecDepth 20000 in
theorem gL_law_X8_deadEnds : GoodIn wsL_law (wsV RL 156 RX8 yX8_deadEnds wsX8_deadEnds) := goodIn_app (goodIn_of _ (by decide +kernel)) ggL_law_X8_deadEnds
set_option maxRecDepth 20000 in
theorem ggL_law_X6_depth : GoodIn wsL_law wsX6_depth := goodIn_r _ [870, 21, 16, 772, 773, 774, 20, 775, 776, 777, 778, 779, 61, 64, 780, 781, 782, 783, 784, 785, 786, 191, 165, 192, 787, 273, 274, 15, 275, 123, 27, 276, 788, 789, 790, 791, 792, 63, 793, 794, 795, 796, 220, 29, 125, 355, 356, 357, 358, 359, 396, 397, 398, 41, 399, 400, 401, 277, 2, 278, 797, 361, 362, 39, 363, 364, 365, 366, 798, 799, 800, 801, 802, 803, 804, 805, 1000, 1001, 1002, 1019, 1020, 1021, 1007, 1008, 1009, 1010, 1011, 1012, 1013, 1014, 1015, 1016, 1017, 1018, 1029, 1030, 1031, 1032, 1033, 1034, 1035, 1036, 1037, 1038, 1039, 1040, 1041, 1042, 1043] (by decide +kernel) (by decide +kernel)
set_option maxRecDepth 20000 in
theorem gL_law_X6_depth : GoodIn wsL_law (wsV RL 157 RX6 yX6_depth wsX6_depth) := goodIn_app (goodIn_of _ (by decide +kernel)) ggL_law_X6_depth
