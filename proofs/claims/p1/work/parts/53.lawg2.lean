set_option maxRecDepth 20000 in
theorem ggL_law_X8_stop : GoodIn wsL_law wsX8_stop := goodIn_r _ [537, 132, 72, 136, 137, 138, 5, 139, 538, 486, 487, 71, 488, 431, 82, 489, 432, 490, 491, 492, 84, 493, 191, 165, 192, 494, 495, 496, 79, 497, 149, 150, 89, 144, 1003, 1004, 1005, 1006, 1048, 1049, 1050, 1051, 1052, 1053, 1054, 1055, 1056, 1057, 1058, 1059, 1060, 1061, 1062, 1063, 1064] (by decide +kernel) (by decide +kernel)
set_option maxRecDepth 20000 in
theorem gL_law_X8_stop : GoodIn wsL_law (wsV RL 103 RX8 yX8_stop wsX8_stop) := goodIn_app (goodIn_of _ (by decide +kernel)) ggL_law_X8_stop
set_option maxRecDepth 20000 in
theorem ggL_law_L_steal : GoodIn wsL_law wsL_steal := goodIn_ca (goodIn_ca (goodIn_r _ [541, 204, 542, 543, 544, 2, 545, 209, 210, 111, 112, 16, 546, 547, 548, 403, 404, 15, 405, 220, 509, 356, 357, 358, 29, 359, 549, 550, 551, 552, 553, 554, 555, 1000, 1001, 1002, 1007, 1008, 1009, 1010, 1011, 1012, 1013, 1014, 1015, 1016, 1017, 1018, 1039, 1040, 1041, 1042, 1043] (by decide +kernel) (by decide +kernel)) (goodIn_sub (fun _ h => List.mem_append_right _ h) (by decide +kernel))) (goodIn_sub (fun _ h => List.mem_append_left _ (List.mem_append_right _ h)) (by decide +kernel))
set_option maxRecDepth 20000 in
theorem gL_law_L_steal : GoodIn wsL_law (va_wsS RL 104 yL_steal wsL_steal) := goodIn_app (goodIn_of _ (by decide +kernel)) ggL_law_L_steal
set_option maxRecDepth 20000 in
theorem ggL_law_X8_steal : GoodIn wsL_law wsX8_steal := goodIn_r _ [559, 132, 72, 522, 560, 561, 562, 5, 563, 140, 141, 142, 79, 143, 144, 133, 134, 135, 136, 137, 138, 139, 523, 305, 306, 307, 308, 309, 310, 311, 312, 313, 314, 315, 316, 317, 318, 319, 89, 564, 473, 474, 71, 475, 81, 303, 462, 304, 565, 550, 551, 552, 553, 554, 555, 1003, 1004, 1005, 1006, 1048, 1049, 1050, 1051, 1052, 1053, 1054, 1055, 1056, 1057, 1058, 1059, 1060, 1061, 1062, 1063, 1064] (by decide +kernel) (by decide +kernel)
set_option maxRecDepth 20000 in
theorem gL_law_X8_steal : GoodIn wsL_law (wsV RL 106 RX8 yX8_steal wsX8_steal) := goodIn_app (goodIn_of _ (by decide +kernel)) ggL_law_X8_steal
set_option maxRecDepth 20000 in
theorem ggL_law_L_spare : GoodIn wsL_law wsL_spare := goodIn_ca (goodIn_ca (goodIn_r _ [568, 204, 569, 570, 571, 2, 572, 209, 210, 111, 112, 16, 546, 547, 573, 548, 403, 404, 15, 405, 220, 574, 575, 576, 41, 577, 400, 578, 1000, 1001, 1002, 1007, 1008, 1009, 1010, 1011, 1012, 1013, 1014, 1015, 1016, 1017, 1018, 1039, 1040, 1041, 1042, 1043] (by decide +kernel) (by decide +kernel)) (goodIn_sub (fun _ h => List.mem_append_right _ h) (by decide +kernel))) (goodIn_sub (fun _ h => List.mem_append_left _ (List.mem_append_right _ h)) (by decide +kernel))
set_option maxRecDepth 20000 in
theorem gL_law_L_spare : GoodIn wsL_law (va_wsS RL 107 yL_spare wsL_spare) := goodIn_app (goodIn_of _ (by decide +kernel)) ggL_law_L_spare
set_option maxRecDepth 20000 in
theorem ggL_law_X8_spare : GoodIn wsL_law wsX8_spare := goodIn_r _ [582, 132, 72, 522, 560, 561, 562, 5, 563, 140, 141, 142, 79, 143, 144, 133, 134, 135, 136, 137, 138, 139, 523, 305, 306, 307, 308, 309, 310, 311, 312, 313, 314, 315, 316, 317, 318, 319, 89, 583, 584, 585, 586, 1003, 1004, 1005, 1006, 1048, 1049, 1050, 1051, 1052, 1053, 1054, 1055, 1056, 1057, 1058, 1059, 1060, 1061, 1062, 1063, 1064] (by decide +kernel) (by decide +kernel)
set_option maxRecDepth 20000 in
theorem gL_law_X8_spare : GoodIn wsL_law (wsV RL 109 RX8 yX8_spare wsX8_spare) := goodIn_app (goodIn_of _ (by decide +kernel)) ggL_law_X8_spare
set_option maxRecDepth 20000 in
theorem ggL_law_L_breaks : GoodIn wsL_law wsL_breaks := goodIn_ca (goodIn_ca (goodIn_r _ [589, 204, 590, 591, 592, 2, 593, 209, 210, 111, 112, 16, 505, 594, 595, 212, 213, 214, 15, 215, 123, 1000, 1001, 1002, 1007, 1008, 1009, 1010, 1011, 1012, 1013, 1014, 1015, 1016, 1017, 1018, 1029, 1030, 1031, 1032, 1033, 1034, 1035, 1036, 1037, 1038] (by decide +kernel) (by decide +kernel)) (goodIn_sub (fun _ h => List.mem_append_right _ h) (by decide +kernel))) (goodIn_sub (fun _ h => List.mem_append_left _ (List.mem_append_right _ h)) (by decide +kernel))
set_option maxRecDepth 20000 in
theorem gL_law_L_breaks : GoodIn wsL_law (va_wsS RL 110 yL_breaks wsL_breaks) := goodIn_app (goodIn_of _ (by decide +kernel)) ggL_law_L_breaks
set_option maxRecDepth 20000 in
theorem ggL_law_X8_breaks : GoodIn wsL_law wsX8_breaks := goodIn_r _ [599, 132, 72, 522, 227, 228, 229, 5, 230, 140, 141, 142, 79, 143, 144, 133, 134, 135, 136, 137, 138, 139, 523, 305, 306, 307, 308, 309, 310, 311, 312, 313, 314, 315, 316, 317, 318, 319, 89, 1003, 1004, 1005, 1006, 1048, 1049, 1050, 1051, 1052, 1053, 1054, 1055, 1056, 1057, 1058, 1059, 1060, 1061, 1062, 1063, 1064] (by decide +kernel) (by decide +kernel)
set_option maxRecDepth 20000 in
theorem gL_law_X8_breaks : GoodIn wsL_law (wsV RL 112 RX8 yX8_breaks wsX8_breaks) := goodIn_app (goodIn_of _ (by decide +kernel)) ggL_law_X8_breaks
set_option maxRecDepth 20000 in
theorem ggL_law_L_repair : GoodIn wsL_law wsL_repair := goodIn_ca (goodIn_ca (goodIn_r _ [602, 204, 603, 604, 605, 2, 606, 209, 210, 111, 112, 16, 505, 594, 573, 607, 212, 213, 214, 15, 215, 123, 608, 609, 610, 39, 611, 365, 377, 1000, 1001, 1002, 1007, 1008, 1009, 1010, 1011, 1012, 1013, 1014, 1015, 1016, 1017, 1018, 1029, 1030, 1031, 1032, 1033, 1034, 1035, 1036, 1037, 1038] (by decide +kernel) (by decide +kernel)) (goodIn_sub (fun _ h => List.mem_append_right _ h) (by decide +kernel))) (goodIn_sub (fun _ h => List.mem_append_left _ (List.mem_append_right _ h)) (by decide +kernel))
set_option maxRecDepth 20000 in
theorem gL_law_L_repair : GoodIn wsL_law (va_wsS RL 113 yL_repair wsL_repair) := goodIn_app (goodIn_of _ (by decide +kernel)) ggL_law_L_repair
