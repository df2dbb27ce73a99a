set_option maxRecDepth 20000 in
theorem zgl_wsX8_digest_0 : GoodIn wsL_law wsX8_digest_r1 := goodIn_r _ [132, 990, 991, 72, 522, 746, 747, 748, 5, 749, 62, 73, 140, 141, 142, 79, 143, 144, 750, 751, 752, 71, 753, 80] (by decide +kernel) (by decide +kernel)
set_option maxRecDepth 20000 in
theorem zgl_wsX8_digest_1 : GoodIn wsL_law wsX8_digest_r2 := goodIn_r _ [303, 462, 304, 305, 306, 307, 308, 309, 310, 311, 312, 313, 314, 315, 316, 317, 318, 319, 89, 754, 755, 756, 757, 468] (by decide +kernel) (by decide +kernel)
set_option maxRecDepth 20000 in
theorem zgl_wsX8_digest_2 : GoodIn wsL_law wsX8_digest_r3 := goodIn_r _ [469, 470, 471, 472, 473, 474, 475, 81, 564, 992, 993, 994, 995, 996, 675, 676, 677, 678, 523, 524, 698, 699, 700, 701] (by decide +kernel) (by decide +kernel)
set_option maxRecDepth 20000 in
theorem zgl_wsX8_digest_3 : GoodIn wsL_law wsX8_digest_r4 := goodIn_r _ [702, 481, 482, 483, 997, 434, 435, 436, 437, 438, 439, 440, 441, 442, 443, 444, 11, 12, 445, 446, 150, 447, 998, 449] (by decide +kernel) (by decide +kernel)
set_option maxRecDepth 20000 in
theorem zgl_wsX8_digest_4 : GoodIn wsL_law wsX8_digest_r5 := goodIn_r _ [450, 451, 452, 999, 454, 455, 456, 457, 458, 459, 460, 461, 810, 811, 812, 813, 814, 815, 816, 817, 818, 819, 820, 821] (by decide +kernel) (by decide +kernel)
set_option maxRecDepth 20000 in
theorem zgl_wsX8_digest_5 : GoodIn wsL_law wsX8_digest_r6 := goodIn_r _ [822, 823, 824, 825, 826, 827, 828, 829, 830, 831, 832, 833, 834, 83, 847, 848, 849, 850, 863, 864, 865, 866, 60, 888] (by decide +kernel) (by decide +kernel)
set_option maxRecDepth 20000 in
theorem zgl_wsX8_digest_6 : GoodIn wsL_law wsX8_digest_r7 := goodIn_r _ [889, 890, 891, 905, 906, 907, 908, 942, 943, 944, 945, 946, 947, 948, 949, 950, 70, 951, 952, 953, 954, 955, 82, 431] (by decide +kernel) (by decide +kernel)
set_option maxRecDepth 20000 in
theorem zgl_wsX8_digest_7 : GoodIn wsL_law wsX8_digest_r8 := goodIn_r _ [432, 956, 74, 75, 76, 77, 78, 84, 85, 86, 87, 88, 90, 91, 92, 93, 94, 95, 96, 97, 98, 99, 433, 448] (by decide +kernel) (by decide +kernel)
set_option maxRecDepth 20000 in
theorem zgl_wsX8_digest_8 : GoodIn wsL_law wsX8_digest_r9 := goodIn_r _ [453, 957, 146, 147, 148, 149, 151, 152, 153, 154, 155, 156, 157, 158, 159, 160, 161, 162, 163, 164, 165, 166, 167, 168] (by decide +kernel) (by decide +kernel)
set_option maxRecDepth 20000 in
theorem zgl_wsX8_digest_9 : GoodIn wsL_law wsX8_digest_r10 := goodIn_r _ [169, 170, 171, 172, 173, 174, 175, 176, 177, 178, 179, 180, 181, 182, 183, 184, 185, 186, 187, 188, 189, 190, 191, 192] (by decide +kernel) (by decide +kernel)
set_option maxRecDepth 20000 in
theorem zgl_wsX8_digest_10 : GoodIn wsL_law wsX8_digest_r11 := goodIn_r _ [193, 194, 195, 196, 426, 427, 428, 429, 430, 463, 464, 465, 466, 467, 476, 477, 478, 479, 480, 484, 300, 301, 302, 485] (by decide +kernel) (by decide +kernel)
set_option maxRecDepth 20000 in
theorem zgl_wsX8_digest_11 : GoodIn wsL_law wsX8_digest_r12 := goodIn_r _ [486, 487, 488, 489, 490, 491, 492, 493, 494, 495, 496, 497] (by decide +kernel) (by decide +kernel)
set_option maxRecDepth 20000 in
theorem zgl_wsX8_digest_12 : GoodIn wsL_law wsX80 := goodIn_sub inlX8 (by decide +kernel)
set_option maxRecDepth 20000 in
theorem zgl_wsX8_digest_13 : GoodIn wsL_law wsX70 := goodIn_sub inlX7 (by decide +kernel)
set_option maxRecDepth 20000 in
theorem zgl_wsX8_digest_14 : GoodIn wsL_law wsJx4a65c0 := goodIn_sub inlJx4a65c (by decide +kernel)
set_option maxRecDepth 20000 in
theorem zgl_wsX8_digest_15 : GoodIn wsL_law wsJx354110 := goodIn_sub inlJx35411 (by decide +kernel)
set_option maxRecDepth 20000 in
theorem zgc_wsX8_digest : GoodIn wsL_law [Cond.code yX8_digest cX8_digest 7 (some .long)] := goodIn_r _ [989] (by decide +kernel) (by decide +kernel)
theorem ggL_law_X8_digest : GoodIn wsL_law wsX8_digest := fun w h => (List.mem_cons.mp h).elim (fun e => zgc_wsX8_digest w (by rw [e]; exact List.mem_cons_self)) ((goodIn_app (goodIn_app (goodIn_app (goodIn_app (goodIn_app zgl_wsX8_digest_0 (goodIn_app zgl_wsX8_digest_1 (goodIn_app zgl_wsX8_digest_2 (goodIn_app zgl_wsX8_digest_3 (goodIn_app zgl_wsX8_digest_4 (goodIn_app zgl_wsX8_digest_5 (goodIn_app zgl_wsX8_digest_6 (goodIn_app zgl_wsX8_digest_7 (goodIn_app zgl_wsX8_digest_8 (goodIn_app zgl_wsX8_digest_9 (goodIn_app zgl_wsX8_digest_10 zgl_wsX8_digest_11))))))))))) zgl_wsX8_digest_12) zgl_wsX8_digest_13) zgl_wsX8_digest_14) zgl_wsX8_digest_15) w)
set_option maxRecDepth 20000 in
theorem gL_law_X8_digest : GoodIn wsL_law (wsV RL 177 RX8 yX8_digest wsX8_digest) := goodIn_app (goodIn_of _ (by decide +kernel)) ggL_law_X8_digest
