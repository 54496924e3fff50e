set_option maxRecDepth 20000 in
theorem hX6_carryOut_c : GoodIn wsL_law [.code yX6_carryOut cX6_carryOut 4 (some .int)] := goodIn_r _ [935] (by decide +kernel) (by decide +kernel)
set_option maxRecDepth 20000 in
theorem hX6_carryOut_wsX6_carryOut_r1 : GoodIn wsL_law wsX6_carryOut_r1 := goodIn_r _ [90, 936, 862, 937, 938, 939, 5, 940, 941, 942, 943, 944, 945, 89, 946, 947, 948, 949, 950, 951, 952, 953, 954, 955] (by decide +kernel) (by decide +kernel)
set_option maxRecDepth 20000 in
theorem hX6_carryOut_wsX6_carryOut_r2 : GoodIn wsL_law wsX6_carryOut_r2 := goodIn_r _ [956, 957, 958, 177, 178, 179, 959, 960, 961, 962, 963, 765, 766, 767, 768, 87, 86, 964, 965, 966, 967, 545, 546, 547] (by decide +kernel) (by decide +kernel)
set_option maxRecDepth 20000 in
theorem hX6_carryOut_wsX6_carryOut_r3 : GoodIn wsL_law wsX6_carryOut_r3 := goodIn_r _ [548, 568, 569, 570, 571, 234, 235, 236, 237, 230, 231, 232, 233, 596, 597, 598, 599, 389, 390, 391, 392, 639, 640, 641] (by decide +kernel) (by decide +kernel)
set_option maxRecDepth 20000 in
theorem hX6_carryOut_wsX6_carryOut_r4 : GoodIn wsL_law wsX6_carryOut_r4 := goodIn_r _ [642, 643, 644, 645, 646, 647, 648, 649, 650, 777, 778, 779, 780, 968, 969, 970, 971, 493, 494, 495, 496, 497, 498, 499] (by decide +kernel) (by decide +kernel)
set_option maxRecDepth 20000 in
theorem hX6_carryOut_wsX6_carryOut_r5 : GoodIn wsL_law wsX6_carryOut_r5 := goodIn_r _ [500, 501, 502, 503, 504, 189, 190, 191, 192, 299, 300, 301, 302, 303, 304, 305, 306, 307, 308, 309, 310, 505, 506, 507] (by decide +kernel) (by decide +kernel)
set_option maxRecDepth 20000 in
theorem hX6_carryOut_wsX6_carryOut_r6 : GoodIn wsL_law wsX6_carryOut_r6 := goodIn_r _ [508, 509, 510, 511, 512, 513, 514, 515, 516, 517, 518, 519, 520, 521, 522, 523, 524, 315, 316, 317, 318, 525, 526, 527] (by decide +kernel) (by decide +kernel)
set_option maxRecDepth 20000 in
theorem hX6_carryOut_wsX6_carryOut_r7 : GoodIn wsL_law wsX6_carryOut_r7 := goodIn_r _ [528, 572, 573, 574, 575, 600, 601, 602, 603, 604, 605, 606, 607, 311, 312, 313, 314, 704, 705, 706, 707, 708, 709, 710] (by decide +kernel) (by decide +kernel)
set_option maxRecDepth 20000 in
theorem hX6_carryOut_wsX6_carryOut_r8 : GoodIn wsL_law wsX6_carryOut_r8 := goodIn_r _ [711, 712, 713, 714, 715, 651, 652, 653, 654, 972, 973, 974, 975, 184, 185, 186, 187, 188, 88] (by decide +kernel) (by decide +kernel)
set_option maxRecDepth 20000 in
theorem hX6_carryOut_wsX60 : GoodIn wsL_law wsX60 := goodIn_r _ [1028, 1029, 1030, 1031, 1032, 1033, 1034, 1035, 1036, 1037, 1038, 1039] (by decide +kernel) (by decide +kernel)
theorem ggL_law_X6_carryOut : GoodIn wsL_law wsX6_carryOut := goodIn_c hX6_carryOut_c (goodIn_app (goodIn_app (goodIn_app hX6_carryOut_wsX6_carryOut_r1 (goodIn_app hX6_carryOut_wsX6_carryOut_r2 (goodIn_app hX6_carryOut_wsX6_carryOut_r3 (goodIn_app hX6_carryOut_wsX6_carryOut_r4 (goodIn_app hX6_carryOut_wsX6_carryOut_r5 (goodIn_app hX6_carryOut_wsX6_carryOut_r6 (goodIn_app hX6_carryOut_wsX6_carryOut_r7 hX6_carryOut_wsX6_carryOut_r8))))))) hX6_carryOut_wsX60) (goodIn_sub (fun _ h => by cases h) (by decide +kernel)))
set_option maxRecDepth 20000 in
theorem gL_law_X6_carryOut : GoodIn wsL_law (wsV RL 168 RX6 yX6_carryOut wsX6_carryOut) := goodIn_app (goodIn_of _ (by decide +kernel)) ggL_law_X6_carryOut
set_option maxRecDepth 20000 in
theorem hL_undo_c : GoodIn wsL_law [.codeWith yL_undo cL_undo 3 (some .int) [(0, 8, 11, 15)]] := goodIn_r _ [978] (by decide +kernel) (by decide +kernel)
set_option maxRecDepth 20000 in
theorem hL_undo_wsL_undo_r1 : GoodIn wsL_law wsL_undo_r1 := goodIn_r _ [96, 979, 980, 981, 2, 982, 21, 16, 983, 984, 985, 20, 986, 72, 423, 424, 425, 103, 104, 987, 988, 989, 990, 124] (by decide +kernel) (by decide +kernel)
set_option maxRecDepth 20000 in
theorem hL_undo_wsL_undo_r2 : GoodIn wsL_law wsL_undo_r2 := goodIn_r _ [125, 126, 127, 71, 128, 129, 130, 15, 131, 33, 37, 38, 39, 40, 41, 42, 43, 44, 45, 132, 133, 134, 32, 135] (by decide +kernel) (by decide +kernel)
set_option maxRecDepth 20000 in
theorem hL_undo_wsL_undo_r3 : GoodIn wsL_law wsL_undo_r3 := goodIn_r _ [57, 56, 136, 137, 53, 138, 139, 140, 141, 142, 143, 144, 145, 36, 146, 63, 64, 147] (by decide +kernel) (by decide +kernel)
set_option maxRecDepth 20000 in
theorem hL_undo_wsX50 : GoodIn wsL_law wsX50 := goodIn_r _ [1024, 1025, 1026, 1027] (by decide +kernel) (by decide +kernel)
set_option maxRecDepth 20000 in
theorem hL_undo_wsX20 : GoodIn wsL_law wsX20 := goodIn_r _ [1050, 1051] (by decide +kernel) (by decide +kernel)
set_option maxRecDepth 20000 in
theorem hL_undo_wsX10 : GoodIn wsL_law wsX10 := goodIn_r _ [1040, 1041, 1042, 1043, 1044, 1045, 1046, 1047, 1048, 1049] (by decide +kernel) (by decide +kernel)
set_option maxRecDepth 20000 in
theorem hL_undo_wsX40 : GoodIn wsL_law wsX40 := goodIn_r _ [1054, 1055, 1056] (by decide +kernel) (by decide +kernel)
set_option maxRecDepth 20000 in
theorem hL_undo_wsX00 : GoodIn wsL_law wsX00 := goodIn_r _ [1057, 1058] (by decide +kernel) (by decide +kernel)
theorem ggL_law_L_undo : GoodIn wsL_law wsL_undo := goodIn_c hL_undo_c (goodIn_app (goodIn_app (goodIn_app (goodIn_app (goodIn_app (goodIn_app (goodIn_app (goodIn_app hL_undo_wsL_undo_r1 (goodIn_app hL_undo_wsL_undo_r2 hL_undo_wsL_undo_r3)) hL_undo_wsX50) hL_undo_wsX20) hL_undo_wsX10) hL_undo_wsX40) hL_undo_wsX00) (goodIn_sub (fun _ h => by cases h) (by decide +kernel))) (goodIn_sub (fun _ h => List.mem_append_left _ (List.mem_append_right _ h)) (by decide +kernel)))
set_option maxRecDepth 20000 in
theorem gL_law_L_undo : GoodIn wsL_law (va_wsS RL 169 yL_undo wsL_undo) := goodIn_app (goodIn_of _ (by decide +kernel)) ggL_law_L_undo

