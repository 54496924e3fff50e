set_option maxRecDepth 20000 in
theorem ggL_law_X6_clearText : GoodIn wsL_law wsX6_clearText := goodIn_r _ [875, 90, 862, 1028, 1029, 1030, 1031, 1032, 1033, 1034, 1035, 1036, 1037, 1038, 1039] (by decide +kernel) (by decide +kernel)
set_option maxRecDepth 20000 in
theorem gL_law_X6_clearText : GoodIn wsL_law (wsV RL 164 RX6 yX6_clearText wsX6_clearText) := goodIn_app (goodIn_of _ (by decide +kernel)) ggL_law_X6_clearText
theorem goodIn_c {big a : List Cond} {c : Cond} (hc : GoodIn big [c]) (ha : GoodIn big a) : GoodIn big (c :: a) := fun w h => (List.mem_cons.mp h).elim (fun e => hc w (List.mem_singleton.mpr e)) (ha w)
set_option maxRecDepth 20000 in
theorem gqc : GoodIn wsL_law [.code yX5_carryOut cX5_carryOut 3 (some .int)] := goodIn_r _ [879] (by decide +kernel) (by decide +kernel)
set_option maxRecDepth 20000 in
theorem gq1 : GoodIn wsL_law wsX5_carryOut_r1 := goodIn_r _ [25, 17, 16, 21, 880, 881, 882, 24, 883, 80, 79, 871, 439, 440, 32, 441, 57, 851, 113, 114, 115, 884, 223, 224] (by decide +kernel) (by decide +kernel)
set_option maxRecDepth 20000 in
theorem gq2 : GoodIn wsL_law wsX5_carryOut_r2 := goodIn_r _ [225, 50, 56, 885, 886, 887, 888, 889, 890, 891, 892, 893, 894, 895, 896, 897, 898, 899, 900, 856, 153, 154, 155, 139] (by decide +kernel) (by decide +kernel)
set_option maxRecDepth 20000 in
theorem gq3 : GoodIn wsL_law wsX5_carryOut_r3 := goodIn_r _ [140, 141, 142, 156, 157, 158, 159, 160, 161, 162, 163, 164, 165, 166, 167, 168, 857, 170, 171, 172, 751, 129, 130, 15] (by decide +kernel) (by decide +kernel)
set_option maxRecDepth 20000 in
theorem gq4 : GoodIn wsL_law wsX5_carryOut_r4 := goodIn_r _ [131, 33, 37, 38, 39, 40, 41, 42, 43, 44, 45, 132, 133, 134, 135, 136, 137, 53, 138, 143, 144, 145, 36, 146] (by decide +kernel) (by decide +kernel)
set_option maxRecDepth 20000 in
theorem gq5 : GoodIn wsL_law wsX5_carryOut_r5 := goodIn_r _ [63, 64, 147, 901, 902, 903, 904, 905, 906, 907, 908, 909, 910, 911, 912, 420, 421, 422, 913, 537, 538, 539, 112, 914] (by decide +kernel) (by decide +kernel)
set_option maxRecDepth 20000 in
theorem gq6 : GoodIn wsL_law wsX5_carryOut_r6 := goodIn_r _ [557, 558, 559, 915, 212, 213, 214, 916, 584, 585, 586, 275, 276, 277, 278, 279, 280, 281, 282, 222, 369, 370, 371, 372] (by decide +kernel) (by decide +kernel)
set_option maxRecDepth 20000 in
theorem gq7 : GoodIn wsL_law wsX5_carryOut_r7 := goodIn_r _ [917, 674, 675, 676, 106, 2, 107, 918, 919, 920, 921, 922, 923, 924, 925, 616, 617, 618, 619, 620, 621, 622, 623, 624] (by decide +kernel) (by decide +kernel)
set_option maxRecDepth 20000 in
theorem gq8 : GoodIn wsL_law wsX5_carryOut_r8 := goodIn_r _ [625, 626, 627, 628, 629, 630, 926, 427, 428, 429, 430, 431, 432, 433, 434, 435, 436, 437, 438, 442, 443, 444, 445, 264] (by decide +kernel) (by decide +kernel)
set_option maxRecDepth 20000 in
theorem gq9 : GoodIn wsL_law wsX5_carryOut_r9 := goodIn_r _ [265, 266, 267, 268, 52, 54, 269, 270, 271, 272, 273, 274, 152, 169, 446, 447, 448, 449, 450, 451, 452, 453, 454, 455] (by decide +kernel) (by decide +kernel)
set_option maxRecDepth 20000 in
theorem gq10 : GoodIn wsL_law wsX5_carryOut_r10 := goodIn_r _ [456, 457, 458, 459, 460, 461, 346, 347, 348, 349, 462, 463, 464, 465, 466, 467, 468, 469, 470, 471, 472, 473, 474, 475] (by decide +kernel) (by decide +kernel)
set_option maxRecDepth 20000 in
theorem gq11 : GoodIn wsL_law wsX5_carryOut_r11 := goodIn_r _ [476, 477, 478, 479, 284, 285, 286, 480, 481, 482, 483, 484, 485, 486, 487, 488, 927, 928, 561, 562, 563, 929, 588, 589] (by decide +kernel) (by decide +kernel)
set_option maxRecDepth 20000 in
theorem gq12 : GoodIn wsL_law wsX5_carryOut_r12 := goodIn_r _ [590, 591, 930, 678, 679, 680, 681, 682, 683, 684, 685, 686, 687, 688, 689, 690, 691, 692, 693, 694, 695, 696, 697, 698] (by decide +kernel) (by decide +kernel)
set_option maxRecDepth 20000 in
theorem gq13 : GoodIn wsL_law wsX5_carryOut_r13 := goodIn_r _ [699, 931, 632, 633, 634, 116, 117, 118, 20, 119, 72, 71, 120, 121, 122, 123, 124, 125, 126, 127, 128] (by decide +kernel) (by decide +kernel)
set_option maxRecDepth 20000 in
theorem gq_wsX50 : GoodIn wsL_law wsX50 := goodIn_r _ [1024, 1025, 1026, 1027] (by decide +kernel) (by decide +kernel)
set_option maxRecDepth 20000 in
theorem gq_wsX30 : GoodIn wsL_law wsX30 := goodIn_r _ [1052, 1053] (by decide +kernel) (by decide +kernel)
set_option maxRecDepth 20000 in
theorem gq_wsX40 : GoodIn wsL_law wsX40 := goodIn_r _ [1054, 1055, 1056] (by decide +kernel) (by decide +kernel)
set_option maxRecDepth 20000 in
theorem gq_wsJ40 : GoodIn wsL_law wsJ40 := goodIn_r _ [1059, 1060, 1061, 1062] (by decide +kernel) (by decide +kernel)
set_option maxRecDepth 20000 in
theorem gq_wsJx000600 : GoodIn wsL_law wsJx000600 := goodIn_r _ [1063, 1064, 1065, 1066, 1067, 1068] (by decide +kernel) (by decide +kernel)
set_option maxRecDepth 20000 in
theorem gq_wsX10 : GoodIn wsL_law wsX10 := goodIn_r _ [1040, 1041, 1042, 1043, 1044, 1045, 1046, 1047, 1048, 1049] (by decide +kernel) (by decide +kernel)
set_option maxRecDepth 20000 in
theorem gq_wsX00 : GoodIn wsL_law wsX00 := goodIn_r _ [1057, 1058] (by decide +kernel) (by decide +kernel)
set_option maxRecDepth 20000 in
theorem gq_wsX20 : GoodIn wsL_law wsX20 := goodIn_r _ [1050, 1051] (by decide +kernel) (by decide +kernel)
theorem ggL_law_X5_carryOut : GoodIn wsL_law wsX5_carryOut := goodIn_ca (goodIn_c gqc (goodIn_app (goodIn_app (goodIn_app (goodIn_app (goodIn_app (goodIn_app (goodIn_app (goodIn_app (goodIn_app gq1 (goodIn_app gq2 (goodIn_app gq3 (goodIn_app gq4 (goodIn_app gq5 (goodIn_app gq6 (goodIn_app gq7 (goodIn_app gq8 (goodIn_app gq9 (goodIn_app gq10 (goodIn_app gq11 (goodIn_app gq12 gq13)))))))))))) gq_wsX50) gq_wsX30) gq_wsX40) gq_wsJ40) gq_wsJx000600) gq_wsX10) gq_wsX00) gq_wsX20)) (goodIn_sub (fun _ h => by cases h) (by decide +kernel))
set_option maxRecDepth 20000 in
theorem gL_law_X5_carryOut : GoodIn wsL_law (wsV RL 165 RX5 yX5_carryOut wsX5_carryOut) := goodIn_app (goodIn_of _ (by decide +kernel)) ggL_law_X5_carryOut


