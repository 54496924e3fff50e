set_option maxRecDepth 20000 in
theorem ggL_law_X6_undo : GoodIn wsL_law wsX6_undo := goodIn_ca (goodIn_r _ [994, 90, 188, 86, 88, 180, 181, 182, 5, 183, 1028, 1029, 1030, 1031, 1032, 1033, 1034, 1035, 1036, 1037, 1038, 1039] (by decide +kernel) (by decide +kernel)) (goodIn_sub (fun _ h => List.mem_append_left _ (List.mem_append_left _ (List.mem_append_left _ (List.mem_append_right _ h)))) (by decide +kernel))
set_option maxRecDepth 20000 in
theorem gL_law_X6_undo : GoodIn wsL_law (wsV RL 171 RX6 yX6_undo wsX6_undo) := goodIn_app (goodIn_of _ (by decide +kernel)) ggL_law_X6_undo
set_option maxRecDepth 20000 in
theorem hX5_digest_c : GoodIn wsL_law [.code yX5_digest cX5_digest 4 (some .long)] := goodIn_r _ [998] (by decide +kernel) (by decide +kernel)
set_option maxRecDepth 20000 in
theorem hX5_digest_wsX5_digest_r1 : GoodIn wsL_law wsX5_digest_r1 := goodIn_r _ [999, 25, 1000, 16, 21, 847, 848, 849, 24, 850, 79, 851, 113, 114, 32, 115, 57, 361, 362, 363, 15, 364, 33, 37] (by decide +kernel) (by decide +kernel)
set_option maxRecDepth 20000 in
theorem hX5_digest_wsX5_digest_r2 : GoodIn wsL_law wsX5_digest_r2 := goodIn_r _ [40, 41, 39, 44, 45, 112, 365, 366, 367, 368, 369, 370, 371, 372, 222, 223, 224, 225, 50, 56, 338, 339, 340, 36] (by decide +kernel) (by decide +kernel)
set_option maxRecDepth 20000 in
theorem hX5_digest_wsX5_digest_r3 : GoodIn wsL_law wsX5_digest_r3 := goodIn_r _ [341, 63, 273, 373, 374, 375, 376, 64, 1001, 1002, 1003, 2, 1004, 108, 109, 110, 111, 260, 261, 262, 263, 264, 265, 266] (by decide +kernel) (by decide +kernel)
set_option maxRecDepth 20000 in
theorem hX5_digest_wsX5_digest_r4 : GoodIn wsL_law wsX5_digest_r4 := goodIn_r _ [267, 268, 52, 53, 54, 269, 270, 271, 272, 274, 275, 276, 277, 278, 38, 279, 280, 281, 282, 283, 284, 285, 286, 287] (by decide +kernel) (by decide +kernel)
set_option maxRecDepth 20000 in
theorem hX5_digest_wsX5_digest_r5 : GoodIn wsL_law wsX5_digest_r5 := goodIn_r _ [288, 289, 290, 1005, 1006, 1007, 1008, 334, 335, 336, 337, 342, 343, 344, 345, 346, 347, 348, 349, 400, 401, 402, 403, 404] (by decide +kernel) (by decide +kernel)
set_option maxRecDepth 20000 in
theorem hX5_digest_wsX5_digest_r6 : GoodIn wsL_law wsX5_digest_r6 := goodIn_r _ [405, 406, 407, 1009, 1010, 1011, 1012, 723, 724, 725, 726, 727, 628, 629, 630, 983, 984, 985, 20, 986, 72] (by decide +kernel) (by decide +kernel)
set_option maxRecDepth 20000 in
theorem hX5_digest_wsX50 : GoodIn wsL_law wsX50 := goodIn_r _ [1024, 1025, 1026, 1027] (by decide +kernel) (by decide +kernel)
set_option maxRecDepth 20000 in
theorem hX5_digest_wsX30 : GoodIn wsL_law wsX30 := goodIn_r _ [1052, 1053] (by decide +kernel) (by decide +kernel)
set_option maxRecDepth 20000 in
theorem hX5_digest_wsX40 : GoodIn wsL_law wsX40 := goodIn_r _ [1054, 1055, 1056] (by decide +kernel) (by decide +kernel)
set_option maxRecDepth 20000 in
theorem hX5_digest_wsX10 : GoodIn wsL_law wsX10 := goodIn_r _ [1040, 1041, 1042, 1043, 1044, 1045, 1046, 1047, 1048, 1049] (by decide +kernel) (by decide +kernel)
set_option maxRecDepth 20000 in
theorem hX5_digest_wsX00 : GoodIn wsL_law wsX00 := goodIn_r _ [1057, 1058] (by decide +kernel) (by decide +kernel)
set_option maxRecDepth 20000 in
theorem hX5_digest_wsX20 : GoodIn wsL_law wsX20 := goodIn_r _ [1050, 1051] (by decide +kernel) (by decide +kernel)
theorem ggL_law_X5_digest : GoodIn wsL_law wsX5_digest := goodIn_c hX5_digest_c (goodIn_app (goodIn_app (goodIn_app (goodIn_app (goodIn_app (goodIn_app (goodIn_app (goodIn_app hX5_digest_wsX5_digest_r1 (goodIn_app hX5_digest_wsX5_digest_r2 (goodIn_app hX5_digest_wsX5_digest_r3 (goodIn_app hX5_digest_wsX5_digest_r4 (goodIn_app hX5_digest_wsX5_digest_r5 hX5_digest_wsX5_digest_r6))))) hX5_digest_wsX50) hX5_digest_wsX30) hX5_digest_wsX40) hX5_digest_wsX10) hX5_digest_wsX00) hX5_digest_wsX20) (goodIn_sub (fun _ h => by cases h) (by decide +kernel)))
set_option maxRecDepth 20000 in
theorem gL_law_X5_digest : GoodIn wsL_law (wsV RL 172 RX5 yX5_digest wsX5_digest) := goodIn_app (goodIn_of _ (by decide +kernel)) ggL_law_X5_digest

