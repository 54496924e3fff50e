set_option maxRecDepth 20000 in
theorem hX6_digest_c : GoodIn wsL_law [.code yX6_digest cX6_digest 3 (some .long)] := goodIn_r _ [1016] (by decide +kernel) (by decide +kernel)
set_option maxRecDepth 20000 in
theorem hX6_digest_wsX6_digest_r1 : GoodIn wsL_law wsX6_digest_r1 := goodIn_r _ [90, 1017, 1018, 862, 86, 188, 1019, 1020, 1021, 5, 1022, 1023, 381, 382, 383, 384, 385, 386, 387, 388, 389, 390, 391, 392] (by decide +kernel) (by decide +kernel)
set_option maxRecDepth 20000 in
theorem hX6_digest_wsX6_digest_r2 : GoodIn wsL_law wsX6_digest_r2 := goodIn_r _ [234, 235, 236, 237, 295, 296, 297, 298, 299, 300, 301, 302, 303, 304, 305, 306, 307, 308, 309, 310, 311, 312, 313, 314] (by decide +kernel) (by decide +kernel)
set_option maxRecDepth 20000 in
theorem hX6_digest_wsX6_digest_r3 : GoodIn wsL_law wsX6_digest_r3 := goodIn_r _ [315, 316, 317, 318, 319, 320, 321, 322, 647, 648, 649, 650] (by decide +kernel) (by decide +kernel)
set_option maxRecDepth 20000 in
theorem hX6_digest_wsX60 : GoodIn wsL_law wsX60 := goodIn_r _ [1028, 1029, 1030, 1031, 1032, 1033, 1034, 1035, 1036, 1037, 1038, 1039] (by decide +kernel) (by decide +kernel)
theorem ggL_law_X6_digest : GoodIn wsL_law wsX6_digest := goodIn_c hX6_digest_c (goodIn_app (goodIn_app (goodIn_app hX6_digest_wsX6_digest_r1 (goodIn_app hX6_digest_wsX6_digest_r2 hX6_digest_wsX6_digest_r3)) hX6_digest_wsX60) (goodIn_sub (fun _ h => by cases h) (by decide +kernel)))
set_option maxRecDepth 20000 in
theorem gL_law_X6_digest : GoodIn wsL_law (wsV RL 176 RX6 yX6_digest wsX6_digest) := goodIn_app (goodIn_of _ (by decide +kernel)) ggL_law_X6_digest



