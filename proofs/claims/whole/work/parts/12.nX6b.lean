theorem dX6_canAnswer_1 : decode cX6_canAnswer 1 = .ok (.getfield 7, 3) := by decide +kernel
theorem dX6_canAnswer_4 : decode cX6_canAnswer 4 = .ok (.bipush 8, 2) := by decide +kernel
theorem dX6_canAnswer_6 : decode cX6_canAnswer 6 = .ok (.iaload, 1) := by decide +kernel
theorem dX6_canAnswer_7 : decode cX6_canAnswer 7 = .ok (.iconst 1, 1) := by decide +kernel
theorem dX6_canAnswer_8 : decode cX6_canAnswer 8 = .ok (.bipush 7, 2) := by decide +kernel
theorem dX6_canAnswer_10 : decode cX6_canAnswer 10 = .ok (.invokestatic 29, 3) := by decide +kernel
theorem dX6_canAnswer_13 : decode cX6_canAnswer 13 = .ok (.ifCond .eq 43, 3) := by decide +kernel
theorem dX6_canAnswer_16 : decode cX6_canAnswer 16 = .ok (.aload_n 0, 1) := by decide +kernel
theorem dX6_canAnswer_17 : decode cX6_canAnswer 17 = .ok (.iload_n 1, 1) := by decide +kernel
theorem dX6_canAnswer_18 : decode cX6_canAnswer 18 = .ok (.invokevirtual 55, 3) := by decide +kernel
theorem dX6_canAnswer_21 : decode cX6_canAnswer 21 = .ok (.ifCond .eq 35, 3) := by decide +kernel
theorem dX6_canAnswer_24 : decode cX6_canAnswer 24 = .ok (.aload_n 0, 1) := by decide +kernel
theorem dX6_canAnswer_25 : decode cX6_canAnswer 25 = .ok (.iload_n 1, 1) := by decide +kernel
theorem dX6_canAnswer_26 : decode cX6_canAnswer 26 = .ok (.iconst 3, 1) := by decide +kernel
theorem dX6_canAnswer_27 : decode cX6_canAnswer 27 = .ok (.invokevirtual 33, 3) := by decide +kernel
theorem dX6_canAnswer_30 : decode cX6_canAnswer 30 = .ok (.iconst 1, 1) := by decide +kernel
theorem dX6_canAnswer_31 : decode cX6_canAnswer 31 = .ok (.if_icmp .ne 25, 3) := by decide +kernel
theorem dX6_canAnswer_34 : decode cX6_canAnswer 34 = .ok (.aload_n 0, 1) := by decide +kernel
theorem dX6_canAnswer_35 : decode cX6_canAnswer 35 = .ok (.aload_n 0, 1) := by decide +kernel
theorem dX6_canAnswer_36 : decode cX6_canAnswer 36 = .ok (.getfield 7, 3) := by decide +kernel
theorem dX6_canAnswer_39 : decode cX6_canAnswer 39 = .ok (.bipush 8, 2) := by decide +kernel
theorem dX6_canAnswer_41 : decode cX6_canAnswer 41 = .ok (.iaload, 1) := by decide +kernel
theorem dX6_canAnswer_42 : decode cX6_canAnswer 42 = .ok (.iconst 1, 1) := by decide +kernel
theorem dX6_canAnswer_43 : decode cX6_canAnswer 43 = .ok (.isub, 1) := by decide +kernel
theorem dX6_canAnswer_44 : decode cX6_canAnswer 44 = .ok (.iconst 1, 1) := by decide +kernel
theorem dX6_canAnswer_45 : decode cX6_canAnswer 45 = .ok (.invokevirtual 91, 3) := by decide +kernel
theorem dX6_canAnswer_48 : decode cX6_canAnswer 48 = .ok (.iload_n 1, 1) := by decide +kernel
theorem dX6_canAnswer_49 : decode cX6_canAnswer 49 = .ok (.if_icmp .eq 7, 3) := by decide +kernel
theorem dX6_canAnswer_52 : decode cX6_canAnswer 52 = .ok (.iconst 1, 1) := by decide +kernel
theorem dX6_canAnswer_53 : decode cX6_canAnswer 53 = .ok (.goto 4, 3) := by decide +kernel
theorem dX6_canAnswer_56 : decode cX6_canAnswer 56 = .ok (.iconst 0, 1) := by decide +kernel
theorem dX6_canAnswer_57 : decode cX6_canAnswer 57 = .ok (.ireturn, 1) := by decide +kernel
set_option maxRecDepth 20000 in
theorem ggX6_canAct_X6_canAnswer : GoodIn wsX6_canAct wsX6_canAnswer := goodIn_ca (goodIn_r _ [6, 1, 7, 8, 5, 9, 10, 11, 12, 13, 14, 15, 16, 17, 18, 19, 20, 21, 22, 23, 24, 25, 26, 27, 28, 29, 30, 31, 32, 33] (by decide +kernel) (by decide +kernel)) (goodIn_sub (fun _ h => List.mem_cons_of_mem _ (List.mem_append_right _ h)) (by decide +kernel))
set_option maxRecDepth 20000 in
theorem gX6_canAct_X6_canAnswer : GoodIn wsX6_canAct (wsV RX6 94 RX6 yX6_canAnswer wsX6_canAnswer) := goodIn_app (goodIn_of _ (by decide +kernel)) ggX6_canAct_X6_canAnswer
theorem dX6_canAct_0 : decode cX6_canAct 0 = .ok (.aload_n 0, 1) := by decide +kernel
theorem dX6_canAct_1 : decode cX6_canAct 1 = .ok (.getfield 7, 3) := by decide +kernel
theorem dX6_canAct_4 : decode cX6_canAct 4 = .ok (.bipush 8, 2) := by decide +kernel
theorem dX6_canAct_6 : decode cX6_canAct 6 = .ok (.iaload, 1) := by decide +kernel
theorem dX6_canAct_7 : decode cX6_canAct 7 = .ok (.ifCond .ne 26, 3) := by decide +kernel
theorem dX6_canAct_10 : decode cX6_canAct 10 = .ok (.aload_n 0, 1) := by decide +kernel
theorem dX6_canAct_11 : decode cX6_canAct 11 = .ok (.getfield 7, 3) := by decide +kernel
theorem dX6_canAct_14 : decode cX6_canAct 14 = .ok (.iconst 4, 1) := by decide +kernel
theorem dX6_canAct_15 : decode cX6_canAct 15 = .ok (.iaload, 1) := by decide +kernel
theorem dX6_canAct_16 : decode cX6_canAct 16 = .ok (.iload_n 1, 1) := by decide +kernel
theorem dX6_canAct_17 : decode cX6_canAct 17 = .ok (.if_icmp .ne 12, 3) := by decide +kernel
theorem dX6_canAct_20 : decode cX6_canAct 20 = .ok (.iload_n 2, 1) := by decide +kernel
theorem dX6_canAct_21 : decode cX6_canAct 21 = .ok (.iconst 3, 1) := by decide +kernel
theorem dX6_canAct_22 : decode cX6_canAct 22 = .ok (.if_icmp .eq 7, 3) := by decide +kernel
theorem dX6_canAct_25 : decode cX6_canAct 25 = .ok (.iconst 1, 1) := by decide +kernel
theorem dX6_canAct_26 : decode cX6_canAct 26 = .ok (.goto 12, 3) := by decide +kernel
theorem dX6_canAct_29 : decode cX6_canAct 29 = .ok (.iconst 0, 1) := by decide +kernel
theorem dX6_canAct_30 : decode cX6_canAct 30 = .ok (.goto 8, 3) := by decide +kernel
theorem dX6_canAct_33 : decode cX6_canAct 33 = .ok (.aload_n 0, 1) := by decide +kernel
theorem dX6_canAct_34 : decode cX6_canAct 34 = .ok (.iload_n 1, 1) := by decide +kernel
theorem dX6_canAct_35 : decode cX6_canAct 35 = .ok (.invokevirtual 94, 3) := by decide +kernel
theorem dX6_canAct_38 : decode cX6_canAct 38 = .ok (.ireturn, 1) := by decide +kernel
set_option maxRecDepth 20000 in
theorem ggX6_pushes_X6_set : GoodIn wsX6_pushes wsX6_set := goodIn_ca (goodIn_r _ [6, 1, 7, 8, 9, 10, 11, 12, 13, 14, 15, 16, 17, 18] (by decide +kernel) (by decide +kernel)) (goodIn_sub (fun _ h => List.mem_cons_of_mem _ (List.mem_append_right _ h)) (by decide +kernel))
set_option maxRecDepth 20000 in
theorem gX6_pushes_X6_set : GoodIn wsX6_pushes (wsV RX6 51 RX6 yX6_set wsX6_set) := goodIn_app (goodIn_of _ (by decide +kernel)) ggX6_pushes_X6_set
theorem dX6_pushes_0 : decode cX6_pushes 0 = .ok (.aload_n 0, 1) := by decide +kernel
theorem dX6_pushes_1 : decode cX6_pushes 1 = .ok (.getfield 7, 3) := by decide +kernel
theorem dX6_pushes_4 : decode cX6_pushes 4 = .ok (.bipush 8, 2) := by decide +kernel
theorem dX6_pushes_6 : decode cX6_pushes 6 = .ok (.iaload, 1) := by decide +kernel
theorem dX6_pushes_7 : decode cX6_pushes 7 = .ok (.ifCond .ne 13, 3) := by decide +kernel
theorem dX6_pushes_10 : decode cX6_pushes 10 = .ok (.aload_n 0, 1) := by decide +kernel
theorem dX6_pushes_11 : decode cX6_pushes 11 = .ok (.getfield 7, 3) := by decide +kernel
theorem dX6_pushes_14 : decode cX6_pushes 14 = .ok (.iconst 5, 1) := by decide +kernel
theorem dX6_pushes_15 : decode cX6_pushes 15 = .ok (.iconst 1, 1) := by decide +kernel
theorem dX6_pushes_16 : decode cX6_pushes 16 = .ok (.iastore, 1) := by decide +kernel
theorem dX6_pushes_17 : decode cX6_pushes 17 = .ok (.goto 10, 3) := by decide +kernel
theorem dX6_pushes_20 : decode cX6_pushes 20 = .ok (.aload_n 0, 1) := by decide +kernel
theorem dX6_pushes_21 : decode cX6_pushes 21 = .ok (.iload_n 2, 1) := by decide +kernel
theorem dX6_pushes_22 : decode cX6_pushes 22 = .ok (.iconst 3, 1) := by decide +kernel
theorem dX6_pushes_23 : decode cX6_pushes 23 = .ok (.iconst 0, 1) := by decide +kernel
theorem dX6_pushes_24 : decode cX6_pushes 24 = .ok (.invokevirtual 51, 3) := by decide +kernel
theorem dX6_pushes_27 : decode cX6_pushes 27 = .ok (.sipush 322, 3) := by decide +kernel
theorem dX6_pushes_30 : decode cX6_pushes 30 = .ok (.bipush 7, 2) := by decide +kernel
theorem dX6_pushes_32 : decode cX6_pushes 32 = .ok (.aload_n 0, 1) := by decide +kernel
theorem dX6_pushes_33 : decode cX6_pushes 33 = .ok (.getfield 7, 3) := by decide +kernel
theorem dX6_pushes_36 : decode cX6_pushes 36 = .ok (.bipush 8, 2) := by decide +kernel
theorem dX6_pushes_38 : decode cX6_pushes 38 = .ok (.iaload, 1) := by decide +kernel
theorem dX6_pushes_39 : decode cX6_pushes 39 = .ok (.imul, 1) := by decide +kernel
theorem dX6_pushes_40 : decode cX6_pushes 40 = .ok (.iadd, 1) := by decide +kernel
theorem dX6_pushes_41 : decode cX6_pushes 41 = .ok (.istore 8, 2) := by decide +kernel
theorem dX6_pushes_43 : decode cX6_pushes 43 = .ok (.aload_n 0, 1) := by decide +kernel
theorem dX6_pushes_44 : decode cX6_pushes 44 = .ok (.getfield 7, 3) := by decide +kernel
theorem dX6_pushes_47 : decode cX6_pushes 47 = .ok (.iload 8, 2) := by decide +kernel
theorem dX6_pushes_49 : decode cX6_pushes 49 = .ok (.iload_n 1, 1) := by decide +kernel
theorem dX6_pushes_50 : decode cX6_pushes 50 = .ok (.iastore, 1) := by decide +kernel
theorem dX6_pushes_51 : decode cX6_pushes 51 = .ok (.aload_n 0, 1) := by decide +kernel
theorem dX6_pushes_52 : decode cX6_pushes 52 = .ok (.getfield 7, 3) := by decide +kernel
theorem dX6_pushes_55 : decode cX6_pushes 55 = .ok (.iload 8, 2) := by decide +kernel
theorem dX6_pushes_57 : decode cX6_pushes 57 = .ok (.iconst 1, 1) := by decide +kernel
theorem dX6_pushes_58 : decode cX6_pushes 58 = .ok (.iadd, 1) := by decide +kernel
theorem dX6_pushes_59 : decode cX6_pushes 59 = .ok (.iload_n 2, 1) := by decide +kernel
theorem dX6_pushes_60 : decode cX6_pushes 60 = .ok (.iastore, 1) := by decide +kernel
theorem dX6_pushes_61 : decode cX6_pushes 61 = .ok (.aload_n 0, 1) := by decide +kernel
theorem dX6_pushes_62 : decode cX6_pushes 62 = .ok (.getfield 7, 3) := by decide +kernel
theorem dX6_pushes_65 : decode cX6_pushes 65 = .ok (.iload 8, 2) := by decide +kernel
theorem dX6_pushes_67 : decode cX6_pushes 67 = .ok (.iconst 2, 1) := by decide +kernel
theorem dX6_pushes_68 : decode cX6_pushes 68 = .ok (.iadd, 1) := by decide +kernel
theorem dX6_pushes_69 : decode cX6_pushes 69 = .ok (.iload_n 3, 1) := by decide +kernel
theorem dX6_pushes_70 : decode cX6_pushes 70 = .ok (.iastore, 1) := by decide +kernel
theorem dX6_pushes_71 : decode cX6_pushes 71 = .ok (.aload_n 0, 1) := by decide +kernel
theorem dX6_pushes_72 : decode cX6_pushes 72 = .ok (.getfield 7, 3) := by decide +kernel
theorem dX6_pushes_75 : decode cX6_pushes 75 = .ok (.iload 8, 2) := by decide +kernel
theorem dX6_pushes_77 : decode cX6_pushes 77 = .ok (.iconst 3, 1) := by decide +kernel
theorem dX6_pushes_78 : decode cX6_pushes 78 = .ok (.iadd, 1) := by decide +kernel
theorem dX6_pushes_79 : decode cX6_pushes 79 = .ok (.iload 4, 2) := by decide +kernel
theorem dX6_pushes_81 : decode cX6_pushes 81 = .ok (.iastore, 1) := by decide +kernel
theorem dX6_pushes_82 : decode cX6_pushes 82 = .ok (.aload_n 0, 1) := by decide +kernel
theorem dX6_pushes_83 : decode cX6_pushes 83 = .ok (.getfield 7, 3) := by decide +kernel
theorem dX6_pushes_86 : decode cX6_pushes 86 = .ok (.iload 8, 2) := by decide +kernel
theorem dX6_pushes_88 : decode cX6_pushes 88 = .ok (.iconst 4, 1) := by decide +kernel
theorem dX6_pushes_89 : decode cX6_pushes 89 = .ok (.iadd, 1) := by decide +kernel
theorem dX6_pushes_90 : decode cX6_pushes 90 = .ok (.iload 5, 2) := by decide +kernel
theorem dX6_pushes_92 : decode cX6_pushes 92 = .ok (.iastore, 1) := by decide +kernel
theorem dX6_pushes_93 : decode cX6_pushes 93 = .ok (.aload_n 0, 1) := by decide +kernel
theorem dX6_pushes_94 : decode cX6_pushes 94 = .ok (.getfield 7, 3) := by decide +kernel
theorem dX6_pushes_97 : decode cX6_pushes 97 = .ok (.iload 8, 2) := by decide +kernel
theorem dX6_pushes_99 : decode cX6_pushes 99 = .ok (.iconst 5, 1) := by decide +kernel
theorem dX6_pushes_100 : decode cX6_pushes 100 = .ok (.iadd, 1) := by decide +kernel
theorem dX6_pushes_101 : decode cX6_pushes 101 = .ok (.iload 6, 2) := by decide +kernel
theorem dX6_pushes_103 : decode cX6_pushes 103 = .ok (.iastore, 1) := by decide +kernel
theorem dX6_pushes_104 : decode cX6_pushes 104 = .ok (.aload_n 0, 1) := by decide +kernel
theorem dX6_pushes_105 : decode cX6_pushes 105 = .ok (.getfield 7, 3) := by decide +kernel
theorem dX6_pushes_108 : decode cX6_pushes 108 = .ok (.iload 8, 2) := by decide +kernel
theorem dX6_pushes_110 : decode cX6_pushes 110 = .ok (.bipush 6, 2) := by decide +kernel
theorem dX6_pushes_112 : decode cX6_pushes 112 = .ok (.iadd, 1) := by decide +kernel
theorem dX6_pushes_113 : decode cX6_pushes 113 = .ok (.iload 7, 2) := by decide +kernel
theorem dX6_pushes_115 : decode cX6_pushes 115 = .ok (.iastore, 1) := by decide +kernel
theorem dX6_pushes_116 : decode cX6_pushes 116 = .ok (.aload_n 0, 1) := by decide +kernel
theorem dX6_pushes_117 : decode cX6_pushes 117 = .ok (.getfield 7, 3) := by decide +kernel
theorem dX6_pushes_120 : decode cX6_pushes 120 = .ok (.bipush 8, 2) := by decide +kernel
theorem dX6_pushes_122 : decode cX6_pushes 122 = .ok (.dup2, 1) := by decide +kernel
theorem dX6_pushes_123 : decode cX6_pushes 123 = .ok (.iaload, 1) := by decide +kernel
theorem dX6_pushes_124 : decode cX6_pushes 124 = .ok (.iconst 1, 1) := by decide +kernel
theorem dX6_pushes_125 : decode cX6_pushes 125 = .ok (.iadd, 1) := by decide +kernel
theorem dX6_pushes_126 : decode cX6_pushes 126 = .ok (.iastore, 1) := by decide +kernel
theorem dX6_pushes_127 : decode cX6_pushes 127 = .ok (.aload_n 0, 1) := by decide +kernel
theorem dX6_pushes_128 : decode cX6_pushes 128 = .ok (.getfield 7, 3) := by decide +kernel
theorem dX6_pushes_131 : decode cX6_pushes 131 = .ok (.bipush 8, 2) := by decide +kernel
theorem dX6_pushes_133 : decode cX6_pushes 133 = .ok (.iaload, 1) := by decide +kernel
theorem dX6_pushes_134 : decode cX6_pushes 134 = .ok (.ireturn, 1) := by decide +kernel
set_option maxRecDepth 20000 in
theorem ggX6_beginEffect_X6_ofAct : GoodIn wsX6_beginEffect wsX6_ofAct := goodIn_ca (goodIn_r _ [6, 1, 23, 24, 25, 26, 27, 28, 29, 30, 31, 32, 33, 34] (by decide +kernel) (by decide +kernel)) (goodIn_sub (fun _ h => List.mem_cons_of_mem _ (List.mem_append_right _ h)) (by decide +kernel))
set_option maxRecDepth 20000 in
theorem gX6_beginEffect_X6_ofAct : GoodIn wsX6_beginEffect (wsV RX6 91 RX6 yX6_ofAct wsX6_ofAct) := goodIn_app (goodIn_of _ (by decide +kernel)) ggX6_beginEffect_X6_ofAct
set_option maxRecDepth 20000 in
theorem ggX6_beginEffect_X6_stopHolding : GoodIn wsX6_beginEffect wsX6_stopHolding := goodIn_ca (goodIn_r _ [10, 11, 12, 13, 5, 14, 1, 15, 16, 17, 18, 19, 20, 21, 22, 23, 24, 25, 26, 27, 28, 29, 30, 31, 32, 33, 34] (by decide +kernel) (by decide +kernel)) (goodIn_sub (fun _ h => List.mem_cons_of_mem _ (List.mem_append_right _ h)) (by decide +kernel))
set_option maxRecDepth 20000 in
theorem gX6_beginEffect_X6_stopHolding : GoodIn wsX6_beginEffect (wsV RX6 62 RX6 yX6_stopHolding wsX6_stopHolding) := goodIn_app (goodIn_of _ (by decide +kernel)) ggX6_beginEffect_X6_stopHolding
theorem dX6_beginEffect_0 : decode cX6_beginEffect 0 = .ok (.aload_n 0, 1) := by decide +kernel
theorem dX6_beginEffect_1 : decode cX6_beginEffect 1 = .ok (.iload_n 1, 1) := by decide +kernel
theorem dX6_beginEffect_2 : decode cX6_beginEffect 2 = .ok (.iconst 1, 1) := by decide +kernel
theorem dX6_beginEffect_3 : decode cX6_beginEffect 3 = .ok (.invokevirtual 91, 3) := by decide +kernel
theorem dX6_beginEffect_6 : decode cX6_beginEffect 6 = .ok (.istore_n 2, 1) := by decide +kernel
theorem dX6_beginEffect_7 : decode cX6_beginEffect 7 = .ok (.aload_n 0, 1) := by decide +kernel
theorem dX6_beginEffect_8 : decode cX6_beginEffect 8 = .ok (.iload_n 1, 1) := by decide +kernel
theorem dX6_beginEffect_9 : decode cX6_beginEffect 9 = .ok (.bipush 6, 2) := by decide +kernel
theorem dX6_beginEffect_11 : decode cX6_beginEffect 11 = .ok (.invokevirtual 91, 3) := by decide +kernel
theorem dX6_beginEffect_14 : decode cX6_beginEffect 14 = .ok (.istore_n 3, 1) := by decide +kernel
theorem dX6_beginEffect_15 : decode cX6_beginEffect 15 = .ok (.iload_n 3, 1) := by decide +kernel
theorem dX6_beginEffect_16 : decode cX6_beginEffect 16 = .ok (.iconst 2, 1) := by decide +kernel
theorem dX6_beginEffect_17 : decode cX6_beginEffect 17 = .ok (.irem, 1) := by decide +kernel
theorem dX6_beginEffect_18 : decode cX6_beginEffect 18 = .ok (.iconst 1, 1) := by decide +kernel
theorem dX6_beginEffect_19 : decode cX6_beginEffect 19 = .ok (.if_icmp .ne 8, 3) := by decide +kernel
theorem dX6_beginEffect_22 : decode cX6_beginEffect 22 = .ok (.aload_n 0, 1) := by decide +kernel
theorem dX6_beginEffect_23 : decode cX6_beginEffect 23 = .ok (.iload_n 2, 1) := by decide +kernel
theorem dX6_beginEffect_24 : decode cX6_beginEffect 24 = .ok (.invokevirtual 62, 3) := by decide +kernel
theorem dX6_beginEffect_27 : decode cX6_beginEffect 27 = .ok (.aload_n 0, 1) := by decide +kernel
theorem dX6_beginEffect_28 : decode cX6_beginEffect 28 = .ok (.getfield 7, 3) := by decide +kernel
theorem dX6_beginEffect_31 : decode cX6_beginEffect 31 = .ok (.iconst 1, 1) := by decide +kernel
theorem dX6_beginEffect_32 : decode cX6_beginEffect 32 = .ok (.iaload, 1) := by decide +kernel
theorem dX6_beginEffect_33 : decode cX6_beginEffect 33 = .ok (.bipush 30, 2) := by decide +kernel
theorem dX6_beginEffect_35 : decode cX6_beginEffect 35 = .ok (.if_icmp .ne 4, 3) := by decide +kernel
theorem dX6_beginEffect_38 : decode cX6_beginEffect 38 = .ok (.return_, 1) := by decide +kernel
theorem dX6_beginEffect_39 : decode cX6_beginEffect 39 = .ok (.bipush 82, 2) := by decide +kernel
theorem dX6_beginEffect_41 : decode cX6_beginEffect 41 = .ok (.bipush 8, 2) := by decide +kernel
theorem dX6_beginEffect_43 : decode cX6_beginEffect 43 = .ok (.aload_n 0, 1) := by decide +kernel
theorem dX6_beginEffect_44 : decode cX6_beginEffect 44 = .ok (.getfield 7, 3) := by decide +kernel
theorem dX6_beginEffect_47 : decode cX6_beginEffect 47 = .ok (.iconst 1, 1) := by decide +kernel
theorem dX6_beginEffect_48 : decode cX6_beginEffect 48 = .ok (.iaload, 1) := by decide +kernel
theorem dX6_beginEffect_49 : decode cX6_beginEffect 49 = .ok (.imul, 1) := by decide +kernel
theorem dX6_beginEffect_50 : decode cX6_beginEffect 50 = .ok (.iadd, 1) := by decide +kernel
theorem dX6_beginEffect_51 : decode cX6_beginEffect 51 = .ok (.istore 4, 2) := by decide +kernel
theorem dX6_beginEffect_53 : decode cX6_beginEffect 53 = .ok (.aload_n 0, 1) := by decide +kernel
theorem dX6_beginEffect_54 : decode cX6_beginEffect 54 = .ok (.getfield 7, 3) := by decide +kernel
theorem dX6_beginEffect_57 : decode cX6_beginEffect 57 = .ok (.iload 4, 2) := by decide +kernel
theorem dX6_beginEffect_59 : decode cX6_beginEffect 59 = .ok (.iconst 0, 1) := by decide +kernel
theorem dX6_beginEffect_60 : decode cX6_beginEffect 60 = .ok (.iadd, 1) := by decide +kernel
theorem dX6_beginEffect_61 : decode cX6_beginEffect 61 = .ok (.aload_n 0, 1) := by decide +kernel
theorem dX6_beginEffect_62 : decode cX6_beginEffect 62 = .ok (.iload_n 1, 1) := by decide +kernel
theorem dX6_beginEffect_63 : decode cX6_beginEffect 63 = .ok (.iconst 4, 1) := by decide +kernel
theorem dX6_beginEffect_64 : decode cX6_beginEffect 64 = .ok (.invokevirtual 91, 3) := by decide +kernel
theorem dX6_beginEffect_67 : decode cX6_beginEffect 67 = .ok (.iastore, 1) := by decide +kernel
theorem dX6_beginEffect_68 : decode cX6_beginEffect 68 = .ok (.aload_n 0, 1) := by decide +kernel
theorem dX6_beginEffect_69 : decode cX6_beginEffect 69 = .ok (.getfield 7, 3) := by decide +kernel
theorem dX6_beginEffect_72 : decode cX6_beginEffect 72 = .ok (.iload 4, 2) := by decide +kernel
theorem dX6_beginEffect_74 : decode cX6_beginEffect 74 = .ok (.iconst 1, 1) := by decide +kernel
theorem dX6_beginEffect_75 : decode cX6_beginEffect 75 = .ok (.iadd, 1) := by decide +kernel
theorem dX6_beginEffect_76 : decode cX6_beginEffect 76 = .ok (.aload_n 0, 1) := by decide +kernel
theorem dX6_beginEffect_77 : decode cX6_beginEffect 77 = .ok (.iload_n 1, 1) := by decide +kernel
theorem dX6_beginEffect_78 : decode cX6_beginEffect 78 = .ok (.iconst 3, 1) := by decide +kernel
theorem dX6_beginEffect_79 : decode cX6_beginEffect 79 = .ok (.invokevirtual 91, 3) := by decide +kernel
theorem dX6_beginEffect_82 : decode cX6_beginEffect 82 = .ok (.iastore, 1) := by decide +kernel
theorem dX6_beginEffect_83 : decode cX6_beginEffect 83 = .ok (.aload_n 0, 1) := by decide +kernel
theorem dX6_beginEffect_84 : decode cX6_beginEffect 84 = .ok (.getfield 7, 3) := by decide +kernel
theorem dX6_beginEffect_87 : decode cX6_beginEffect 87 = .ok (.iload 4, 2) := by decide +kernel
theorem dX6_beginEffect_89 : decode cX6_beginEffect 89 = .ok (.iconst 2, 1) := by decide +kernel
theorem dX6_beginEffect_90 : decode cX6_beginEffect 90 = .ok (.iadd, 1) := by decide +kernel
theorem dX6_beginEffect_91 : decode cX6_beginEffect 91 = .ok (.iload_n 2, 1) := by decide +kernel
theorem dX6_beginEffect_92 : decode cX6_beginEffect 92 = .ok (.iastore, 1) := by decide +kernel
theorem dX6_beginEffect_93 : decode cX6_beginEffect 93 = .ok (.aload_n 0, 1) := by decide +kernel
theorem dX6_beginEffect_94 : decode cX6_beginEffect 94 = .ok (.getfield 7, 3) := by decide +kernel
theorem dX6_beginEffect_97 : decode cX6_beginEffect 97 = .ok (.iload 4, 2) := by decide +kernel
theorem dX6_beginEffect_99 : decode cX6_beginEffect 99 = .ok (.iconst 3, 1) := by decide +kernel
theorem dX6_beginEffect_100 : decode cX6_beginEffect 100 = .ok (.iadd, 1) := by decide +kernel
theorem dX6_beginEffect_101 : decode cX6_beginEffect 101 = .ok (.aload_n 0, 1) := by decide +kernel
theorem dX6_beginEffect_102 : decode cX6_beginEffect 102 = .ok (.iload_n 1, 1) := by decide +kernel
theorem dX6_beginEffect_103 : decode cX6_beginEffect 103 = .ok (.iconst 2, 1) := by decide +kernel
theorem dX6_beginEffect_104 : decode cX6_beginEffect 104 = .ok (.invokevirtual 91, 3) := by decide +kernel
theorem dX6_beginEffect_107 : decode cX6_beginEffect 107 = .ok (.iastore, 1) := by decide +kernel
theorem dX6_beginEffect_108 : decode cX6_beginEffect 108 = .ok (.aload_n 0, 1) := by decide +kernel
theorem dX6_beginEffect_109 : decode cX6_beginEffect 109 = .ok (.getfield 7, 3) := by decide +kernel
theorem dX6_beginEffect_112 : decode cX6_beginEffect 112 = .ok (.iload 4, 2) := by decide +kernel
theorem dX6_beginEffect_114 : decode cX6_beginEffect 114 = .ok (.iconst 4, 1) := by decide +kernel
theorem dX6_beginEffect_115 : decode cX6_beginEffect 115 = .ok (.iadd, 1) := by decide +kernel
theorem dX6_beginEffect_116 : decode cX6_beginEffect 116 = .ok (.aload_n 0, 1) := by decide +kernel
theorem dX6_beginEffect_117 : decode cX6_beginEffect 117 = .ok (.iload_n 1, 1) := by decide +kernel
theorem dX6_beginEffect_118 : decode cX6_beginEffect 118 = .ok (.iconst 5, 1) := by decide +kernel
theorem dX6_beginEffect_119 : decode cX6_beginEffect 119 = .ok (.invokevirtual 91, 3) := by decide +kernel
theorem dX6_beginEffect_122 : decode cX6_beginEffect 122 = .ok (.iastore, 1) := by decide +kernel
theorem dX6_beginEffect_123 : decode cX6_beginEffect 123 = .ok (.aload_n 0, 1) := by decide +kernel
theorem dX6_beginEffect_124 : decode cX6_beginEffect 124 = .ok (.getfield 7, 3) := by decide +kernel
theorem dX6_beginEffect_127 : decode cX6_beginEffect 127 = .ok (.iload 4, 2) := by decide +kernel
theorem dX6_beginEffect_129 : decode cX6_beginEffect 129 = .ok (.iconst 5, 1) := by decide +kernel
theorem dX6_beginEffect_130 : decode cX6_beginEffect 130 = .ok (.iadd, 1) := by decide +kernel
theorem dX6_beginEffect_131 : decode cX6_beginEffect 131 = .ok (.iload_n 3, 1) := by decide +kernel
theorem dX6_beginEffect_132 : decode cX6_beginEffect 132 = .ok (.iconst 2, 1) := by decide +kernel
theorem dX6_beginEffect_133 : decode cX6_beginEffect 133 = .ok (.idiv, 1) := by decide +kernel
theorem dX6_beginEffect_134 : decode cX6_beginEffect 134 = .ok (.iastore, 1) := by decide +kernel
theorem dX6_beginEffect_135 : decode cX6_beginEffect 135 = .ok (.aload_n 0, 1) := by decide +kernel
theorem dX6_beginEffect_136 : decode cX6_beginEffect 136 = .ok (.getfield 7, 3) := by decide +kernel
theorem dX6_beginEffect_139 : decode cX6_beginEffect 139 = .ok (.iload 4, 2) := by decide +kernel
theorem dX6_beginEffect_141 : decode cX6_beginEffect 141 = .ok (.bipush 6, 2) := by decide +kernel
theorem dX6_beginEffect_143 : decode cX6_beginEffect 143 = .ok (.iadd, 1) := by decide +kernel
theorem dX6_beginEffect_144 : decode cX6_beginEffect 144 = .ok (.iload_n 3, 1) := by decide +kernel
theorem dX6_beginEffect_145 : decode cX6_beginEffect 145 = .ok (.iconst 2, 1) := by decide +kernel
theorem dX6_beginEffect_146 : decode cX6_beginEffect 146 = .ok (.irem, 1) := by decide +kernel
theorem dX6_beginEffect_147 : decode cX6_beginEffect 147 = .ok (.iastore, 1) := by decide +kernel
theorem dX6_beginEffect_148 : decode cX6_beginEffect 148 = .ok (.aload_n 0, 1) := by decide +kernel
theorem dX6_beginEffect_149 : decode cX6_beginEffect 149 = .ok (.getfield 7, 3) := by decide +kernel
theorem dX6_beginEffect_152 : decode cX6_beginEffect 152 = .ok (.iload 4, 2) := by decide +kernel
theorem dX6_beginEffect_154 : decode cX6_beginEffect 154 = .ok (.bipush 7, 2) := by decide +kernel
theorem dX6_beginEffect_156 : decode cX6_beginEffect 156 = .ok (.iadd, 1) := by decide +kernel
theorem dX6_beginEffect_157 : decode cX6_beginEffect 157 = .ok (.aload_n 0, 1) := by decide +kernel
theorem dX6_beginEffect_158 : decode cX6_beginEffect 158 = .ok (.getfield 7, 3) := by decide +kernel
theorem dX6_beginEffect_161 : decode cX6_beginEffect 161 = .ok (.bipush 11, 2) := by decide +kernel
theorem dX6_beginEffect_163 : decode cX6_beginEffect 163 = .ok (.iaload, 1) := by decide +kernel
theorem dX6_beginEffect_164 : decode cX6_beginEffect 164 = .ok (.iastore, 1) := by decide +kernel
theorem dX6_beginEffect_165 : decode cX6_beginEffect 165 = .ok (.aload_n 0, 1) := by decide +kernel
theorem dX6_beginEffect_166 : decode cX6_beginEffect 166 = .ok (.getfield 7, 3) := by decide +kernel
theorem dX6_beginEffect_169 : decode cX6_beginEffect 169 = .ok (.bipush 11, 2) := by decide +kernel
theorem dX6_beginEffect_171 : decode cX6_beginEffect 171 = .ok (.dup2, 1) := by decide +kernel
theorem dX6_beginEffect_172 : decode cX6_beginEffect 172 = .ok (.iaload, 1) := by decide +kernel
theorem dX6_beginEffect_173 : decode cX6_beginEffect 173 = .ok (.iconst 1, 1) := by decide +kernel
theorem dX6_beginEffect_174 : decode cX6_beginEffect 174 = .ok (.iadd, 1) := by decide +kernel
theorem dX6_beginEffect_175 : decode cX6_beginEffect 175 = .ok (.iastore, 1) := by decide +kernel
theorem dX6_beginEffect_176 : decode cX6_beginEffect 176 = .ok (.aload_n 0, 1) := by decide +kernel
theorem dX6_beginEffect_177 : decode cX6_beginEffect 177 = .ok (.getfield 7, 3) := by decide +kernel
theorem dX6_beginEffect_180 : decode cX6_beginEffect 180 = .ok (.iconst 1, 1) := by decide +kernel
theorem dX6_beginEffect_181 : decode cX6_beginEffect 181 = .ok (.dup2, 1) := by decide +kernel
theorem dX6_beginEffect_182 : decode cX6_beginEffect 182 = .ok (.iaload, 1) := by decide +kernel
theorem dX6_beginEffect_183 : decode cX6_beginEffect 183 = .ok (.iconst 1, 1) := by decide +kernel
theorem dX6_beginEffect_184 : decode cX6_beginEffect 184 = .ok (.iadd, 1) := by decide +kernel
theorem dX6_beginEffect_185 : decode cX6_beginEffect 185 = .ok (.iastore, 1) := by decide +kernel
theorem dX6_beginEffect_186 : decode cX6_beginEffect 186 = .ok (.return_, 1) := by decide +kernel
set_option maxRecDepth 20000 in
theorem ggX6_happen_X6_ofAct : GoodIn wsX6_happen wsX6_ofAct := goodIn_ca (goodIn_r _ [6, 1, 51, 52, 53, 54, 55, 56, 57, 58, 59, 60, 61, 62] (by decide +kernel) (by decide +kernel)) (goodIn_sub (fun _ h => List.mem_cons_of_mem _ (List.mem_append_right _ h)) (by decide +kernel))
set_option maxRecDepth 20000 in
theorem gX6_happen_X6_ofAct : GoodIn wsX6_happen (wsV RX6 91 RX6 yX6_ofAct wsX6_ofAct) := goodIn_app (goodIn_of _ (by decide +kernel)) ggX6_happen_X6_ofAct
set_option maxRecDepth 20000 in
theorem ggX6_happen_X6_harm : GoodIn wsX6_happen wsX6_harm := goodIn_ca (goodIn_r _ [10, 1, 11, 12, 13, 5, 14, 15, 16, 17, 18, 19, 20, 21, 22, 23, 24, 25, 26, 27, 28, 29, 30, 31, 32, 33, 34, 35, 36, 37, 38, 39, 40, 41, 42, 43, 44, 45, 46, 51, 52, 53, 54, 55, 56, 57, 58, 59, 60, 61, 62] (by decide +kernel) (by decide +kernel)) (goodIn_sub (fun _ h => List.mem_cons_of_mem _ (List.mem_append_right _ h)) (by decide +kernel))
set_option maxRecDepth 20000 in
theorem gX6_happen_X6_harm : GoodIn wsX6_happen (wsV RX6 68 RX6 yX6_harm wsX6_harm) := goodIn_app (goodIn_of _ (by decide +kernel)) ggX6_happen_X6_harm
set_option maxRecDepth 20000 in
theorem ggX6_happen_X6_of : GoodIn wsX6_happen wsX6_of := goodIn_ca (goodIn_r _ [22, 1, 51, 52, 53, 54, 55, 56, 57, 58, 59, 60, 61, 62] (by decide +kernel) (by decide +kernel)) (goodIn_sub (fun _ h => List.mem_cons_of_mem _ (List.mem_append_right _ h)) (by decide +kernel))
set_option maxRecDepth 20000 in
theorem gX6_happen_X6_of : GoodIn wsX6_happen (wsV RX6 33 RX6 yX6_of wsX6_of) := goodIn_app (goodIn_of _ (by decide +kernel)) ggX6_happen_X6_of
set_option maxRecDepth 20000 in
theorem ggX6_happen_X6_set : GoodIn wsX6_happen wsX6_set := goodIn_ca (goodIn_r _ [26, 1, 51, 52, 53, 54, 55, 56, 57, 58, 59, 60, 61, 62] (by decide +kernel) (by decide +kernel)) (goodIn_sub (fun _ h => List.mem_cons_of_mem _ (List.mem_append_right _ h)) (by decide +kernel))
set_option maxRecDepth 20000 in
theorem gX6_happen_X6_set : GoodIn wsX6_happen (wsV RX6 51 RX6 yX6_set wsX6_set) := goodIn_app (goodIn_of _ (by decide +kernel)) ggX6_happen_X6_set
set_option maxRecDepth 20000 in
theorem ggX6_happen_X6_beginEffect : GoodIn wsX6_happen wsX6_beginEffect := goodIn_ca (goodIn_r _ [50, 1, 2, 3, 4, 5, 6, 39, 40, 41, 42, 43, 44, 45, 46, 15, 16, 17, 18, 35, 36, 37, 38, 51, 52, 53, 54, 55, 56, 57, 58, 59, 60, 61, 62] (by decide +kernel) (by decide +kernel)) (goodIn_sub (fun _ h => List.mem_cons_of_mem _ (List.mem_append_right _ h)) (by decide +kernel))
set_option maxRecDepth 20000 in
theorem gX6_happen_X6_beginEffect : GoodIn wsX6_happen (wsV RX6 97 RX6 yX6_beginEffect wsX6_beginEffect) := goodIn_app (goodIn_of _ (by decide +kernel)) ggX6_happen_X6_beginEffect
theorem dX6_happen_0 : decode cX6_happen 0 = .ok (.aload_n 0, 1) := by decide +kernel
theorem dX6_happen_1 : decode cX6_happen 1 = .ok (.iload_n 1, 1) := by decide +kernel
theorem dX6_happen_2 : decode cX6_happen 2 = .ok (.iconst 2, 1) := by decide +kernel
theorem dX6_happen_3 : decode cX6_happen 3 = .ok (.invokevirtual 91, 3) := by decide +kernel
theorem dX6_happen_6 : decode cX6_happen 6 = .ok (.istore_n 2, 1) := by decide +kernel
theorem dX6_happen_7 : decode cX6_happen 7 = .ok (.aload_n 0, 1) := by decide +kernel
theorem dX6_happen_8 : decode cX6_happen 8 = .ok (.iload_n 1, 1) := by decide +kernel
theorem dX6_happen_9 : decode cX6_happen 9 = .ok (.iconst 3, 1) := by decide +kernel
theorem dX6_happen_10 : decode cX6_happen 10 = .ok (.invokevirtual 91, 3) := by decide +kernel
theorem dX6_happen_13 : decode cX6_happen 13 = .ok (.istore_n 3, 1) := by decide +kernel
theorem dX6_happen_14 : decode cX6_happen 14 = .ok (.aload_n 0, 1) := by decide +kernel
theorem dX6_happen_15 : decode cX6_happen 15 = .ok (.iload_n 1, 1) := by decide +kernel
theorem dX6_happen_16 : decode cX6_happen 16 = .ok (.iconst 0, 1) := by decide +kernel
theorem dX6_happen_17 : decode cX6_happen 17 = .ok (.invokevirtual 91, 3) := by decide +kernel
theorem dX6_happen_20 : decode cX6_happen 20 = .ok (.tableswitch 87 0 2 #[28, 38, 79], 28) := by decide +kernel
theorem dX6_happen_48 : decode cX6_happen 48 = .ok (.aload_n 0, 1) := by decide +kernel
theorem dX6_happen_49 : decode cX6_happen 49 = .ok (.iload_n 2, 1) := by decide +kernel
theorem dX6_happen_50 : decode cX6_happen 50 = .ok (.iload_n 3, 1) := by decide +kernel
theorem dX6_happen_51 : decode cX6_happen 51 = .ok (.iconst 0, 1) := by decide +kernel
theorem dX6_happen_52 : decode cX6_happen 52 = .ok (.invokevirtual 68, 3) := by decide +kernel
theorem dX6_happen_55 : decode cX6_happen 55 = .ok (.goto 77, 3) := by decide +kernel
theorem dX6_happen_58 : decode cX6_happen 58 = .ok (.aload_n 0, 1) := by decide +kernel
theorem dX6_happen_59 : decode cX6_happen 59 = .ok (.iload_n 2, 1) := by decide +kernel
theorem dX6_happen_60 : decode cX6_happen 60 = .ok (.iconst 2, 1) := by decide +kernel
theorem dX6_happen_61 : decode cX6_happen 61 = .ok (.invokevirtual 33, 3) := by decide +kernel
theorem dX6_happen_64 : decode cX6_happen 64 = .ok (.iload_n 3, 1) := by decide +kernel
theorem dX6_happen_65 : decode cX6_happen 65 = .ok (.iadd, 1) := by decide +kernel
theorem dX6_happen_66 : decode cX6_happen 66 = .ok (.istore 4, 2) := by decide +kernel
theorem dX6_happen_68 : decode cX6_happen 68 = .ok (.aload_n 0, 1) := by decide +kernel
theorem dX6_happen_69 : decode cX6_happen 69 = .ok (.iload_n 2, 1) := by decide +kernel
theorem dX6_happen_70 : decode cX6_happen 70 = .ok (.iconst 2, 1) := by decide +kernel
theorem dX6_happen_71 : decode cX6_happen 71 = .ok (.iload 4, 2) := by decide +kernel
theorem dX6_happen_73 : decode cX6_happen 73 = .ok (.aload_n 0, 1) := by decide +kernel
theorem dX6_happen_74 : decode cX6_happen 74 = .ok (.iload_n 2, 1) := by decide +kernel
theorem dX6_happen_75 : decode cX6_happen 75 = .ok (.iconst 1, 1) := by decide +kernel
theorem dX6_happen_76 : decode cX6_happen 76 = .ok (.invokevirtual 33, 3) := by decide +kernel
theorem dX6_happen_79 : decode cX6_happen 79 = .ok (.if_icmp .le 12, 3) := by decide +kernel
theorem dX6_happen_82 : decode cX6_happen 82 = .ok (.aload_n 0, 1) := by decide +kernel
theorem dX6_happen_83 : decode cX6_happen 83 = .ok (.iload_n 2, 1) := by decide +kernel
theorem dX6_happen_84 : decode cX6_happen 84 = .ok (.iconst 1, 1) := by decide +kernel
theorem dX6_happen_85 : decode cX6_happen 85 = .ok (.invokevirtual 33, 3) := by decide +kernel
theorem dX6_happen_88 : decode cX6_happen 88 = .ok (.goto 5, 3) := by decide +kernel
theorem dX6_happen_91 : decode cX6_happen 91 = .ok (.iload 4, 2) := by decide +kernel
theorem dX6_happen_93 : decode cX6_happen 93 = .ok (.invokevirtual 51, 3) := by decide +kernel
theorem dX6_happen_96 : decode cX6_happen 96 = .ok (.goto 36, 3) := by decide +kernel
theorem dX6_happen_99 : decode cX6_happen 99 = .ok (.aload_n 0, 1) := by decide +kernel
theorem dX6_happen_100 : decode cX6_happen 100 = .ok (.iload_n 1, 1) := by decide +kernel
theorem dX6_happen_101 : decode cX6_happen 101 = .ok (.invokevirtual 97, 3) := by decide +kernel
theorem dX6_happen_104 : decode cX6_happen 104 = .ok (.goto 28, 3) := by decide +kernel
theorem dX6_happen_107 : decode cX6_happen 107 = .ok (.aload_n 0, 1) := by decide +kernel
theorem dX6_happen_108 : decode cX6_happen 108 = .ok (.getfield 7, 3) := by decide +kernel
theorem dX6_happen_111 : decode cX6_happen 111 = .ok (.bipush 8, 2) := by decide +kernel
theorem dX6_happen_113 : decode cX6_happen 113 = .ok (.dup2, 1) := by decide +kernel
theorem dX6_happen_114 : decode cX6_happen 114 = .ok (.iaload, 1) := by decide +kernel
theorem dX6_happen_115 : decode cX6_happen 115 = .ok (.aload_n 0, 1) := by decide +kernel
theorem dX6_happen_116 : decode cX6_happen 116 = .ok (.getfield 7, 3) := by decide +kernel
theorem dX6_happen_119 : decode cX6_happen 119 = .ok (.bipush 8, 2) := by decide +kernel
theorem dX6_happen_121 : decode cX6_happen 121 = .ok (.iaload, 1) := by decide +kernel
theorem dX6_happen_122 : decode cX6_happen 122 = .ok (.ifCond .le 7, 3) := by decide +kernel
theorem dX6_happen_125 : decode cX6_happen 125 = .ok (.iconst 1, 1) := by decide +kernel
theorem dX6_happen_126 : decode cX6_happen 126 = .ok (.goto 4, 3) := by decide +kernel
theorem dX6_happen_129 : decode cX6_happen 129 = .ok (.iconst 0, 1) := by decide +kernel
theorem dX6_happen_130 : decode cX6_happen 130 = .ok (.isub, 1) := by decide +kernel
theorem dX6_happen_131 : decode cX6_happen 131 = .ok (.iastore, 1) := by decide +kernel
theorem dX6_happen_132 : decode cX6_happen 132 = .ok (.return_, 1) := by decide +kernel
set_option maxRecDepth 20000 in
theorem ggX6_settles_X6_ofAct : GoodIn wsX6_settles wsX6_ofAct := goodIn_ca (goodIn_r _ [6, 1, 55, 56, 57, 58, 59, 60, 61, 62, 63, 64, 65, 66] (by decide +kernel) (by decide +kernel)) (goodIn_sub (fun _ h => List.mem_cons_of_mem _ (List.mem_append_right _ h)) (by decide +kernel))
set_option maxRecDepth 20000 in
theorem gX6_settles_X6_ofAct : GoodIn wsX6_settles (wsV RX6 91 RX6 yX6_ofAct wsX6_ofAct) := goodIn_app (goodIn_of _ (by decide +kernel)) ggX6_settles_X6_ofAct
set_option maxRecDepth 20000 in
theorem ggX6_settles_X6_stands : GoodIn wsX6_settles wsX6_stands := goodIn_ca (goodIn_r _ [10, 11, 12, 13, 5, 14, 1, 55, 56, 57, 58, 59, 60, 61, 62, 63, 64, 65, 66] (by decide +kernel) (by decide +kernel)) (goodIn_sub (fun _ h => List.mem_cons_of_mem _ (List.mem_append_right _ h)) (by decide +kernel))
set_option maxRecDepth 20000 in
theorem gX6_settles_X6_stands : GoodIn wsX6_settles (wsV RX6 55 RX6 yX6_stands wsX6_stands) := goodIn_app (goodIn_of _ (by decide +kernel)) ggX6_settles_X6_stands
set_option maxRecDepth 20000 in
theorem ggX6_settles_X6_happen : GoodIn wsX6_settles wsX6_happen := goodIn_ca (goodIn_r _ [18, 1, 2, 3, 4, 5, 6, 19, 20, 21, 22, 23, 24, 25, 26, 27, 28, 29, 30, 11, 12, 13, 14, 31, 32, 33, 34, 7, 8, 9, 10, 35, 36, 37, 38, 39, 40, 41, 42, 43, 44, 45, 46, 47, 48, 49, 50, 51, 52, 53, 54, 55, 56, 57, 58, 59, 60, 61, 62, 63, 64, 65, 66] (by decide +kernel) (by decide +kernel)) (goodIn_sub (fun _ h => List.mem_cons_of_mem _ (List.mem_append_right _ h)) (by decide +kernel))
set_option maxRecDepth 20000 in
theorem gX6_settles_X6_happen : GoodIn wsX6_settles (wsV RX6 100 RX6 yX6_happen wsX6_happen) := goodIn_app (goodIn_of _ (by decide +kernel)) ggX6_settles_X6_happen
theorem dX6_settles_0 : decode cX6_settles 0 = .ok (.iconst 0, 1) := by decide +kernel
theorem dX6_settles_1 : decode cX6_settles 1 = .ok (.istore_n 1, 1) := by decide +kernel
theorem dX6_settles_2 : decode cX6_settles 2 = .ok (.aload_n 0, 1) := by decide +kernel
theorem dX6_settles_3 : decode cX6_settles 3 = .ok (.getfield 7, 3) := by decide +kernel
theorem dX6_settles_6 : decode cX6_settles 6 = .ok (.bipush 8, 2) := by decide +kernel
theorem dX6_settles_8 : decode cX6_settles 8 = .ok (.iaload, 1) := by decide +kernel
theorem dX6_settles_9 : decode cX6_settles 9 = .ok (.ifCond .le 69, 3) := by decide +kernel
theorem dX6_settles_12 : decode cX6_settles 12 = .ok (.aload_n 0, 1) := by decide +kernel
theorem dX6_settles_13 : decode cX6_settles 13 = .ok (.getfield 7, 3) := by decide +kernel
theorem dX6_settles_16 : decode cX6_settles 16 = .ok (.bipush 8, 2) := by decide +kernel
theorem dX6_settles_18 : decode cX6_settles 18 = .ok (.dup2, 1) := by decide +kernel
theorem dX6_settles_19 : decode cX6_settles 19 = .ok (.iaload, 1) := by decide +kernel
theorem dX6_settles_20 : decode cX6_settles 20 = .ok (.iconst 1, 1) := by decide +kernel
theorem dX6_settles_21 : decode cX6_settles 21 = .ok (.isub, 1) := by decide +kernel
theorem dX6_settles_22 : decode cX6_settles 22 = .ok (.iastore, 1) := by decide +kernel
theorem dX6_settles_23 : decode cX6_settles 23 = .ok (.aload_n 0, 1) := by decide +kernel
theorem dX6_settles_24 : decode cX6_settles 24 = .ok (.getfield 7, 3) := by decide +kernel
theorem dX6_settles_27 : decode cX6_settles 27 = .ok (.bipush 8, 2) := by decide +kernel
theorem dX6_settles_29 : decode cX6_settles 29 = .ok (.iaload, 1) := by decide +kernel
theorem dX6_settles_30 : decode cX6_settles 30 = .ok (.istore_n 2, 1) := by decide +kernel
theorem dX6_settles_31 : decode cX6_settles 31 = .ok (.aload_n 0, 1) := by decide +kernel
theorem dX6_settles_32 : decode cX6_settles 32 = .ok (.aload_n 0, 1) := by decide +kernel
theorem dX6_settles_33 : decode cX6_settles 33 = .ok (.iload_n 2, 1) := by decide +kernel
theorem dX6_settles_34 : decode cX6_settles 34 = .ok (.iconst 1, 1) := by decide +kernel
theorem dX6_settles_35 : decode cX6_settles 35 = .ok (.invokevirtual 91, 3) := by decide +kernel
theorem dX6_settles_38 : decode cX6_settles 38 = .ok (.invokevirtual 55, 3) := by decide +kernel
theorem dX6_settles_41 : decode cX6_settles 41 = .ok (.ifCond .eq 34, 3) := by decide +kernel
theorem dX6_settles_44 : decode cX6_settles 44 = .ok (.aload_n 0, 1) := by decide +kernel
theorem dX6_settles_45 : decode cX6_settles 45 = .ok (.iload_n 2, 1) := by decide +kernel
theorem dX6_settles_46 : decode cX6_settles 46 = .ok (.iconst 0, 1) := by decide +kernel
theorem dX6_settles_47 : decode cX6_settles 47 = .ok (.invokevirtual 91, 3) := by decide +kernel
theorem dX6_settles_50 : decode cX6_settles 50 = .ok (.iconst 3, 1) := by decide +kernel
theorem dX6_settles_51 : decode cX6_settles 51 = .ok (.if_icmp .eq 16, 3) := by decide +kernel
theorem dX6_settles_54 : decode cX6_settles 54 = .ok (.aload_n 0, 1) := by decide +kernel
theorem dX6_settles_55 : decode cX6_settles 55 = .ok (.aload_n 0, 1) := by decide +kernel
theorem dX6_settles_56 : decode cX6_settles 56 = .ok (.iload_n 2, 1) := by decide +kernel
theorem dX6_settles_57 : decode cX6_settles 57 = .ok (.iconst 2, 1) := by decide +kernel
theorem dX6_settles_58 : decode cX6_settles 58 = .ok (.invokevirtual 91, 3) := by decide +kernel
theorem dX6_settles_61 : decode cX6_settles 61 = .ok (.invokevirtual 55, 3) := by decide +kernel
theorem dX6_settles_64 : decode cX6_settles 64 = .ok (.ifCond .eq 11, 3) := by decide +kernel
theorem dX6_settles_67 : decode cX6_settles 67 = .ok (.aload_n 0, 1) := by decide +kernel
theorem dX6_settles_68 : decode cX6_settles 68 = .ok (.iload_n 2, 1) := by decide +kernel
theorem dX6_settles_69 : decode cX6_settles 69 = .ok (.invokevirtual 100, 3) := by decide +kernel
theorem dX6_settles_72 : decode cX6_settles 72 = .ok (.iinc 1 1, 3) := by decide +kernel
theorem dX6_settles_75 : decode cX6_settles 75 = .ok (.goto (-73), 3) := by decide +kernel
theorem dX6_settles_78 : decode cX6_settles 78 = .ok (.aload_n 0, 1) := by decide +kernel
theorem dX6_settles_79 : decode cX6_settles 79 = .ok (.getfield 7, 3) := by decide +kernel
theorem dX6_settles_82 : decode cX6_settles 82 = .ok (.iconst 4, 1) := by decide +kernel
theorem dX6_settles_83 : decode cX6_settles 83 = .ok (.iaload, 1) := by decide +kernel
theorem dX6_settles_84 : decode cX6_settles 84 = .ok (.iconst (-1), 1) := by decide +kernel
theorem dX6_settles_85 : decode cX6_settles 85 = .ok (.if_icmp .eq 23, 3) := by decide +kernel
theorem dX6_settles_88 : decode cX6_settles 88 = .ok (.aload_n 0, 1) := by decide +kernel
theorem dX6_settles_89 : decode cX6_settles 89 = .ok (.aload_n 0, 1) := by decide +kernel
theorem dX6_settles_90 : decode cX6_settles 90 = .ok (.getfield 7, 3) := by decide +kernel
theorem dX6_settles_93 : decode cX6_settles 93 = .ok (.iconst 4, 1) := by decide +kernel
theorem dX6_settles_94 : decode cX6_settles 94 = .ok (.iaload, 1) := by decide +kernel
theorem dX6_settles_95 : decode cX6_settles 95 = .ok (.invokevirtual 55, 3) := by decide +kernel
theorem dX6_settles_98 : decode cX6_settles 98 = .ok (.ifCond .ne 10, 3) := by decide +kernel
theorem dX6_settles_101 : decode cX6_settles 101 = .ok (.aload_n 0, 1) := by decide +kernel
theorem dX6_settles_102 : decode cX6_settles 102 = .ok (.getfield 7, 3) := by decide +kernel
theorem dX6_settles_105 : decode cX6_settles 105 = .ok (.iconst 4, 1) := by decide +kernel
theorem dX6_settles_106 : decode cX6_settles 106 = .ok (.iconst (-1), 1) := by decide +kernel
theorem dX6_settles_107 : decode cX6_settles 107 = .ok (.iastore, 1) := by decide +kernel
theorem dX6_settles_108 : decode cX6_settles 108 = .ok (.iload_n 1, 1) := by decide +kernel
theorem dX6_settles_109 : decode cX6_settles 109 = .ok (.ireturn, 1) := by decide +kernel
set_option maxRecDepth 20000 in
theorem ggX6_add_X6_in : GoodIn wsX6_add wsX6_in := goodIn_r _ [6] (by decide +kernel) (by decide +kernel)
set_option maxRecDepth 20000 in
theorem gX6_add_X6_in : GoodIn wsX6_add (va_wsS RX6 29 yX6_in wsX6_in) := goodIn_app (goodIn_of _ (by decide +kernel)) ggX6_add_X6_in
set_option maxRecDepth 20000 in
theorem ggX6_add_X6_fails : GoodIn wsX6_add wsX6_fails := goodIn_r _ [10, 1, 21, 22, 23, 24, 25, 26, 27, 28, 29, 30, 31, 32] (by decide +kernel) (by decide +kernel)
set_option maxRecDepth 20000 in
theorem gX6_add_X6_fails : GoodIn wsX6_add (wsV RX6 103 RX6 yX6_fails wsX6_fails) := goodIn_app (goodIn_of _ (by decide +kernel)) ggX6_add_X6_fails
set_option maxRecDepth 20000 in
theorem ggX6_add_X6_save : GoodIn wsX6_add wsX6_save := goodIn_ca (goodIn_r _ [14, 15, 16, 2, 21, 22, 23, 24, 25, 26, 27, 28, 29, 30, 31, 32] (by decide +kernel) (by decide +kernel)) (goodIn_sub (fun _ h => List.mem_cons_of_mem _ (List.mem_append_right _ h)) (by decide +kernel))
set_option maxRecDepth 20000 in
theorem gX6_add_X6_save : GoodIn wsX6_add (wsV RX6 106 RX6 yX6_save wsX6_save) := goodIn_app (goodIn_of _ (by decide +kernel)) ggX6_add_X6_save
set_option maxRecDepth 20000 in
theorem ggX6_add_X6_set : GoodIn wsX6_add wsX6_set := goodIn_ca (goodIn_r _ [20, 2, 21, 22, 23, 24, 25, 26, 27, 28, 29, 30, 31, 32] (by decide +kernel) (by decide +kernel)) (goodIn_sub (fun _ h => List.mem_cons_of_mem _ (List.mem_append_right _ h)) (by decide +kernel))
set_option maxRecDepth 20000 in
theorem gX6_add_X6_set : GoodIn wsX6_add (wsV RX6 51 RX6 yX6_set wsX6_set) := goodIn_app (goodIn_of _ (by decide +kernel)) ggX6_add_X6_set
theorem dX6_add_0 : decode cX6_add 0 = .ok (.aload_n 0, 1) := by decide +kernel
theorem dX6_add_1 : decode cX6_add 1 = .ok (.iconst 0, 1) := by decide +kernel
theorem dX6_add_2 : decode cX6_add 2 = .ok (.putfield 22, 3) := by decide +kernel
theorem dX6_add_5 : decode cX6_add 5 = .ok (.iload_n 1, 1) := by decide +kernel
theorem dX6_add_6 : decode cX6_add 6 = .ok (.iconst 1, 1) := by decide +kernel
theorem dX6_add_7 : decode cX6_add 7 = .ok (.bipush 30, 2) := by decide +kernel
theorem dX6_add_9 : decode cX6_add 9 = .ok (.invokestatic 29, 3) := by decide +kernel
theorem dX6_add_12 : decode cX6_add 12 = .ok (.ifCond .eq 14, 3) := by decide +kernel
theorem dX6_add_15 : decode cX6_add 15 = .ok (.iload_n 2, 1) := by decide +kernel
theorem dX6_add_16 : decode cX6_add 16 = .ok (.iconst 1, 1) := by decide +kernel
theorem dX6_add_17 : decode cX6_add 17 = .ok (.sipush 200, 3) := by decide +kernel
theorem dX6_add_20 : decode cX6_add 20 = .ok (.invokestatic 29, 3) := by decide +kernel
theorem dX6_add_23 : decode cX6_add 23 = .ok (.ifCond .ne 9, 3) := by decide +kernel
theorem dX6_add_26 : decode cX6_add 26 = .ok (.aload_n 0, 1) := by decide +kernel
theorem dX6_add_27 : decode cX6_add 27 = .ok (.iconst 1, 1) := by decide +kernel
theorem dX6_add_28 : decode cX6_add 28 = .ok (.invokevirtual 103, 3) := by decide +kernel
theorem dX6_add_31 : decode cX6_add 31 = .ok (.ireturn, 1) := by decide +kernel
theorem dX6_add_32 : decode cX6_add 32 = .ok (.aload_n 0, 1) := by decide +kernel
theorem dX6_add_33 : decode cX6_add 33 = .ok (.getfield 7, 3) := by decide +kernel
theorem dX6_add_36 : decode cX6_add 36 = .ok (.iconst 0, 1) := by decide +kernel
theorem dX6_add_37 : decode cX6_add 37 = .ok (.iaload, 1) := by decide +kernel
theorem dX6_add_38 : decode cX6_add 38 = .ok (.bipush 10, 2) := by decide +kernel
theorem dX6_add_40 : decode cX6_add 40 = .ok (.if_icmp .ne 9, 3) := by decide +kernel
theorem dX6_add_43 : decode cX6_add 43 = .ok (.aload_n 0, 1) := by decide +kernel
theorem dX6_add_44 : decode cX6_add 44 = .ok (.iconst 2, 1) := by decide +kernel
theorem dX6_add_45 : decode cX6_add 45 = .ok (.invokevirtual 103, 3) := by decide +kernel
theorem dX6_add_48 : decode cX6_add 48 = .ok (.ireturn, 1) := by decide +kernel
theorem dX6_add_49 : decode cX6_add 49 = .ok (.aload_n 0, 1) := by decide +kernel
theorem dX6_add_50 : decode cX6_add 50 = .ok (.invokevirtual 106, 3) := by decide +kernel
theorem dX6_add_53 : decode cX6_add 53 = .ok (.aload_n 0, 1) := by decide +kernel
theorem dX6_add_54 : decode cX6_add 54 = .ok (.getfield 7, 3) := by decide +kernel
theorem dX6_add_57 : decode cX6_add 57 = .ok (.iconst 0, 1) := by decide +kernel
theorem dX6_add_58 : decode cX6_add 58 = .ok (.iaload, 1) := by decide +kernel
theorem dX6_add_59 : decode cX6_add 59 = .ok (.istore_n 3, 1) := by decide +kernel
theorem dX6_add_60 : decode cX6_add 60 = .ok (.aload_n 0, 1) := by decide +kernel
theorem dX6_add_61 : decode cX6_add 61 = .ok (.getfield 7, 3) := by decide +kernel
theorem dX6_add_64 : decode cX6_add 64 = .ok (.iconst 0, 1) := by decide +kernel
theorem dX6_add_65 : decode cX6_add 65 = .ok (.dup2, 1) := by decide +kernel
theorem dX6_add_66 : decode cX6_add 66 = .ok (.iaload, 1) := by decide +kernel
theorem dX6_add_67 : decode cX6_add 67 = .ok (.iconst 1, 1) := by decide +kernel
theorem dX6_add_68 : decode cX6_add 68 = .ok (.iadd, 1) := by decide +kernel
theorem dX6_add_69 : decode cX6_add 69 = .ok (.iastore, 1) := by decide +kernel
theorem dX6_add_70 : decode cX6_add 70 = .ok (.aload_n 0, 1) := by decide +kernel
theorem dX6_add_71 : decode cX6_add 71 = .ok (.iload_n 3, 1) := by decide +kernel
theorem dX6_add_72 : decode cX6_add 72 = .ok (.iconst 0, 1) := by decide +kernel
theorem dX6_add_73 : decode cX6_add 73 = .ok (.iload_n 1, 1) := by decide +kernel
theorem dX6_add_74 : decode cX6_add 74 = .ok (.invokevirtual 51, 3) := by decide +kernel
theorem dX6_add_77 : decode cX6_add 77 = .ok (.aload_n 0, 1) := by decide +kernel
theorem dX6_add_78 : decode cX6_add 78 = .ok (.iload_n 3, 1) := by decide +kernel
theorem dX6_add_79 : decode cX6_add 79 = .ok (.iconst 1, 1) := by decide +kernel
theorem dX6_add_80 : decode cX6_add 80 = .ok (.iload_n 2, 1) := by decide +kernel
theorem dX6_add_81 : decode cX6_add 81 = .ok (.invokevirtual 51, 3) := by decide +kernel
theorem dX6_add_84 : decode cX6_add 84 = .ok (.aload_n 0, 1) := by decide +kernel
theorem dX6_add_85 : decode cX6_add 85 = .ok (.iload_n 3, 1) := by decide +kernel
theorem dX6_add_86 : decode cX6_add 86 = .ok (.iconst 2, 1) := by decide +kernel
theorem dX6_add_87 : decode cX6_add 87 = .ok (.iload_n 2, 1) := by decide +kernel
theorem dX6_add_88 : decode cX6_add 88 = .ok (.invokevirtual 51, 3) := by decide +kernel
theorem dX6_add_91 : decode cX6_add 91 = .ok (.aload_n 0, 1) := by decide +kernel
theorem dX6_add_92 : decode cX6_add 92 = .ok (.iload_n 3, 1) := by decide +kernel
theorem dX6_add_93 : decode cX6_add 93 = .ok (.iconst 3, 1) := by decide +kernel
theorem dX6_add_94 : decode cX6_add 94 = .ok (.iconst 1, 1) := by decide +kernel
theorem dX6_add_95 : decode cX6_add 95 = .ok (.invokevirtual 51, 3) := by decide +kernel
theorem dX6_add_98 : decode cX6_add 98 = .ok (.aload_n 0, 1) := by decide +kernel
theorem dX6_add_99 : decode cX6_add 99 = .ok (.iload_n 3, 1) := by decide +kernel
theorem dX6_add_100 : decode cX6_add 100 = .ok (.iconst 4, 1) := by decide +kernel
theorem dX6_add_101 : decode cX6_add 101 = .ok (.iconst (-1), 1) := by decide +kernel
theorem dX6_add_102 : decode cX6_add 102 = .ok (.invokevirtual 51, 3) := by decide +kernel
theorem dX6_add_105 : decode cX6_add 105 = .ok (.aload_n 0, 1) := by decide +kernel
theorem dX6_add_106 : decode cX6_add 106 = .ok (.iload_n 3, 1) := by decide +kernel
theorem dX6_add_107 : decode cX6_add 107 = .ok (.iconst 5, 1) := by decide +kernel
theorem dX6_add_108 : decode cX6_add 108 = .ok (.iconst 0, 1) := by decide +kernel
theorem dX6_add_109 : decode cX6_add 109 = .ok (.invokevirtual 51, 3) := by decide +kernel
theorem dX6_add_112 : decode cX6_add 112 = .ok (.iload_n 3, 1) := by decide +kernel
theorem dX6_add_113 : decode cX6_add 113 = .ok (.ireturn, 1) := by decide +kernel
set_option maxRecDepth 20000 in
theorem ggX6_setSpeed_X6_isFighter : GoodIn wsX6_setSpeed wsX6_isFighter := goodIn_ca (goodIn_r _ [6, 7, 8, 9, 5, 10, 29, 30, 31, 32, 33, 34, 35, 36, 37, 38, 39, 40] (by decide +kernel) (by decide +kernel)) (goodIn_sub (fun _ h => List.mem_cons_of_mem _ (List.mem_append_right _ h)) (by decide +kernel))
set_option maxRecDepth 20000 in
theorem gX6_setSpeed_X6_isFighter : GoodIn wsX6_setSpeed (wsV RX6 109 RX6 yX6_isFighter wsX6_isFighter) := goodIn_app (goodIn_of _ (by decide +kernel)) ggX6_setSpeed_X6_isFighter
set_option maxRecDepth 20000 in
theorem ggX6_setSpeed_X6_fails : GoodIn wsX6_setSpeed wsX6_fails := goodIn_r _ [14, 1, 29, 30, 31, 32, 33, 34, 35, 36, 37, 38, 39, 40] (by decide +kernel) (by decide +kernel)
set_option maxRecDepth 20000 in
theorem gX6_setSpeed_X6_fails : GoodIn wsX6_setSpeed (wsV RX6 103 RX6 yX6_fails wsX6_fails) := goodIn_app (goodIn_of _ (by decide +kernel)) ggX6_setSpeed_X6_fails
set_option maxRecDepth 20000 in
theorem ggX6_setSpeed_X6_in : GoodIn wsX6_setSpeed wsX6_in := goodIn_r _ [10] (by decide +kernel) (by decide +kernel)
set_option maxRecDepth 20000 in
theorem gX6_setSpeed_X6_in : GoodIn wsX6_setSpeed (va_wsS RX6 29 yX6_in wsX6_in) := goodIn_app (goodIn_of _ (by decide +kernel)) ggX6_setSpeed_X6_in
set_option maxRecDepth 20000 in
theorem ggX6_setSpeed_X6_save : GoodIn wsX6_setSpeed wsX6_save := goodIn_ca (goodIn_r _ [18, 19, 20, 7, 29, 30, 31, 32, 33, 34, 35, 36, 37, 38, 39, 40] (by decide +kernel) (by decide +kernel)) (goodIn_sub (fun _ h => List.mem_cons_of_mem _ (List.mem_append_right _ h)) (by decide +kernel))
set_option maxRecDepth 20000 in
theorem gX6_setSpeed_X6_save : GoodIn wsX6_setSpeed (wsV RX6 106 RX6 yX6_save wsX6_save) := goodIn_app (goodIn_of _ (by decide +kernel)) ggX6_setSpeed_X6_save
set_option maxRecDepth 20000 in
theorem ggX6_setSpeed_X6_of : GoodIn wsX6_setSpeed wsX6_of := goodIn_ca (goodIn_r _ [24, 7, 29, 30, 31, 32, 33, 34, 35, 36, 37, 38, 39, 40] (by decide +kernel) (by decide +kernel)) (goodIn_sub (fun _ h => List.mem_cons_of_mem _ (List.mem_append_right _ h)) (by decide +kernel))
set_option maxRecDepth 20000 in
theorem gX6_setSpeed_X6_of : GoodIn wsX6_setSpeed (wsV RX6 33 RX6 yX6_of wsX6_of) := goodIn_app (goodIn_of _ (by decide +kernel)) ggX6_setSpeed_X6_of
set_option maxRecDepth 20000 in
theorem ggX6_setSpeed_X6_set : GoodIn wsX6_setSpeed wsX6_set := goodIn_ca (goodIn_r _ [28, 7, 29, 30, 31, 32, 33, 34, 35, 36, 37, 38, 39, 40] (by decide +kernel) (by decide +kernel)) (goodIn_sub (fun _ h => List.mem_cons_of_mem _ (List.mem_append_right _ h)) (by decide +kernel))
set_option maxRecDepth 20000 in
theorem gX6_setSpeed_X6_set : GoodIn wsX6_setSpeed (wsV RX6 51 RX6 yX6_set wsX6_set) := goodIn_app (goodIn_of _ (by decide +kernel)) ggX6_setSpeed_X6_set
theorem dX6_setSpeed_0 : decode cX6_setSpeed 0 = .ok (.aload_n 0, 1) := by decide +kernel
theorem dX6_setSpeed_1 : decode cX6_setSpeed 1 = .ok (.iconst 0, 1) := by decide +kernel
theorem dX6_setSpeed_2 : decode cX6_setSpeed 2 = .ok (.putfield 22, 3) := by decide +kernel
theorem dX6_setSpeed_5 : decode cX6_setSpeed 5 = .ok (.aload_n 0, 1) := by decide +kernel
theorem dX6_setSpeed_6 : decode cX6_setSpeed 6 = .ok (.iload_n 1, 1) := by decide +kernel
theorem dX6_setSpeed_7 : decode cX6_setSpeed 7 = .ok (.invokevirtual 109, 3) := by decide +kernel
theorem dX6_setSpeed_10 : decode cX6_setSpeed 10 = .ok (.ifCond .ne 9, 3) := by decide +kernel
theorem dX6_setSpeed_13 : decode cX6_setSpeed 13 = .ok (.aload_n 0, 1) := by decide +kernel
theorem dX6_setSpeed_14 : decode cX6_setSpeed 14 = .ok (.iconst 1, 1) := by decide +kernel
theorem dX6_setSpeed_15 : decode cX6_setSpeed 15 = .ok (.invokevirtual 103, 3) := by decide +kernel
theorem dX6_setSpeed_18 : decode cX6_setSpeed 18 = .ok (.ireturn, 1) := by decide +kernel
theorem dX6_setSpeed_19 : decode cX6_setSpeed 19 = .ok (.iload_n 2, 1) := by decide +kernel
theorem dX6_setSpeed_20 : decode cX6_setSpeed 20 = .ok (.iconst 1, 1) := by decide +kernel
theorem dX6_setSpeed_21 : decode cX6_setSpeed 21 = .ok (.bipush 30, 2) := by decide +kernel
theorem dX6_setSpeed_23 : decode cX6_setSpeed 23 = .ok (.invokestatic 29, 3) := by decide +kernel
theorem dX6_setSpeed_26 : decode cX6_setSpeed 26 = .ok (.ifCond .ne 9, 3) := by decide +kernel
theorem dX6_setSpeed_29 : decode cX6_setSpeed 29 = .ok (.aload_n 0, 1) := by decide +kernel
theorem dX6_setSpeed_30 : decode cX6_setSpeed 30 = .ok (.iconst 2, 1) := by decide +kernel
theorem dX6_setSpeed_31 : decode cX6_setSpeed 31 = .ok (.invokevirtual 103, 3) := by decide +kernel
theorem dX6_setSpeed_34 : decode cX6_setSpeed 34 = .ok (.ireturn, 1) := by decide +kernel
theorem dX6_setSpeed_35 : decode cX6_setSpeed 35 = .ok (.aload_n 0, 1) := by decide +kernel
theorem dX6_setSpeed_36 : decode cX6_setSpeed 36 = .ok (.invokevirtual 106, 3) := by decide +kernel
theorem dX6_setSpeed_39 : decode cX6_setSpeed 39 = .ok (.aload_n 0, 1) := by decide +kernel
theorem dX6_setSpeed_40 : decode cX6_setSpeed 40 = .ok (.iload_n 1, 1) := by decide +kernel
theorem dX6_setSpeed_41 : decode cX6_setSpeed 41 = .ok (.iconst 0, 1) := by decide +kernel
theorem dX6_setSpeed_42 : decode cX6_setSpeed 42 = .ok (.invokevirtual 33, 3) := by decide +kernel
theorem dX6_setSpeed_45 : decode cX6_setSpeed 45 = .ok (.istore_n 3, 1) := by decide +kernel
theorem dX6_setSpeed_46 : decode cX6_setSpeed 46 = .ok (.aload_n 0, 1) := by decide +kernel
theorem dX6_setSpeed_47 : decode cX6_setSpeed 47 = .ok (.iload_n 1, 1) := by decide +kernel
theorem dX6_setSpeed_48 : decode cX6_setSpeed 48 = .ok (.iconst 0, 1) := by decide +kernel
theorem dX6_setSpeed_49 : decode cX6_setSpeed 49 = .ok (.iload_n 2, 1) := by decide +kernel
theorem dX6_setSpeed_50 : decode cX6_setSpeed 50 = .ok (.invokevirtual 51, 3) := by decide +kernel
theorem dX6_setSpeed_53 : decode cX6_setSpeed 53 = .ok (.iload_n 3, 1) := by decide +kernel
theorem dX6_setSpeed_54 : decode cX6_setSpeed 54 = .ok (.ireturn, 1) := by decide +kernel
set_option maxRecDepth 20000 in
theorem ggX6_setShock_X6_in : GoodIn wsX6_setShock wsX6_in := goodIn_r _ [6] (by decide +kernel) (by decide +kernel)
set_option maxRecDepth 20000 in
theorem gX6_setShock_X6_in : GoodIn wsX6_setShock (va_wsS RX6 29 yX6_in wsX6_in) := goodIn_app (goodIn_of _ (by decide +kernel)) ggX6_setShock_X6_in
set_option maxRecDepth 20000 in
theorem ggX6_setShock_X6_fails : GoodIn wsX6_setShock wsX6_fails := goodIn_r _ [10, 1, 17, 18, 19, 20, 21, 22, 23, 24, 25, 26, 27, 28] (by decide +kernel) (by decide +kernel)
set_option maxRecDepth 20000 in
theorem gX6_setShock_X6_fails : GoodIn wsX6_setShock (wsV RX6 103 RX6 yX6_fails wsX6_fails) := goodIn_app (goodIn_of _ (by decide +kernel)) ggX6_setShock_X6_fails
set_option maxRecDepth 20000 in
theorem ggX6_setShock_X6_save : GoodIn wsX6_setShock wsX6_save := goodIn_ca (goodIn_r _ [14, 15, 16, 2, 17, 18, 19, 20, 21, 22, 23, 24, 25, 26, 27, 28] (by decide +kernel) (by decide +kernel)) (goodIn_sub (fun _ h => List.mem_cons_of_mem _ (List.mem_append_right _ h)) (by decide +kernel))
set_option maxRecDepth 20000 in
theorem gX6_setShock_X6_save : GoodIn wsX6_setShock (wsV RX6 106 RX6 yX6_save wsX6_save) := goodIn_app (goodIn_of _ (by decide +kernel)) ggX6_setShock_X6_save
theorem dX6_setShock_0 : decode cX6_setShock 0 = .ok (.aload_n 0, 1) := by decide +kernel
theorem dX6_setShock_1 : decode cX6_setShock 1 = .ok (.iconst 0, 1) := by decide +kernel
theorem dX6_setShock_2 : decode cX6_setShock 2 = .ok (.putfield 22, 3) := by decide +kernel
theorem dX6_setShock_5 : decode cX6_setShock 5 = .ok (.iload_n 1, 1) := by decide +kernel
theorem dX6_setShock_6 : decode cX6_setShock 6 = .ok (.iconst 1, 1) := by decide +kernel
theorem dX6_setShock_7 : decode cX6_setShock 7 = .ok (.sipush 200, 3) := by decide +kernel
theorem dX6_setShock_10 : decode cX6_setShock 10 = .ok (.invokestatic 29, 3) := by decide +kernel
theorem dX6_setShock_13 : decode cX6_setShock 13 = .ok (.ifCond .ne 9, 3) := by decide +kernel
theorem dX6_setShock_16 : decode cX6_setShock 16 = .ok (.aload_n 0, 1) := by decide +kernel
theorem dX6_setShock_17 : decode cX6_setShock 17 = .ok (.iconst 1, 1) := by decide +kernel
theorem dX6_setShock_18 : decode cX6_setShock 18 = .ok (.invokevirtual 103, 3) := by decide +kernel
theorem dX6_setShock_21 : decode cX6_setShock 21 = .ok (.ireturn, 1) := by decide +kernel
theorem dX6_setShock_22 : decode cX6_setShock 22 = .ok (.aload_n 0, 1) := by decide +kernel
theorem dX6_setShock_23 : decode cX6_setShock 23 = .ok (.invokevirtual 106, 3) := by decide +kernel
theorem dX6_setShock_26 : decode cX6_setShock 26 = .ok (.aload_n 0, 1) := by decide +kernel
theorem dX6_setShock_27 : decode cX6_setShock 27 = .ok (.getfield 7, 3) := by decide +kernel
theorem dX6_setShock_30 : decode cX6_setShock 30 = .ok (.iconst 2, 1) := by decide +kernel
theorem dX6_setShock_31 : decode cX6_setShock 31 = .ok (.iaload, 1) := by decide +kernel
theorem dX6_setShock_32 : decode cX6_setShock 32 = .ok (.istore_n 2, 1) := by decide +kernel
theorem dX6_setShock_33 : decode cX6_setShock 33 = .ok (.aload_n 0, 1) := by decide +kernel
theorem dX6_setShock_34 : decode cX6_setShock 34 = .ok (.getfield 7, 3) := by decide +kernel
theorem dX6_setShock_37 : decode cX6_setShock 37 = .ok (.iconst 2, 1) := by decide +kernel
theorem dX6_setShock_38 : decode cX6_setShock 38 = .ok (.iload_n 1, 1) := by decide +kernel
theorem dX6_setShock_39 : decode cX6_setShock 39 = .ok (.iastore, 1) := by decide +kernel
theorem dX6_setShock_40 : decode cX6_setShock 40 = .ok (.iload_n 2, 1) := by decide +kernel
theorem dX6_setShock_41 : decode cX6_setShock 41 = .ok (.ireturn, 1) := by decide +kernel
set_option maxRecDepth 20000 in
theorem ggX6_effectsOn_X6_ofEffect : GoodIn wsX6_effectsOn wsX6_ofEffect := goodIn_ca (goodIn_r _ [6, 1, 7, 8, 9, 10, 11, 12, 13, 14, 15, 16, 17, 18] (by decide +kernel) (by decide +kernel)) (goodIn_sub (fun _ h => List.mem_cons_of_mem _ (List.mem_append_right _ h)) (by decide +kernel))
set_option maxRecDepth 20000 in
theorem gX6_effectsOn_X6_ofEffect : GoodIn wsX6_effectsOn (wsV RX6 37 RX6 yX6_ofEffect wsX6_ofEffect) := goodIn_app (goodIn_of _ (by decide +kernel)) ggX6_effectsOn_X6_ofEffect
theorem dX6_effectsOn_0 : decode cX6_effectsOn 0 = .ok (.iconst 0, 1) := by decide +kernel
theorem dX6_effectsOn_1 : decode cX6_effectsOn 1 = .ok (.istore_n 2, 1) := by decide +kernel
theorem dX6_effectsOn_2 : decode cX6_effectsOn 2 = .ok (.iconst 0, 1) := by decide +kernel
theorem dX6_effectsOn_3 : decode cX6_effectsOn 3 = .ok (.istore_n 3, 1) := by decide +kernel
theorem dX6_effectsOn_4 : decode cX6_effectsOn 4 = .ok (.iload_n 3, 1) := by decide +kernel
theorem dX6_effectsOn_5 : decode cX6_effectsOn 5 = .ok (.aload_n 0, 1) := by decide +kernel
theorem dX6_effectsOn_6 : decode cX6_effectsOn 6 = .ok (.getfield 7, 3) := by decide +kernel
theorem dX6_effectsOn_9 : decode cX6_effectsOn 9 = .ok (.iconst 1, 1) := by decide +kernel
theorem dX6_effectsOn_10 : decode cX6_effectsOn 10 = .ok (.iaload, 1) := by decide +kernel
theorem dX6_effectsOn_11 : decode cX6_effectsOn 11 = .ok (.if_icmp .ge 27, 3) := by decide +kernel
theorem dX6_effectsOn_14 : decode cX6_effectsOn 14 = .ok (.iload_n 2, 1) := by decide +kernel
theorem dX6_effectsOn_15 : decode cX6_effectsOn 15 = .ok (.aload_n 0, 1) := by decide +kernel
theorem dX6_effectsOn_16 : decode cX6_effectsOn 16 = .ok (.iload_n 3, 1) := by decide +kernel
theorem dX6_effectsOn_17 : decode cX6_effectsOn 17 = .ok (.iconst 3, 1) := by decide +kernel
theorem dX6_effectsOn_18 : decode cX6_effectsOn 18 = .ok (.invokevirtual 37, 3) := by decide +kernel
theorem dX6_effectsOn_21 : decode cX6_effectsOn 21 = .ok (.iload_n 1, 1) := by decide +kernel
theorem dX6_effectsOn_22 : decode cX6_effectsOn 22 = .ok (.if_icmp .ne 7, 3) := by decide +kernel
theorem dX6_effectsOn_25 : decode cX6_effectsOn 25 = .ok (.iconst 1, 1) := by decide +kernel
theorem dX6_effectsOn_26 : decode cX6_effectsOn 26 = .ok (.goto 4, 3) := by decide +kernel
theorem dX6_effectsOn_29 : decode cX6_effectsOn 29 = .ok (.iconst 0, 1) := by decide +kernel
theorem dX6_effectsOn_30 : decode cX6_effectsOn 30 = .ok (.iadd, 1) := by decide +kernel
theorem dX6_effectsOn_31 : decode cX6_effectsOn 31 = .ok (.istore_n 2, 1) := by decide +kernel
theorem dX6_effectsOn_32 : decode cX6_effectsOn 32 = .ok (.iinc 3 1, 3) := by decide +kernel
theorem dX6_effectsOn_35 : decode cX6_effectsOn 35 = .ok (.goto (-31), 3) := by decide +kernel
theorem dX6_effectsOn_38 : decode cX6_effectsOn 38 = .ok (.iload_n 2, 1) := by decide +kernel
theorem dX6_effectsOn_39 : decode cX6_effectsOn 39 = .ok (.ireturn, 1) := by decide +kernel
set_option maxRecDepth 20000 in
theorem ggX6_valueOfFighter_X6_speedOf : GoodIn wsX6_valueOfFighter wsX6_speedOf := goodIn_ca (goodIn_r _ [5, 6, 7, 8, 4, 9, 10, 11, 12, 13, 14, 15, 16, 17, 18, 31, 32, 33, 34, 35, 36, 37, 38, 39, 40, 41, 42] (by decide +kernel) (by decide +kernel)) (goodIn_sub (fun _ h => List.mem_cons_of_mem _ (List.mem_append_right _ h)) (by decide +kernel))
set_option maxRecDepth 20000 in
theorem gX6_valueOfFighter_X6_speedOf : GoodIn wsX6_valueOfFighter (wsV RX6 65 RX6 yX6_speedOf wsX6_speedOf) := goodIn_app (goodIn_of _ (by decide +kernel)) ggX6_valueOfFighter_X6_speedOf
set_option maxRecDepth 20000 in
theorem ggX6_valueOfFighter_X6_of : GoodIn wsX6_valueOfFighter wsX6_of := goodIn_ca (goodIn_r _ [9, 10, 31, 32, 33, 34, 35, 36, 37, 38, 39, 40, 41, 42] (by decide +kernel) (by decide +kernel)) (goodIn_sub (fun _ h => List.mem_cons_of_mem _ (List.mem_append_right _ h)) (by decide +kernel))
set_option maxRecDepth 20000 in
theorem gX6_valueOfFighter_X6_of : GoodIn wsX6_valueOfFighter (wsV RX6 33 RX6 yX6_of wsX6_of) := goodIn_app (goodIn_of _ (by decide +kernel)) ggX6_valueOfFighter_X6_of
set_option maxRecDepth 20000 in
theorem ggX6_valueOfFighter_X6_placeOf : GoodIn wsX6_valueOfFighter wsX6_placeOf := goodIn_ca (goodIn_r _ [22, 10, 31, 32, 33, 34, 35, 36, 37, 38, 39, 40, 41, 42] (by decide +kernel) (by decide +kernel)) (goodIn_sub (fun _ h => List.mem_cons_of_mem _ (List.mem_append_right _ h)) (by decide +kernel))
set_option maxRecDepth 20000 in
theorem gX6_valueOfFighter_X6_placeOf : GoodIn wsX6_valueOfFighter (wsV RX6 85 RX6 yX6_placeOf wsX6_placeOf) := goodIn_app (goodIn_of _ (by decide +kernel)) ggX6_valueOfFighter_X6_placeOf
set_option maxRecDepth 20000 in
theorem ggX6_valueOfFighter_X6_heldBy : GoodIn wsX6_valueOfFighter wsX6_heldBy := goodIn_ca (goodIn_r _ [26, 10, 15, 16, 17, 4, 18, 31, 32, 33, 34, 35, 36, 37, 38, 39, 40, 41, 42] (by decide +kernel) (by decide +kernel)) (goodIn_sub (fun _ h => List.mem_cons_of_mem _ (List.mem_append_right _ h)) (by decide +kernel))
set_option maxRecDepth 20000 in
theorem gX6_valueOfFighter_X6_heldBy : GoodIn wsX6_valueOfFighter (wsV RX6 40 RX6 yX6_heldBy wsX6_heldBy) := goodIn_app (goodIn_of _ (by decide +kernel)) ggX6_valueOfFighter_X6_heldBy
set_option maxRecDepth 20000 in
theorem ggX6_valueOfFighter_X6_effectsOn : GoodIn wsX6_valueOfFighter wsX6_effectsOn := goodIn_ca (goodIn_r _ [30, 10, 15, 16, 17, 4, 18, 31, 32, 33, 34, 35, 36, 37, 38, 39, 40, 41, 42] (by decide +kernel) (by decide +kernel)) (goodIn_sub (fun _ h => List.mem_cons_of_mem _ (List.mem_append_right _ h)) (by decide +kernel))
set_option maxRecDepth 20000 in
theorem gX6_valueOfFighter_X6_effectsOn : GoodIn wsX6_valueOfFighter (wsV RX6 112 RX6 yX6_effectsOn wsX6_effectsOn) := goodIn_app (goodIn_of _ (by decide +kernel)) ggX6_valueOfFighter_X6_effectsOn
theorem dX6_valueOfFighter_0 : decode cX6_valueOfFighter 0 = .ok (.iload_n 2, 1) := by decide +kernel
theorem dX6_valueOfFighter_1 : decode cX6_valueOfFighter 1 = .ok (.tableswitch 77 3 8 #[39, 45, 52, 59, 65, 71], 39) := by decide +kernel
theorem dX6_valueOfFighter_40 : decode cX6_valueOfFighter 40 = .ok (.aload_n 0, 1) := by decide +kernel
theorem dX6_valueOfFighter_41 : decode cX6_valueOfFighter 41 = .ok (.iload_n 1, 1) := by decide +kernel
theorem dX6_valueOfFighter_42 : decode cX6_valueOfFighter 42 = .ok (.invokevirtual 65, 3) := by decide +kernel
theorem dX6_valueOfFighter_45 : decode cX6_valueOfFighter 45 = .ok (.ireturn, 1) := by decide +kernel
theorem dX6_valueOfFighter_46 : decode cX6_valueOfFighter 46 = .ok (.aload_n 0, 1) := by decide +kernel
theorem dX6_valueOfFighter_47 : decode cX6_valueOfFighter 47 = .ok (.iload_n 1, 1) := by decide +kernel
theorem dX6_valueOfFighter_48 : decode cX6_valueOfFighter 48 = .ok (.iconst 3, 1) := by decide +kernel
theorem dX6_valueOfFighter_49 : decode cX6_valueOfFighter 49 = .ok (.invokevirtual 33, 3) := by decide +kernel
theorem dX6_valueOfFighter_52 : decode cX6_valueOfFighter 52 = .ok (.ireturn, 1) := by decide +kernel
theorem dX6_valueOfFighter_53 : decode cX6_valueOfFighter 53 = .ok (.aload_n 0, 1) := by decide +kernel
theorem dX6_valueOfFighter_54 : decode cX6_valueOfFighter 54 = .ok (.iload_n 1, 1) := by decide +kernel
theorem dX6_valueOfFighter_55 : decode cX6_valueOfFighter 55 = .ok (.iconst 4, 1) := by decide +kernel
theorem dX6_valueOfFighter_56 : decode cX6_valueOfFighter 56 = .ok (.invokevirtual 33, 3) := by decide +kernel
theorem dX6_valueOfFighter_59 : decode cX6_valueOfFighter 59 = .ok (.ireturn, 1) := by decide +kernel
theorem dX6_valueOfFighter_60 : decode cX6_valueOfFighter 60 = .ok (.aload_n 0, 1) := by decide +kernel
theorem dX6_valueOfFighter_61 : decode cX6_valueOfFighter 61 = .ok (.iload_n 1, 1) := by decide +kernel
theorem dX6_valueOfFighter_62 : decode cX6_valueOfFighter 62 = .ok (.invokevirtual 85, 3) := by decide +kernel
theorem dX6_valueOfFighter_65 : decode cX6_valueOfFighter 65 = .ok (.ireturn, 1) := by decide +kernel
theorem dX6_valueOfFighter_66 : decode cX6_valueOfFighter 66 = .ok (.aload_n 0, 1) := by decide +kernel
theorem dX6_valueOfFighter_67 : decode cX6_valueOfFighter 67 = .ok (.iload_n 1, 1) := by decide +kernel
theorem dX6_valueOfFighter_68 : decode cX6_valueOfFighter 68 = .ok (.invokevirtual 40, 3) := by decide +kernel
theorem dX6_valueOfFighter_71 : decode cX6_valueOfFighter 71 = .ok (.ireturn, 1) := by decide +kernel
theorem dX6_valueOfFighter_72 : decode cX6_valueOfFighter 72 = .ok (.aload_n 0, 1) := by decide +kernel
theorem dX6_valueOfFighter_73 : decode cX6_valueOfFighter 73 = .ok (.iload_n 1, 1) := by decide +kernel
theorem dX6_valueOfFighter_74 : decode cX6_valueOfFighter 74 = .ok (.invokevirtual 112, 3) := by decide +kernel
theorem dX6_valueOfFighter_77 : decode cX6_valueOfFighter 77 = .ok (.ireturn, 1) := by decide +kernel
theorem dX6_valueOfFighter_78 : decode cX6_valueOfFighter 78 = .ok (.aload_n 0, 1) := by decide +kernel
theorem dX6_valueOfFighter_79 : decode cX6_valueOfFighter 79 = .ok (.iload_n 1, 1) := by decide +kernel
theorem dX6_valueOfFighter_80 : decode cX6_valueOfFighter 80 = .ok (.iload_n 2, 1) := by decide +kernel
theorem dX6_valueOfFighter_81 : decode cX6_valueOfFighter 81 = .ok (.invokevirtual 33, 3) := by decide +kernel
theorem dX6_valueOfFighter_84 : decode cX6_valueOfFighter 84 = .ok (.ireturn, 1) := by decide +kernel
set_option maxRecDepth 20000 in
theorem ggX6_fighter_X6_isFighter : GoodIn wsX6_fighter wsX6_isFighter := goodIn_ca (goodIn_r _ [6, 7, 8, 9, 5, 10, 47, 48, 49, 50, 51, 52, 53, 54, 55, 56, 57, 58] (by decide +kernel) (by decide +kernel)) (goodIn_sub (fun _ h => List.mem_cons_of_mem _ (List.mem_append_right _ h)) (by decide +kernel))
set_option maxRecDepth 20000 in
theorem gX6_fighter_X6_isFighter : GoodIn wsX6_fighter (wsV RX6 109 RX6 yX6_isFighter wsX6_isFighter) := goodIn_app (goodIn_of _ (by decide +kernel)) ggX6_fighter_X6_isFighter
set_option maxRecDepth 20000 in
theorem ggX6_fighter_X6_fails : GoodIn wsX6_fighter wsX6_fails := goodIn_r _ [14, 1, 47, 48, 49, 50, 51, 52, 53, 54, 55, 56, 57, 58] (by decide +kernel) (by decide +kernel)
set_option maxRecDepth 20000 in
theorem gX6_fighter_X6_fails : GoodIn wsX6_fighter (wsV RX6 103 RX6 yX6_fails wsX6_fails) := goodIn_app (goodIn_of _ (by decide +kernel)) ggX6_fighter_X6_fails
set_option maxRecDepth 20000 in
theorem ggX6_fighter_X6_in : GoodIn wsX6_fighter wsX6_in := goodIn_r _ [10] (by decide +kernel) (by decide +kernel)
set_option maxRecDepth 20000 in
theorem gX6_fighter_X6_in : GoodIn wsX6_fighter (va_wsS RX6 29 yX6_in wsX6_in) := goodIn_app (goodIn_of _ (by decide +kernel)) ggX6_fighter_X6_in
set_option maxRecDepth 20000 in
theorem ggX6_fighter_X6_valueOfFighter : GoodIn wsX6_fighter wsX6_valueOfFighter := goodIn_ca (goodIn_r _ [18, 19, 20, 21, 5, 22, 23, 24, 25, 26, 7, 27, 28, 29, 30, 31, 32, 33, 34, 35, 36, 37, 38, 39, 40, 41, 42, 43, 44, 45, 46, 47, 48, 49, 50, 51, 52, 53, 54, 55, 56, 57, 58] (by decide +kernel) (by decide +kernel)) (goodIn_sub (fun _ h => List.mem_cons_of_mem _ (List.mem_append_right _ h)) (by decide +kernel))
set_option maxRecDepth 20000 in
theorem gX6_fighter_X6_valueOfFighter : GoodIn wsX6_fighter (wsV RX6 115 RX6 yX6_valueOfFighter wsX6_valueOfFighter) := goodIn_app (goodIn_of _ (by decide +kernel)) ggX6_fighter_X6_valueOfFighter
theorem dX6_fighter_0 : decode cX6_fighter 0 = .ok (.aload_n 0, 1) := by decide +kernel
theorem dX6_fighter_1 : decode cX6_fighter 1 = .ok (.iconst 0, 1) := by decide +kernel
theorem dX6_fighter_2 : decode cX6_fighter 2 = .ok (.putfield 22, 3) := by decide +kernel
theorem dX6_fighter_5 : decode cX6_fighter 5 = .ok (.aload_n 0, 1) := by decide +kernel
theorem dX6_fighter_6 : decode cX6_fighter 6 = .ok (.iload_n 1, 1) := by decide +kernel
theorem dX6_fighter_7 : decode cX6_fighter 7 = .ok (.invokevirtual 109, 3) := by decide +kernel
theorem dX6_fighter_10 : decode cX6_fighter 10 = .ok (.ifCond .ne 9, 3) := by decide +kernel
theorem dX6_fighter_13 : decode cX6_fighter 13 = .ok (.aload_n 0, 1) := by decide +kernel
theorem dX6_fighter_14 : decode cX6_fighter 14 = .ok (.iconst 1, 1) := by decide +kernel
theorem dX6_fighter_15 : decode cX6_fighter 15 = .ok (.invokevirtual 103, 3) := by decide +kernel
theorem dX6_fighter_18 : decode cX6_fighter 18 = .ok (.ireturn, 1) := by decide +kernel
theorem dX6_fighter_19 : decode cX6_fighter 19 = .ok (.iload_n 2, 1) := by decide +kernel
theorem dX6_fighter_20 : decode cX6_fighter 20 = .ok (.iconst 0, 1) := by decide +kernel
theorem dX6_fighter_21 : decode cX6_fighter 21 = .ok (.bipush 8, 2) := by decide +kernel
theorem dX6_fighter_23 : decode cX6_fighter 23 = .ok (.invokestatic 29, 3) := by decide +kernel
theorem dX6_fighter_26 : decode cX6_fighter 26 = .ok (.ifCond .eq 12, 3) := by decide +kernel
theorem dX6_fighter_29 : decode cX6_fighter 29 = .ok (.aload_n 0, 1) := by decide +kernel
theorem dX6_fighter_30 : decode cX6_fighter 30 = .ok (.iload_n 1, 1) := by decide +kernel
theorem dX6_fighter_31 : decode cX6_fighter 31 = .ok (.iload_n 2, 1) := by decide +kernel
theorem dX6_fighter_32 : decode cX6_fighter 32 = .ok (.invokevirtual 115, 3) := by decide +kernel
theorem dX6_fighter_35 : decode cX6_fighter 35 = .ok (.goto 8, 3) := by decide +kernel
theorem dX6_fighter_38 : decode cX6_fighter 38 = .ok (.aload_n 0, 1) := by decide +kernel
theorem dX6_fighter_39 : decode cX6_fighter 39 = .ok (.iconst 2, 1) := by decide +kernel
theorem dX6_fighter_40 : decode cX6_fighter 40 = .ok (.invokevirtual 103, 3) := by decide +kernel
theorem dX6_fighter_43 : decode cX6_fighter 43 = .ok (.ireturn, 1) := by decide +kernel
set_option maxRecDepth 20000 in
theorem ggX6_effect_X6_in : GoodIn wsX6_effect wsX6_in := goodIn_r _ [6] (by decide +kernel) (by decide +kernel)
set_option maxRecDepth 20000 in
theorem gX6_effect_X6_in : GoodIn wsX6_effect (va_wsS RX6 29 yX6_in wsX6_in) := goodIn_app (goodIn_of _ (by decide +kernel)) ggX6_effect_X6_in
set_option maxRecDepth 20000 in
theorem ggX6_effect_X6_fails : GoodIn wsX6_effect wsX6_fails := goodIn_r _ [10, 1, 15, 16, 17, 18, 19, 20, 21, 22, 23, 24, 25, 26] (by decide +kernel) (by decide +kernel)
set_option maxRecDepth 20000 in
theorem gX6_effect_X6_fails : GoodIn wsX6_effect (wsV RX6 103 RX6 yX6_fails wsX6_fails) := goodIn_app (goodIn_of _ (by decide +kernel)) ggX6_effect_X6_fails
set_option maxRecDepth 20000 in
theorem ggX6_effect_X6_ofEffect : GoodIn wsX6_effect wsX6_ofEffect := goodIn_ca (goodIn_r _ [14, 2, 15, 16, 17, 18, 19, 20, 21, 22, 23, 24, 25, 26] (by decide +kernel) (by decide +kernel)) (goodIn_sub (fun _ h => List.mem_cons_of_mem _ (List.mem_append_right _ h)) (by decide +kernel))
set_option maxRecDepth 20000 in
theorem gX6_effect_X6_ofEffect : GoodIn wsX6_effect (wsV RX6 37 RX6 yX6_ofEffect wsX6_ofEffect) := goodIn_app (goodIn_of _ (by decide +kernel)) ggX6_effect_X6_ofEffect
theorem dX6_effect_0 : decode cX6_effect 0 = .ok (.aload_n 0, 1) := by decide +kernel
theorem dX6_effect_1 : decode cX6_effect 1 = .ok (.iconst 0, 1) := by decide +kernel
theorem dX6_effect_2 : decode cX6_effect 2 = .ok (.putfield 22, 3) := by decide +kernel
theorem dX6_effect_5 : decode cX6_effect 5 = .ok (.iload_n 1, 1) := by decide +kernel
theorem dX6_effect_6 : decode cX6_effect 6 = .ok (.iconst 0, 1) := by decide +kernel
theorem dX6_effect_7 : decode cX6_effect 7 = .ok (.aload_n 0, 1) := by decide +kernel
theorem dX6_effect_8 : decode cX6_effect 8 = .ok (.getfield 7, 3) := by decide +kernel
theorem dX6_effect_11 : decode cX6_effect 11 = .ok (.iconst 1, 1) := by decide +kernel
theorem dX6_effect_12 : decode cX6_effect 12 = .ok (.iaload, 1) := by decide +kernel
theorem dX6_effect_13 : decode cX6_effect 13 = .ok (.iconst 1, 1) := by decide +kernel
theorem dX6_effect_14 : decode cX6_effect 14 = .ok (.isub, 1) := by decide +kernel
theorem dX6_effect_15 : decode cX6_effect 15 = .ok (.invokestatic 29, 3) := by decide +kernel
theorem dX6_effect_18 : decode cX6_effect 18 = .ok (.ifCond .ne 9, 3) := by decide +kernel
theorem dX6_effect_21 : decode cX6_effect 21 = .ok (.aload_n 0, 1) := by decide +kernel
theorem dX6_effect_22 : decode cX6_effect 22 = .ok (.iconst 1, 1) := by decide +kernel
theorem dX6_effect_23 : decode cX6_effect 23 = .ok (.invokevirtual 103, 3) := by decide +kernel
theorem dX6_effect_26 : decode cX6_effect 26 = .ok (.ireturn, 1) := by decide +kernel
theorem dX6_effect_27 : decode cX6_effect 27 = .ok (.iload_n 2, 1) := by decide +kernel
theorem dX6_effect_28 : decode cX6_effect 28 = .ok (.iconst 0, 1) := by decide +kernel
theorem dX6_effect_29 : decode cX6_effect 29 = .ok (.bipush 6, 2) := by decide +kernel
theorem dX6_effect_31 : decode cX6_effect 31 = .ok (.invokestatic 29, 3) := by decide +kernel
theorem dX6_effect_34 : decode cX6_effect 34 = .ok (.ifCond .eq 12, 3) := by decide +kernel
theorem dX6_effect_37 : decode cX6_effect 37 = .ok (.aload_n 0, 1) := by decide +kernel
theorem dX6_effect_38 : decode cX6_effect 38 = .ok (.iload_n 1, 1) := by decide +kernel
theorem dX6_effect_39 : decode cX6_effect 39 = .ok (.iload_n 2, 1) := by decide +kernel
theorem dX6_effect_40 : decode cX6_effect 40 = .ok (.invokevirtual 37, 3) := by decide +kernel
theorem dX6_effect_43 : decode cX6_effect 43 = .ok (.goto 8, 3) := by decide +kernel
theorem dX6_effect_46 : decode cX6_effect 46 = .ok (.aload_n 0, 1) := by decide +kernel
theorem dX6_effect_47 : decode cX6_effect 47 = .ok (.iconst 2, 1) := by decide +kernel
theorem dX6_effect_48 : decode cX6_effect 48 = .ok (.invokevirtual 103, 3) := by decide +kernel
theorem dX6_effect_51 : decode cX6_effect 51 = .ok (.ireturn, 1) := by decide +kernel
set_option maxRecDepth 20000 in
theorem ggX6_standing_X6_stands : GoodIn wsX6_standing wsX6_stands := goodIn_ca (goodIn_r _ [6, 7, 8, 9, 5, 10, 1, 11, 12, 13, 14, 15, 16, 17, 18, 19, 20, 21, 22] (by decide +kernel) (by decide +kernel)) (goodIn_sub (fun _ h => List.mem_cons_of_mem _ (List.mem_append_right _ h)) (by decide +kernel))
set_option maxRecDepth 20000 in
theorem gX6_standing_X6_stands : GoodIn wsX6_standing (wsV RX6 55 RX6 yX6_stands wsX6_stands) := goodIn_app (goodIn_of _ (by decide +kernel)) ggX6_standing_X6_stands
theorem dX6_standing_0 : decode cX6_standing 0 = .ok (.iconst 0, 1) := by decide +kernel
theorem dX6_standing_1 : decode cX6_standing 1 = .ok (.istore_n 1, 1) := by decide +kernel
theorem dX6_standing_2 : decode cX6_standing 2 = .ok (.iconst 0, 1) := by decide +kernel
theorem dX6_standing_3 : decode cX6_standing 3 = .ok (.istore_n 2, 1) := by decide +kernel
theorem dX6_standing_4 : decode cX6_standing 4 = .ok (.iload_n 2, 1) := by decide +kernel
theorem dX6_standing_5 : decode cX6_standing 5 = .ok (.aload_n 0, 1) := by decide +kernel
theorem dX6_standing_6 : decode cX6_standing 6 = .ok (.getfield 7, 3) := by decide +kernel
theorem dX6_standing_9 : decode cX6_standing 9 = .ok (.iconst 0, 1) := by decide +kernel
theorem dX6_standing_10 : decode cX6_standing 10 = .ok (.iaload, 1) := by decide +kernel
theorem dX6_standing_11 : decode cX6_standing 11 = .ok (.if_icmp .ge 25, 3) := by decide +kernel
theorem dX6_standing_14 : decode cX6_standing 14 = .ok (.iload_n 1, 1) := by decide +kernel
theorem dX6_standing_15 : decode cX6_standing 15 = .ok (.aload_n 0, 1) := by decide +kernel
theorem dX6_standing_16 : decode cX6_standing 16 = .ok (.iload_n 2, 1) := by decide +kernel
theorem dX6_standing_17 : decode cX6_standing 17 = .ok (.invokevirtual 55, 3) := by decide +kernel
theorem dX6_standing_20 : decode cX6_standing 20 = .ok (.ifCond .eq 7, 3) := by decide +kernel
theorem dX6_standing_23 : decode cX6_standing 23 = .ok (.iconst 1, 1) := by decide +kernel
theorem dX6_standing_24 : decode cX6_standing 24 = .ok (.goto 4, 3) := by decide +kernel
theorem dX6_standing_27 : decode cX6_standing 27 = .ok (.iconst 0, 1) := by decide +kernel
theorem dX6_standing_28 : decode cX6_standing 28 = .ok (.iadd, 1) := by decide +kernel
theorem dX6_standing_29 : decode cX6_standing 29 = .ok (.istore_n 1, 1) := by decide +kernel
theorem dX6_standing_30 : decode cX6_standing 30 = .ok (.iinc 2 1, 3) := by decide +kernel
theorem dX6_standing_33 : decode cX6_standing 33 = .ok (.goto (-29), 3) := by decide +kernel
theorem dX6_standing_36 : decode cX6_standing 36 = .ok (.iload_n 1, 1) := by decide +kernel
theorem dX6_standing_37 : decode cX6_standing 37 = .ok (.ireturn, 1) := by decide +kernel
set_option maxRecDepth 20000 in
theorem ggX6_valueOf_X6_standing : GoodIn wsX6_valueOf wsX6_standing := goodIn_ca (goodIn_r _ [6, 1, 7, 8, 9, 5, 10, 11, 12, 13, 14, 15, 16, 17, 18, 19, 20, 21, 22, 23, 24, 25, 26] (by decide +kernel) (by decide +kernel)) (goodIn_sub (fun _ h => List.mem_cons_of_mem _ (List.mem_append_right _ h)) (by decide +kernel))
set_option maxRecDepth 20000 in
theorem gX6_valueOf_X6_standing : GoodIn wsX6_valueOf (wsV RX6 118 RX6 yX6_standing wsX6_standing) := goodIn_app (goodIn_of _ (by decide +kernel)) ggX6_valueOf_X6_standing
theorem dX6_valueOf_0 : decode cX6_valueOf 0 = .ok (.iload_n 1, 1) := by decide +kernel
theorem dX6_valueOf_1 : decode cX6_valueOf 1 = .ok (.tableswitch 103 0 7 #[47, 54, 59, 66, 73, 80, 88, 95], 47) := by decide +kernel
theorem dX6_valueOf_48 : decode cX6_valueOf 48 = .ok (.aload_n 0, 1) := by decide +kernel
theorem dX6_valueOf_49 : decode cX6_valueOf 49 = .ok (.getfield 7, 3) := by decide +kernel
theorem dX6_valueOf_52 : decode cX6_valueOf 52 = .ok (.iconst 0, 1) := by decide +kernel
theorem dX6_valueOf_53 : decode cX6_valueOf 53 = .ok (.iaload, 1) := by decide +kernel
theorem dX6_valueOf_54 : decode cX6_valueOf 54 = .ok (.ireturn, 1) := by decide +kernel
theorem dX6_valueOf_55 : decode cX6_valueOf 55 = .ok (.aload_n 0, 1) := by decide +kernel
theorem dX6_valueOf_56 : decode cX6_valueOf 56 = .ok (.invokevirtual 118, 3) := by decide +kernel
theorem dX6_valueOf_59 : decode cX6_valueOf 59 = .ok (.ireturn, 1) := by decide +kernel
theorem dX6_valueOf_60 : decode cX6_valueOf 60 = .ok (.aload_n 0, 1) := by decide +kernel
theorem dX6_valueOf_61 : decode cX6_valueOf 61 = .ok (.getfield 7, 3) := by decide +kernel
theorem dX6_valueOf_64 : decode cX6_valueOf 64 = .ok (.iconst 1, 1) := by decide +kernel
theorem dX6_valueOf_65 : decode cX6_valueOf 65 = .ok (.iaload, 1) := by decide +kernel
theorem dX6_valueOf_66 : decode cX6_valueOf 66 = .ok (.ireturn, 1) := by decide +kernel
theorem dX6_valueOf_67 : decode cX6_valueOf 67 = .ok (.aload_n 0, 1) := by decide +kernel
theorem dX6_valueOf_68 : decode cX6_valueOf 68 = .ok (.getfield 7, 3) := by decide +kernel
theorem dX6_valueOf_71 : decode cX6_valueOf 71 = .ok (.iconst 3, 1) := by decide +kernel
theorem dX6_valueOf_72 : decode cX6_valueOf 72 = .ok (.iaload, 1) := by decide +kernel
theorem dX6_valueOf_73 : decode cX6_valueOf 73 = .ok (.ireturn, 1) := by decide +kernel
theorem dX6_valueOf_74 : decode cX6_valueOf 74 = .ok (.aload_n 0, 1) := by decide +kernel
theorem dX6_valueOf_75 : decode cX6_valueOf 75 = .ok (.getfield 7, 3) := by decide +kernel
theorem dX6_valueOf_78 : decode cX6_valueOf 78 = .ok (.iconst 4, 1) := by decide +kernel
theorem dX6_valueOf_79 : decode cX6_valueOf 79 = .ok (.iaload, 1) := by decide +kernel
theorem dX6_valueOf_80 : decode cX6_valueOf 80 = .ok (.ireturn, 1) := by decide +kernel
theorem dX6_valueOf_81 : decode cX6_valueOf 81 = .ok (.aload_n 0, 1) := by decide +kernel
theorem dX6_valueOf_82 : decode cX6_valueOf 82 = .ok (.getfield 7, 3) := by decide +kernel
theorem dX6_valueOf_85 : decode cX6_valueOf 85 = .ok (.bipush 8, 2) := by decide +kernel
theorem dX6_valueOf_87 : decode cX6_valueOf 87 = .ok (.iaload, 1) := by decide +kernel
theorem dX6_valueOf_88 : decode cX6_valueOf 88 = .ok (.ireturn, 1) := by decide +kernel
theorem dX6_valueOf_89 : decode cX6_valueOf 89 = .ok (.aload_n 0, 1) := by decide +kernel
theorem dX6_valueOf_90 : decode cX6_valueOf 90 = .ok (.getfield 7, 3) := by decide +kernel
theorem dX6_valueOf_93 : decode cX6_valueOf 93 = .ok (.iconst 2, 1) := by decide +kernel
theorem dX6_valueOf_94 : decode cX6_valueOf 94 = .ok (.iaload, 1) := by decide +kernel
theorem dX6_valueOf_95 : decode cX6_valueOf 95 = .ok (.ireturn, 1) := by decide +kernel
theorem dX6_valueOf_96 : decode cX6_valueOf 96 = .ok (.aload_n 0, 1) := by decide +kernel
theorem dX6_valueOf_97 : decode cX6_valueOf 97 = .ok (.getfield 7, 3) := by decide +kernel
theorem dX6_valueOf_100 : decode cX6_valueOf 100 = .ok (.bipush 9, 2) := by decide +kernel
theorem dX6_valueOf_102 : decode cX6_valueOf 102 = .ok (.iaload, 1) := by decide +kernel
theorem dX6_valueOf_103 : decode cX6_valueOf 103 = .ok (.ireturn, 1) := by decide +kernel
theorem dX6_valueOf_104 : decode cX6_valueOf 104 = .ok (.aload_n 0, 1) := by decide +kernel
theorem dX6_valueOf_105 : decode cX6_valueOf 105 = .ok (.getfield 7, 3) := by decide +kernel
theorem dX6_valueOf_108 : decode cX6_valueOf 108 = .ok (.bipush 10, 2) := by decide +kernel
theorem dX6_valueOf_110 : decode cX6_valueOf 110 = .ok (.iaload, 1) := by decide +kernel
theorem dX6_valueOf_111 : decode cX6_valueOf 111 = .ok (.ireturn, 1) := by decide +kernel
set_option maxRecDepth 20000 in
theorem ggX6_value_X6_in : GoodIn wsX6_value wsX6_in := goodIn_r _ [5] (by decide +kernel) (by decide +kernel)
set_option maxRecDepth 20000 in
theorem gX6_value_X6_in : GoodIn wsX6_value (va_wsS RX6 29 yX6_in wsX6_in) := goodIn_app (goodIn_of _ (by decide +kernel)) ggX6_value_X6_in
set_option maxRecDepth 20000 in
theorem ggX6_value_X6_valueOf : GoodIn wsX6_value wsX6_valueOf := goodIn_ca (goodIn_r _ [9, 10, 11, 12, 13, 4, 14, 15, 16, 17, 18, 19, 20, 21, 22, 27, 28, 29, 30, 31, 32, 33, 34, 35, 36, 37, 38] (by decide +kernel) (by decide +kernel)) (goodIn_sub (fun _ h => List.mem_cons_of_mem _ (List.mem_append_right _ h)) (by decide +kernel))
set_option maxRecDepth 20000 in
theorem gX6_value_X6_valueOf : GoodIn wsX6_value (wsV RX6 121 RX6 yX6_valueOf wsX6_valueOf) := goodIn_app (goodIn_of _ (by decide +kernel)) ggX6_value_X6_valueOf
set_option maxRecDepth 20000 in
theorem ggX6_value_X6_fails : GoodIn wsX6_value wsX6_fails := goodIn_r _ [26, 1, 27, 28, 29, 30, 31, 32, 33, 34, 35, 36, 37, 38] (by decide +kernel) (by decide +kernel)
set_option maxRecDepth 20000 in
theorem gX6_value_X6_fails : GoodIn wsX6_value (wsV RX6 103 RX6 yX6_fails wsX6_fails) := goodIn_app (goodIn_of _ (by decide +kernel)) ggX6_value_X6_fails
theorem dX6_value_0 : decode cX6_value 0 = .ok (.aload_n 0, 1) := by decide +kernel
theorem dX6_value_1 : decode cX6_value 1 = .ok (.iconst 0, 1) := by decide +kernel
theorem dX6_value_2 : decode cX6_value 2 = .ok (.putfield 22, 3) := by decide +kernel
theorem dX6_value_5 : decode cX6_value 5 = .ok (.iload_n 1, 1) := by decide +kernel
theorem dX6_value_6 : decode cX6_value 6 = .ok (.iconst 0, 1) := by decide +kernel
theorem dX6_value_7 : decode cX6_value 7 = .ok (.bipush 8, 2) := by decide +kernel
theorem dX6_value_9 : decode cX6_value 9 = .ok (.invokestatic 29, 3) := by decide +kernel
theorem dX6_value_12 : decode cX6_value 12 = .ok (.ifCond .eq 11, 3) := by decide +kernel
theorem dX6_value_15 : decode cX6_value 15 = .ok (.aload_n 0, 1) := by decide +kernel
theorem dX6_value_16 : decode cX6_value 16 = .ok (.iload_n 1, 1) := by decide +kernel
theorem dX6_value_17 : decode cX6_value 17 = .ok (.invokevirtual 121, 3) := by decide +kernel
theorem dX6_value_20 : decode cX6_value 20 = .ok (.goto 8, 3) := by decide +kernel
theorem dX6_value_23 : decode cX6_value 23 = .ok (.aload_n 0, 1) := by decide +kernel
theorem dX6_value_24 : decode cX6_value 24 = .ok (.iconst 1, 1) := by decide +kernel
theorem dX6_value_25 : decode cX6_value 25 = .ok (.invokevirtual 103, 3) := by decide +kernel
theorem dX6_value_28 : decode cX6_value 28 = .ok (.ireturn, 1) := by decide +kernel
set_option maxRecDepth 20000 in
theorem ggX6_inList_X6_in : GoodIn wsX6_inList wsX6_in := goodIn_r _ [6] (by decide +kernel) (by decide +kernel)
set_option maxRecDepth 20000 in
theorem gX6_inList_X6_in : GoodIn wsX6_inList (va_wsS RX6 29 yX6_in wsX6_in) := goodIn_app (goodIn_of _ (by decide +kernel)) ggX6_inList_X6_in
set_option maxRecDepth 20000 in
theorem ggX6_inList_X6_fails : GoodIn wsX6_inList wsX6_fails := goodIn_r _ [10, 1, 11, 12, 13, 14, 15, 16, 17, 18, 19, 20, 21, 22] (by decide +kernel) (by decide +kernel)
set_option maxRecDepth 20000 in
theorem gX6_inList_X6_fails : GoodIn wsX6_inList (wsV RX6 103 RX6 yX6_fails wsX6_fails) := goodIn_app (goodIn_of _ (by decide +kernel)) ggX6_inList_X6_fails
theorem dX6_inList_0 : decode cX6_inList 0 = .ok (.aload_n 0, 1) := by decide +kernel
theorem dX6_inList_1 : decode cX6_inList 1 = .ok (.iconst 0, 1) := by decide +kernel
theorem dX6_inList_2 : decode cX6_inList 2 = .ok (.putfield 22, 3) := by decide +kernel
theorem dX6_inList_5 : decode cX6_inList 5 = .ok (.iload_n 1, 1) := by decide +kernel
theorem dX6_inList_6 : decode cX6_inList 6 = .ok (.iconst 0, 1) := by decide +kernel
theorem dX6_inList_7 : decode cX6_inList 7 = .ok (.aload_n 0, 1) := by decide +kernel
theorem dX6_inList_8 : decode cX6_inList 8 = .ok (.getfield 7, 3) := by decide +kernel
theorem dX6_inList_11 : decode cX6_inList 11 = .ok (.bipush 6, 2) := by decide +kernel
theorem dX6_inList_13 : decode cX6_inList 13 = .ok (.iaload, 1) := by decide +kernel
theorem dX6_inList_14 : decode cX6_inList 14 = .ok (.iconst 1, 1) := by decide +kernel
theorem dX6_inList_15 : decode cX6_inList 15 = .ok (.isub, 1) := by decide +kernel
theorem dX6_inList_16 : decode cX6_inList 16 = .ok (.invokestatic 29, 3) := by decide +kernel
theorem dX6_inList_19 : decode cX6_inList 19 = .ok (.ifCond .eq 15, 3) := by decide +kernel
theorem dX6_inList_22 : decode cX6_inList 22 = .ok (.aload_n 0, 1) := by decide +kernel
theorem dX6_inList_23 : decode cX6_inList 23 = .ok (.getfield 7, 3) := by decide +kernel
theorem dX6_inList_26 : decode cX6_inList 26 = .ok (.bipush 72, 2) := by decide +kernel
theorem dX6_inList_28 : decode cX6_inList 28 = .ok (.iload_n 1, 1) := by decide +kernel
theorem dX6_inList_29 : decode cX6_inList 29 = .ok (.iadd, 1) := by decide +kernel
theorem dX6_inList_30 : decode cX6_inList 30 = .ok (.iaload, 1) := by decide +kernel
theorem dX6_inList_31 : decode cX6_inList 31 = .ok (.goto 8, 3) := by decide +kernel
theorem dX6_inList_34 : decode cX6_inList 34 = .ok (.aload_n 0, 1) := by decide +kernel
theorem dX6_inList_35 : decode cX6_inList 35 = .ok (.iconst 1, 1) := by decide +kernel
theorem dX6_inList_36 : decode cX6_inList 36 = .ok (.invokevirtual 103, 3) := by decide +kernel
theorem dX6_inList_39 : decode cX6_inList 39 = .ok (.ireturn, 1) := by decide +kernel
set_option maxRecDepth 20000 in
theorem ggX6_next_X6_fails : GoodIn wsX6_next wsX6_fails := goodIn_r _ [7, 1, 78, 79, 80, 81, 82, 83, 84, 85, 86, 87, 88, 89] (by decide +kernel) (by decide +kernel)
set_option maxRecDepth 20000 in
theorem gX6_next_X6_fails : GoodIn wsX6_next (wsV RX6 103 RX6 yX6_fails wsX6_fails) := goodIn_app (goodIn_of _ (by decide +kernel)) ggX6_next_X6_fails
set_option maxRecDepth 20000 in
theorem ggX6_next_X6_save : GoodIn wsX6_next wsX6_save := goodIn_ca (goodIn_r _ [11, 12, 13, 2, 78, 79, 80, 81, 82, 83, 84, 85, 86, 87, 88, 89] (by decide +kernel) (by decide +kernel)) (goodIn_sub (fun _ h => List.mem_cons_of_mem _ (List.mem_append_right _ h)) (by decide +kernel))
set_option maxRecDepth 20000 in
theorem gX6_next_X6_save : GoodIn wsX6_next (wsV RX6 106 RX6 yX6_save wsX6_save) := goodIn_app (goodIn_of _ (by decide +kernel)) ggX6_next_X6_save
set_option maxRecDepth 20000 in
theorem ggX6_next_X6_begins : GoodIn wsX6_next wsX6_begins := goodIn_ca (goodIn_r _ [17, 2, 18, 19, 20, 6, 21, 22, 23, 24, 25, 26, 27, 28, 29, 30, 31, 32, 33, 34, 35, 36, 37, 38, 39, 40, 41, 42, 43, 44, 45, 46, 47, 48, 49, 50, 51, 52, 53, 54, 55, 56, 57, 58, 59, 60, 61, 62, 63, 64, 65, 66, 67, 68, 69, 70, 71, 72, 73, 74, 75, 76, 77, 78, 79, 80, 81, 82, 83, 84, 85, 86, 87, 88, 89] (by decide +kernel) (by decide +kernel)) (goodIn_sub (fun _ h => List.mem_cons_of_mem _ (List.mem_append_right _ h)) (by decide +kernel))
set_option maxRecDepth 20000 in
theorem gX6_next_X6_begins : GoodIn wsX6_next (wsV RX6 124 RX6 yX6_begins wsX6_begins) := goodIn_app (goodIn_of _ (by decide +kernel)) ggX6_next_X6_begins
theorem dX6_next_0 : decode cX6_next 0 = .ok (.aload_n 0, 1) := by decide +kernel
theorem dX6_next_1 : decode cX6_next 1 = .ok (.iconst 0, 1) := by decide +kernel
theorem dX6_next_2 : decode cX6_next 2 = .ok (.putfield 22, 3) := by decide +kernel
theorem dX6_next_5 : decode cX6_next 5 = .ok (.aload_n 0, 1) := by decide +kernel
theorem dX6_next_6 : decode cX6_next 6 = .ok (.getfield 7, 3) := by decide +kernel
theorem dX6_next_9 : decode cX6_next 9 = .ok (.iconst 4, 1) := by decide +kernel
theorem dX6_next_10 : decode cX6_next 10 = .ok (.iaload, 1) := by decide +kernel
theorem dX6_next_11 : decode cX6_next 11 = .ok (.iconst (-1), 1) := by decide +kernel
theorem dX6_next_12 : decode cX6_next 12 = .ok (.if_icmp .eq 9, 3) := by decide +kernel
theorem dX6_next_15 : decode cX6_next 15 = .ok (.aload_n 0, 1) := by decide +kernel
theorem dX6_next_16 : decode cX6_next 16 = .ok (.iconst 1, 1) := by decide +kernel
theorem dX6_next_17 : decode cX6_next 17 = .ok (.invokevirtual 103, 3) := by decide +kernel
theorem dX6_next_20 : decode cX6_next 20 = .ok (.ireturn, 1) := by decide +kernel
theorem dX6_next_21 : decode cX6_next 21 = .ok (.aload_n 0, 1) := by decide +kernel
theorem dX6_next_22 : decode cX6_next 22 = .ok (.invokevirtual 106, 3) := by decide +kernel
theorem dX6_next_25 : decode cX6_next 25 = .ok (.aload_n 0, 1) := by decide +kernel
theorem dX6_next_26 : decode cX6_next 26 = .ok (.invokevirtual 124, 3) := by decide +kernel
theorem dX6_next_29 : decode cX6_next 29 = .ok (.ireturn, 1) := by decide +kernel
theorem dX6_canEnd_0 : decode cX6_canEnd 0 = .ok (.aload_n 0, 1) := by decide +kernel
theorem dX6_canEnd_1 : decode cX6_canEnd 1 = .ok (.getfield 7, 3) := by decide +kernel
theorem dX6_canEnd_4 : decode cX6_canEnd 4 = .ok (.iconst 4, 1) := by decide +kernel
theorem dX6_canEnd_5 : decode cX6_canEnd 5 = .ok (.iaload, 1) := by decide +kernel
theorem dX6_canEnd_6 : decode cX6_canEnd 6 = .ok (.iconst (-1), 1) := by decide +kernel
theorem dX6_canEnd_7 : decode cX6_canEnd 7 = .ok (.if_icmp .eq 17, 3) := by decide +kernel
theorem dX6_canEnd_10 : decode cX6_canEnd 10 = .ok (.aload_n 0, 1) := by decide +kernel
theorem dX6_canEnd_11 : decode cX6_canEnd 11 = .ok (.getfield 7, 3) := by decide +kernel
theorem dX6_canEnd_14 : decode cX6_canEnd 14 = .ok (.bipush 8, 2) := by decide +kernel
theorem dX6_canEnd_16 : decode cX6_canEnd 16 = .ok (.iaload, 1) := by decide +kernel
theorem dX6_canEnd_17 : decode cX6_canEnd 17 = .ok (.ifCond .ne 7, 3) := by decide +kernel
theorem dX6_canEnd_20 : decode cX6_canEnd 20 = .ok (.iconst 1, 1) := by decide +kernel
theorem dX6_canEnd_21 : decode cX6_canEnd 21 = .ok (.goto 4, 3) := by decide +kernel
theorem dX6_canEnd_24 : decode cX6_canEnd 24 = .ok (.iconst 0, 1) := by decide +kernel
theorem dX6_canEnd_25 : decode cX6_canEnd 25 = .ok (.ireturn, 1) := by decide +kernel
set_option maxRecDepth 20000 in
theorem ggX6_end_X6_canEnd : GoodIn wsX6_end wsX6_canEnd := goodIn_ca (goodIn_r _ [6, 7, 26, 27, 28, 29, 30, 31, 32, 33, 34, 35, 36, 37] (by decide +kernel) (by decide +kernel)) (goodIn_sub (fun _ h => List.mem_cons_of_mem _ (List.mem_append_right _ h)) (by decide +kernel))
set_option maxRecDepth 20000 in
theorem gX6_end_X6_canEnd : GoodIn wsX6_end (wsV RX6 127 RX6 yX6_canEnd wsX6_canEnd) := goodIn_app (goodIn_of _ (by decide +kernel)) ggX6_end_X6_canEnd
set_option maxRecDepth 20000 in
theorem ggX6_end_X6_fails : GoodIn wsX6_end wsX6_fails := goodIn_r _ [11, 1, 26, 27, 28, 29, 30, 31, 32, 33, 34, 35, 36, 37] (by decide +kernel) (by decide +kernel)
set_option maxRecDepth 20000 in
theorem gX6_end_X6_fails : GoodIn wsX6_end (wsV RX6 103 RX6 yX6_fails wsX6_fails) := goodIn_app (goodIn_of _ (by decide +kernel)) ggX6_end_X6_fails
set_option maxRecDepth 20000 in
theorem ggX6_end_X6_save : GoodIn wsX6_end wsX6_save := goodIn_ca (goodIn_r _ [15, 16, 17, 7, 26, 27, 28, 29, 30, 31, 32, 33, 34, 35, 36, 37] (by decide +kernel) (by decide +kernel)) (goodIn_sub (fun _ h => List.mem_cons_of_mem _ (List.mem_append_right _ h)) (by decide +kernel))
set_option maxRecDepth 20000 in
theorem gX6_end_X6_save : GoodIn wsX6_end (wsV RX6 106 RX6 yX6_save wsX6_save) := goodIn_app (goodIn_of _ (by decide +kernel)) ggX6_end_X6_save
set_option maxRecDepth 20000 in
theorem ggX6_end_X6_ends : GoodIn wsX6_end wsX6_ends := goodIn_ca (goodIn_r _ [21, 7, 22, 23, 24, 5, 25, 26, 27, 28, 29, 30, 31, 32, 33, 34, 35, 36, 37] (by decide +kernel) (by decide +kernel)) (goodIn_sub (fun _ h => List.mem_cons_of_mem _ (List.mem_append_right _ h)) (by decide +kernel))
set_option maxRecDepth 20000 in
theorem gX6_end_X6_ends : GoodIn wsX6_end (wsV RX6 82 RX6 yX6_ends wsX6_ends) := goodIn_app (goodIn_of _ (by decide +kernel)) ggX6_end_X6_ends
theorem dX6_end_0 : decode cX6_end 0 = .ok (.aload_n 0, 1) := by decide +kernel
theorem dX6_end_1 : decode cX6_end 1 = .ok (.iconst 0, 1) := by decide +kernel
theorem dX6_end_2 : decode cX6_end 2 = .ok (.putfield 22, 3) := by decide +kernel
theorem dX6_end_5 : decode cX6_end 5 = .ok (.aload_n 0, 1) := by decide +kernel
theorem dX6_end_6 : decode cX6_end 6 = .ok (.invokevirtual 127, 3) := by decide +kernel
theorem dX6_end_9 : decode cX6_end 9 = .ok (.ifCond .ne 9, 3) := by decide +kernel
theorem dX6_end_12 : decode cX6_end 12 = .ok (.aload_n 0, 1) := by decide +kernel
theorem dX6_end_13 : decode cX6_end 13 = .ok (.iconst 1, 1) := by decide +kernel
theorem dX6_end_14 : decode cX6_end 14 = .ok (.invokevirtual 103, 3) := by decide +kernel
theorem dX6_end_17 : decode cX6_end 17 = .ok (.ireturn, 1) := by decide +kernel
theorem dX6_end_18 : decode cX6_end 18 = .ok (.aload_n 0, 1) := by decide +kernel
theorem dX6_end_19 : decode cX6_end 19 = .ok (.invokevirtual 106, 3) := by decide +kernel
theorem dX6_end_22 : decode cX6_end 22 = .ok (.aload_n 0, 1) := by decide +kernel
theorem dX6_end_23 : decode cX6_end 23 = .ok (.invokevirtual 82, 3) := by decide +kernel
theorem dX6_end_26 : decode cX6_end 26 = .ok (.ireturn, 1) := by decide +kernel
set_option maxRecDepth 20000 in
theorem ggX6_delay_X6_canDelay : GoodIn wsX6_delay wsX6_canDelay := goodIn_ca (goodIn_r _ [6, 7, 8, 9, 10, 5, 11, 30, 31, 32, 33, 34, 35, 36, 37, 38, 39, 40, 41] (by decide +kernel) (by decide +kernel)) (goodIn_sub (fun _ h => List.mem_cons_of_mem _ (List.mem_append_right _ h)) (by decide +kernel))
set_option maxRecDepth 20000 in
theorem gX6_delay_X6_canDelay : GoodIn wsX6_delay (wsV RX6 131 RX6 yX6_canDelay wsX6_canDelay) := goodIn_app (goodIn_of _ (by decide +kernel)) ggX6_delay_X6_canDelay
set_option maxRecDepth 20000 in
theorem ggX6_delay_X6_fails : GoodIn wsX6_delay wsX6_fails := goodIn_r _ [15, 1, 30, 31, 32, 33, 34, 35, 36, 37, 38, 39, 40, 41] (by decide +kernel) (by decide +kernel)
set_option maxRecDepth 20000 in
theorem gX6_delay_X6_fails : GoodIn wsX6_delay (wsV RX6 103 RX6 yX6_fails wsX6_fails) := goodIn_app (goodIn_of _ (by decide +kernel)) ggX6_delay_X6_fails
set_option maxRecDepth 20000 in
theorem ggX6_delay_X6_save : GoodIn wsX6_delay wsX6_save := goodIn_ca (goodIn_r _ [19, 20, 21, 7, 30, 31, 32, 33, 34, 35, 36, 37, 38, 39, 40, 41] (by decide +kernel) (by decide +kernel)) (goodIn_sub (fun _ h => List.mem_cons_of_mem _ (List.mem_append_right _ h)) (by decide +kernel))
set_option maxRecDepth 20000 in
theorem gX6_delay_X6_save : GoodIn wsX6_delay (wsV RX6 106 RX6 yX6_save wsX6_save) := goodIn_app (goodIn_of _ (by decide +kernel)) ggX6_delay_X6_save
set_option maxRecDepth 20000 in
theorem ggX6_delay_X6_delays : GoodIn wsX6_delay wsX6_delays := goodIn_ca (goodIn_r _ [25, 7, 26, 27, 28, 5, 29, 30, 31, 32, 33, 34, 35, 36, 37, 38, 39, 40, 41] (by decide +kernel) (by decide +kernel)) (goodIn_sub (fun _ h => List.mem_cons_of_mem _ (List.mem_append_right _ h)) (by decide +kernel))
set_option maxRecDepth 20000 in
theorem gX6_delay_X6_delays : GoodIn wsX6_delay (wsV RX6 134 RX6 yX6_delays wsX6_delays) := goodIn_app (goodIn_of _ (by decide +kernel)) ggX6_delay_X6_delays
theorem dX6_delay_0 : decode cX6_delay 0 = .ok (.aload_n 0, 1) := by decide +kernel
theorem dX6_delay_1 : decode cX6_delay 1 = .ok (.iconst 0, 1) := by decide +kernel
theorem dX6_delay_2 : decode cX6_delay 2 = .ok (.putfield 22, 3) := by decide +kernel
theorem dX6_delay_5 : decode cX6_delay 5 = .ok (.aload_n 0, 1) := by decide +kernel
theorem dX6_delay_6 : decode cX6_delay 6 = .ok (.invokevirtual 131, 3) := by decide +kernel
theorem dX6_delay_9 : decode cX6_delay 9 = .ok (.ifCond .ne 9, 3) := by decide +kernel
theorem dX6_delay_12 : decode cX6_delay 12 = .ok (.aload_n 0, 1) := by decide +kernel
theorem dX6_delay_13 : decode cX6_delay 13 = .ok (.iconst 1, 1) := by decide +kernel
theorem dX6_delay_14 : decode cX6_delay 14 = .ok (.invokevirtual 103, 3) := by decide +kernel
theorem dX6_delay_17 : decode cX6_delay 17 = .ok (.ireturn, 1) := by decide +kernel
theorem dX6_delay_18 : decode cX6_delay 18 = .ok (.aload_n 0, 1) := by decide +kernel
theorem dX6_delay_19 : decode cX6_delay 19 = .ok (.invokevirtual 106, 3) := by decide +kernel
theorem dX6_delay_22 : decode cX6_delay 22 = .ok (.aload_n 0, 1) := by decide +kernel
theorem dX6_delay_23 : decode cX6_delay 23 = .ok (.invokevirtual 134, 3) := by decide +kernel
theorem dX6_delay_26 : decode cX6_delay 26 = .ok (.ireturn, 1) := by decide +kernel
set_option maxRecDepth 20000 in
theorem ggX6_comeIn_X6_isFighter : GoodIn wsX6_comeIn wsX6_isFighter := goodIn_ca (goodIn_r _ [6, 7, 8, 9, 5, 10, 49, 50, 51, 52, 53, 54, 55, 56, 57, 58, 59, 60] (by decide +kernel) (by decide +kernel)) (goodIn_sub (fun _ h => List.mem_cons_of_mem _ (List.mem_append_right _ h)) (by decide +kernel))
set_option maxRecDepth 20000 in
theorem gX6_comeIn_X6_isFighter : GoodIn wsX6_comeIn (wsV RX6 109 RX6 yX6_isFighter wsX6_isFighter) := goodIn_app (goodIn_of _ (by decide +kernel)) ggX6_comeIn_X6_isFighter
set_option maxRecDepth 20000 in
theorem ggX6_comeIn_X6_fails : GoodIn wsX6_comeIn wsX6_fails := goodIn_r _ [14, 1, 49, 50, 51, 52, 53, 54, 55, 56, 57, 58, 59, 60] (by decide +kernel) (by decide +kernel)
set_option maxRecDepth 20000 in
theorem gX6_comeIn_X6_fails : GoodIn wsX6_comeIn (wsV RX6 103 RX6 yX6_fails wsX6_fails) := goodIn_app (goodIn_of _ (by decide +kernel)) ggX6_comeIn_X6_fails
set_option maxRecDepth 20000 in
theorem ggX6_comeIn_X6_canComeIn : GoodIn wsX6_comeIn wsX6_canComeIn := goodIn_ca (goodIn_r _ [18, 7, 19, 20, 21, 5, 22, 23, 24, 25, 26, 49, 50, 51, 52, 53, 54, 55, 56, 57, 58, 59, 60] (by decide +kernel) (by decide +kernel)) (goodIn_sub (fun _ h => List.mem_cons_of_mem _ (List.mem_append_right _ h)) (by decide +kernel))
set_option maxRecDepth 20000 in
theorem gX6_comeIn_X6_canComeIn : GoodIn wsX6_comeIn (wsV RX6 137 RX6 yX6_canComeIn wsX6_canComeIn) := goodIn_app (goodIn_of _ (by decide +kernel)) ggX6_comeIn_X6_canComeIn
set_option maxRecDepth 20000 in
theorem ggX6_comeIn_X6_save : GoodIn wsX6_comeIn wsX6_save := goodIn_ca (goodIn_r _ [30, 31, 32, 7, 49, 50, 51, 52, 53, 54, 55, 56, 57, 58, 59, 60] (by decide +kernel) (by decide +kernel)) (goodIn_sub (fun _ h => List.mem_cons_of_mem _ (List.mem_append_right _ h)) (by decide +kernel))
set_option maxRecDepth 20000 in
theorem gX6_comeIn_X6_save : GoodIn wsX6_comeIn (wsV RX6 106 RX6 yX6_save wsX6_save) := goodIn_app (goodIn_of _ (by decide +kernel)) ggX6_comeIn_X6_save
set_option maxRecDepth 20000 in
theorem ggX6_comeIn_X6_comesIn : GoodIn wsX6_comeIn wsX6_comesIn := goodIn_ca (goodIn_r _ [36, 7, 37, 38, 39, 5, 40, 41, 42, 43, 44, 45, 46, 47, 48, 49, 50, 51, 52, 53, 54, 55, 56, 57, 58, 59, 60] (by decide +kernel) (by decide +kernel)) (goodIn_sub (fun _ h => List.mem_cons_of_mem _ (List.mem_append_right _ h)) (by decide +kernel))
set_option maxRecDepth 20000 in
theorem gX6_comeIn_X6_comesIn : GoodIn wsX6_comeIn (wsV RX6 140 RX6 yX6_comesIn wsX6_comesIn) := goodIn_app (goodIn_of _ (by decide +kernel)) ggX6_comeIn_X6_comesIn
theorem dX6_comeIn_0 : decode cX6_comeIn 0 = .ok (.aload_n 0, 1) := by decide +kernel
theorem dX6_comeIn_1 : decode cX6_comeIn 1 = .ok (.iconst 0, 1) := by decide +kernel
theorem dX6_comeIn_2 : decode cX6_comeIn 2 = .ok (.putfield 22, 3) := by decide +kernel
theorem dX6_comeIn_5 : decode cX6_comeIn 5 = .ok (.aload_n 0, 1) := by decide +kernel
theorem dX6_comeIn_6 : decode cX6_comeIn 6 = .ok (.iload_n 1, 1) := by decide +kernel
theorem dX6_comeIn_7 : decode cX6_comeIn 7 = .ok (.invokevirtual 109, 3) := by decide +kernel
theorem dX6_comeIn_10 : decode cX6_comeIn 10 = .ok (.ifCond .ne 9, 3) := by decide +kernel
theorem dX6_comeIn_13 : decode cX6_comeIn 13 = .ok (.aload_n 0, 1) := by decide +kernel
theorem dX6_comeIn_14 : decode cX6_comeIn 14 = .ok (.iconst 1, 1) := by decide +kernel
theorem dX6_comeIn_15 : decode cX6_comeIn 15 = .ok (.invokevirtual 103, 3) := by decide +kernel
theorem dX6_comeIn_18 : decode cX6_comeIn 18 = .ok (.ireturn, 1) := by decide +kernel
theorem dX6_comeIn_19 : decode cX6_comeIn 19 = .ok (.aload_n 0, 1) := by decide +kernel
theorem dX6_comeIn_20 : decode cX6_comeIn 20 = .ok (.iload_n 1, 1) := by decide +kernel
theorem dX6_comeIn_21 : decode cX6_comeIn 21 = .ok (.invokevirtual 137, 3) := by decide +kernel
theorem dX6_comeIn_24 : decode cX6_comeIn 24 = .ok (.ifCond .ne 9, 3) := by decide +kernel
theorem dX6_comeIn_27 : decode cX6_comeIn 27 = .ok (.aload_n 0, 1) := by decide +kernel
theorem dX6_comeIn_28 : decode cX6_comeIn 28 = .ok (.iconst 2, 1) := by decide +kernel
theorem dX6_comeIn_29 : decode cX6_comeIn 29 = .ok (.invokevirtual 103, 3) := by decide +kernel
theorem dX6_comeIn_32 : decode cX6_comeIn 32 = .ok (.ireturn, 1) := by decide +kernel
theorem dX6_comeIn_33 : decode cX6_comeIn 33 = .ok (.aload_n 0, 1) := by decide +kernel
theorem dX6_comeIn_34 : decode cX6_comeIn 34 = .ok (.invokevirtual 106, 3) := by decide +kernel
theorem dX6_comeIn_37 : decode cX6_comeIn 37 = .ok (.aload_n 0, 1) := by decide +kernel
theorem dX6_comeIn_38 : decode cX6_comeIn 38 = .ok (.iload_n 1, 1) := by decide +kernel
theorem dX6_comeIn_39 : decode cX6_comeIn 39 = .ok (.invokevirtual 140, 3) := by decide +kernel
theorem dX6_comeIn_42 : decode cX6_comeIn 42 = .ok (.ireturn, 1) := by decide +kernel
set_option maxRecDepth 20000 in
theorem ggX6_act_X6_isFighter : GoodIn wsX6_act wsX6_isFighter := goodIn_ca (goodIn_r _ [6, 7, 8, 9, 5, 10, 49, 50, 51, 52, 53, 54, 55, 56, 57, 58, 59, 60] (by decide +kernel) (by decide +kernel)) (goodIn_sub (fun _ h => List.mem_cons_of_mem _ (List.mem_append_right _ h)) (by decide +kernel))
set_option maxRecDepth 20000 in
theorem gX6_act_X6_isFighter : GoodIn wsX6_act (wsV RX6 109 RX6 yX6_isFighter wsX6_isFighter) := goodIn_app (goodIn_of _ (by decide +kernel)) ggX6_act_X6_isFighter
set_option maxRecDepth 20000 in
theorem ggX6_act_X6_fails : GoodIn wsX6_act wsX6_fails := goodIn_r _ [14, 1, 49, 50, 51, 52, 53, 54, 55, 56, 57, 58, 59, 60] (by decide +kernel) (by decide +kernel)
set_option maxRecDepth 20000 in
theorem gX6_act_X6_fails : GoodIn wsX6_act (wsV RX6 103 RX6 yX6_fails wsX6_fails) := goodIn_app (goodIn_of _ (by decide +kernel)) ggX6_act_X6_fails
set_option maxRecDepth 20000 in
theorem ggX6_act_X6_in : GoodIn wsX6_act wsX6_in := goodIn_r _ [10] (by decide +kernel) (by decide +kernel)
set_option maxRecDepth 20000 in
theorem gX6_act_X6_in : GoodIn wsX6_act (va_wsS RX6 29 yX6_in wsX6_in) := goodIn_app (goodIn_of _ (by decide +kernel)) ggX6_act_X6_in
set_option maxRecDepth 20000 in
theorem ggX6_act_X6_canAct : GoodIn wsX6_act wsX6_canAct := goodIn_ca (goodIn_r _ [18, 7, 19, 20, 21, 5, 22, 8, 9, 10, 23, 24, 25, 26, 27, 28, 29, 30, 31, 32, 33, 34, 49, 50, 51, 52, 53, 54, 55, 56, 57, 58, 59, 60] (by decide +kernel) (by decide +kernel)) (goodIn_sub (fun _ h => List.mem_cons_of_mem _ (List.mem_append_right _ h)) (by decide +kernel))
set_option maxRecDepth 20000 in
theorem gX6_act_X6_canAct : GoodIn wsX6_act (wsV RX6 143 RX6 yX6_canAct wsX6_canAct) := goodIn_app (goodIn_of _ (by decide +kernel)) ggX6_act_X6_canAct
set_option maxRecDepth 20000 in
theorem ggX6_act_X6_save : GoodIn wsX6_act wsX6_save := goodIn_ca (goodIn_r _ [38, 39, 40, 7, 49, 50, 51, 52, 53, 54, 55, 56, 57, 58, 59, 60] (by decide +kernel) (by decide +kernel)) (goodIn_sub (fun _ h => List.mem_cons_of_mem _ (List.mem_append_right _ h)) (by decide +kernel))
set_option maxRecDepth 20000 in
theorem gX6_act_X6_save : GoodIn wsX6_act (wsV RX6 106 RX6 yX6_save wsX6_save) := goodIn_app (goodIn_of _ (by decide +kernel)) ggX6_act_X6_save
set_option maxRecDepth 20000 in
theorem ggX6_act_X6_pushes : GoodIn wsX6_act wsX6_pushes := goodIn_ca (goodIn_r _ [44, 7, 45, 46, 47, 5, 48, 49, 50, 51, 52, 53, 54, 55, 56, 57, 58, 59, 60] (by decide +kernel) (by decide +kernel)) (goodIn_sub (fun _ h => List.mem_cons_of_mem _ (List.mem_append_right _ h)) (by decide +kernel))
set_option maxRecDepth 20000 in
theorem gX6_act_X6_pushes : GoodIn wsX6_act (wsV RX6 147 RX6 yX6_pushes wsX6_pushes) := goodIn_app (goodIn_of _ (by decide +kernel)) ggX6_act_X6_pushes
theorem dX6_act_0 : decode cX6_act 0 = .ok (.aload_n 0, 1) := by decide +kernel
theorem dX6_act_1 : decode cX6_act 1 = .ok (.iconst 0, 1) := by decide +kernel
theorem dX6_act_2 : decode cX6_act 2 = .ok (.putfield 22, 3) := by decide +kernel
theorem dX6_act_5 : decode cX6_act 5 = .ok (.aload_n 0, 1) := by decide +kernel
theorem dX6_act_6 : decode cX6_act 6 = .ok (.iload_n 1, 1) := by decide +kernel
theorem dX6_act_7 : decode cX6_act 7 = .ok (.invokevirtual 109, 3) := by decide +kernel
theorem dX6_act_10 : decode cX6_act 10 = .ok (.ifCond .eq 11, 3) := by decide +kernel
theorem dX6_act_13 : decode cX6_act 13 = .ok (.aload_n 0, 1) := by decide +kernel
theorem dX6_act_14 : decode cX6_act 14 = .ok (.iload_n 3, 1) := by decide +kernel
theorem dX6_act_15 : decode cX6_act 15 = .ok (.invokevirtual 109, 3) := by decide +kernel
theorem dX6_act_18 : decode cX6_act 18 = .ok (.ifCond .ne 9, 3) := by decide +kernel
theorem dX6_act_21 : decode cX6_act 21 = .ok (.aload_n 0, 1) := by decide +kernel
theorem dX6_act_22 : decode cX6_act 22 = .ok (.iconst 1, 1) := by decide +kernel
theorem dX6_act_23 : decode cX6_act 23 = .ok (.invokevirtual 103, 3) := by decide +kernel
theorem dX6_act_26 : decode cX6_act 26 = .ok (.ireturn, 1) := by decide +kernel
theorem dX6_act_27 : decode cX6_act 27 = .ok (.iload_n 2, 1) := by decide +kernel
theorem dX6_act_28 : decode cX6_act 28 = .ok (.iconst 0, 1) := by decide +kernel
theorem dX6_act_29 : decode cX6_act 29 = .ok (.iconst 3, 1) := by decide +kernel
theorem dX6_act_30 : decode cX6_act 30 = .ok (.invokestatic 29, 3) := by decide +kernel
theorem dX6_act_33 : decode cX6_act 33 = .ok (.ifCond .eq 19, 3) := by decide +kernel
theorem dX6_act_36 : decode cX6_act 36 = .ok (.iload_n 2, 1) := by decide +kernel
theorem dX6_act_37 : decode cX6_act 37 = .ok (.iconst 2, 1) := by decide +kernel
theorem dX6_act_38 : decode cX6_act 38 = .ok (.if_icmp .eq 14, 3) := by decide +kernel
theorem dX6_act_41 : decode cX6_act 41 = .ok (.iload 4, 2) := by decide +kernel
theorem dX6_act_43 : decode cX6_act 43 = .ok (.iconst 1, 1) := by decide +kernel
theorem dX6_act_44 : decode cX6_act 44 = .ok (.bipush 60, 2) := by decide +kernel
theorem dX6_act_46 : decode cX6_act 46 = .ok (.invokestatic 29, 3) := by decide +kernel
theorem dX6_act_49 : decode cX6_act 49 = .ok (.ifCond .ne 9, 3) := by decide +kernel
theorem dX6_act_52 : decode cX6_act 52 = .ok (.aload_n 0, 1) := by decide +kernel
theorem dX6_act_53 : decode cX6_act 53 = .ok (.iconst 2, 1) := by decide +kernel
theorem dX6_act_54 : decode cX6_act 54 = .ok (.invokevirtual 103, 3) := by decide +kernel
theorem dX6_act_57 : decode cX6_act 57 = .ok (.ireturn, 1) := by decide +kernel
theorem dX6_act_58 : decode cX6_act 58 = .ok (.aload_n 0, 1) := by decide +kernel
theorem dX6_act_59 : decode cX6_act 59 = .ok (.iload_n 1, 1) := by decide +kernel
theorem dX6_act_60 : decode cX6_act 60 = .ok (.iload_n 2, 1) := by decide +kernel
theorem dX6_act_61 : decode cX6_act 61 = .ok (.invokevirtual 143, 3) := by decide +kernel
theorem dX6_act_64 : decode cX6_act 64 = .ok (.ifCond .ne 9, 3) := by decide +kernel
theorem dX6_act_67 : decode cX6_act 67 = .ok (.aload_n 0, 1) := by decide +kernel
theorem dX6_act_68 : decode cX6_act 68 = .ok (.iconst 3, 1) := by decide +kernel
theorem dX6_act_69 : decode cX6_act 69 = .ok (.invokevirtual 103, 3) := by decide +kernel
theorem dX6_act_72 : decode cX6_act 72 = .ok (.ireturn, 1) := by decide +kernel
theorem dX6_act_73 : decode cX6_act 73 = .ok (.aload_n 0, 1) := by decide +kernel
theorem dX6_act_74 : decode cX6_act 74 = .ok (.invokevirtual 106, 3) := by decide +kernel
theorem dX6_act_77 : decode cX6_act 77 = .ok (.aload_n 0, 1) := by decide +kernel
theorem dX6_act_78 : decode cX6_act 78 = .ok (.iload_n 2, 1) := by decide +kernel
theorem dX6_act_79 : decode cX6_act 79 = .ok (.iload_n 1, 1) := by decide +kernel
theorem dX6_act_80 : decode cX6_act 80 = .ok (.iload_n 3, 1) := by decide +kernel
theorem dX6_act_81 : decode cX6_act 81 = .ok (.iload 4, 2) := by decide +kernel
theorem dX6_act_83 : decode cX6_act 83 = .ok (.iconst 0, 1) := by decide +kernel
theorem dX6_act_84 : decode cX6_act 84 = .ok (.iconst 0, 1) := by decide +kernel
theorem dX6_act_85 : decode cX6_act 85 = .ok (.iconst 0, 1) := by decide +kernel
theorem dX6_act_86 : decode cX6_act 86 = .ok (.invokevirtual 147, 3) := by decide +kernel
theorem dX6_act_89 : decode cX6_act 89 = .ok (.ireturn, 1) := by decide +kernel
set_option maxRecDepth 20000 in
theorem ggX6_cast_X6_isFighter : GoodIn wsX6_cast wsX6_isFighter := goodIn_ca (goodIn_r _ [6, 7, 8, 9, 5, 10, 49, 50, 51, 52, 53, 54, 55, 56, 57, 58, 59, 60] (by decide +kernel) (by decide +kernel)) (goodIn_sub (fun _ h => List.mem_cons_of_mem _ (List.mem_append_right _ h)) (by decide +kernel))
set_option maxRecDepth 20000 in
theorem gX6_cast_X6_isFighter : GoodIn wsX6_cast (wsV RX6 109 RX6 yX6_isFighter wsX6_isFighter) := goodIn_app (goodIn_of _ (by decide +kernel)) ggX6_cast_X6_isFighter
set_option maxRecDepth 20000 in
theorem ggX6_cast_X6_fails : GoodIn wsX6_cast wsX6_fails := goodIn_r _ [14, 1, 49, 50, 51, 52, 53, 54, 55, 56, 57, 58, 59, 60] (by decide +kernel) (by decide +kernel)
set_option maxRecDepth 20000 in
theorem gX6_cast_X6_fails : GoodIn wsX6_cast (wsV RX6 103 RX6 yX6_fails wsX6_fails) := goodIn_app (goodIn_of _ (by decide +kernel)) ggX6_cast_X6_fails
set_option maxRecDepth 20000 in
theorem ggX6_cast_X6_in : GoodIn wsX6_cast wsX6_in := goodIn_r _ [10] (by decide +kernel) (by decide +kernel)
set_option maxRecDepth 20000 in
theorem gX6_cast_X6_in : GoodIn wsX6_cast (va_wsS RX6 29 yX6_in wsX6_in) := goodIn_app (goodIn_of _ (by decide +kernel)) ggX6_cast_X6_in
set_option maxRecDepth 20000 in
theorem ggX6_cast_X6_canAct : GoodIn wsX6_cast wsX6_canAct := goodIn_ca (goodIn_r _ [18, 7, 19, 20, 21, 5, 22, 8, 9, 10, 23, 24, 25, 26, 27, 28, 29, 30, 31, 32, 33, 34, 49, 50, 51, 52, 53, 54, 55, 56, 57, 58, 59, 60] (by decide +kernel) (by decide +kernel)) (goodIn_sub (fun _ h => List.mem_cons_of_mem _ (List.mem_append_right _ h)) (by decide +kernel))
set_option maxRecDepth 20000 in
theorem gX6_cast_X6_canAct : GoodIn wsX6_cast (wsV RX6 143 RX6 yX6_canAct wsX6_canAct) := goodIn_app (goodIn_of _ (by decide +kernel)) ggX6_cast_X6_canAct
set_option maxRecDepth 20000 in
theorem ggX6_cast_X6_save : GoodIn wsX6_cast wsX6_save := goodIn_ca (goodIn_r _ [38, 39, 40, 7, 49, 50, 51, 52, 53, 54, 55, 56, 57, 58, 59, 60] (by decide +kernel) (by decide +kernel)) (goodIn_sub (fun _ h => List.mem_cons_of_mem _ (List.mem_append_right _ h)) (by decide +kernel))
set_option maxRecDepth 20000 in
theorem gX6_cast_X6_save : GoodIn wsX6_cast (wsV RX6 106 RX6 yX6_save wsX6_save) := goodIn_app (goodIn_of _ (by decide +kernel)) ggX6_cast_X6_save
set_option maxRecDepth 20000 in
theorem ggX6_cast_X6_pushes : GoodIn wsX6_cast wsX6_pushes := goodIn_ca (goodIn_r _ [44, 7, 45, 46, 47, 5, 48, 49, 50, 51, 52, 53, 54, 55, 56, 57, 58, 59, 60] (by decide +kernel) (by decide +kernel)) (goodIn_sub (fun _ h => List.mem_cons_of_mem _ (List.mem_append_right _ h)) (by decide +kernel))
set_option maxRecDepth 20000 in
theorem gX6_cast_X6_pushes : GoodIn wsX6_cast (wsV RX6 147 RX6 yX6_pushes wsX6_pushes) := goodIn_app (goodIn_of _ (by decide +kernel)) ggX6_cast_X6_pushes
theorem dX6_cast_0 : decode cX6_cast 0 = .ok (.aload_n 0, 1) := by decide +kernel
theorem dX6_cast_1 : decode cX6_cast 1 = .ok (.iconst 0, 1) := by decide +kernel
theorem dX6_cast_2 : decode cX6_cast 2 = .ok (.putfield 22, 3) := by decide +kernel
theorem dX6_cast_5 : decode cX6_cast 5 = .ok (.aload_n 0, 1) := by decide +kernel
theorem dX6_cast_6 : decode cX6_cast 6 = .ok (.iload_n 1, 1) := by decide +kernel
theorem dX6_cast_7 : decode cX6_cast 7 = .ok (.invokevirtual 109, 3) := by decide +kernel
theorem dX6_cast_10 : decode cX6_cast 10 = .ok (.ifCond .eq 11, 3) := by decide +kernel
theorem dX6_cast_13 : decode cX6_cast 13 = .ok (.aload_n 0, 1) := by decide +kernel
theorem dX6_cast_14 : decode cX6_cast 14 = .ok (.iload_n 2, 1) := by decide +kernel
theorem dX6_cast_15 : decode cX6_cast 15 = .ok (.invokevirtual 109, 3) := by decide +kernel
theorem dX6_cast_18 : decode cX6_cast 18 = .ok (.ifCond .ne 9, 3) := by decide +kernel
theorem dX6_cast_21 : decode cX6_cast 21 = .ok (.aload_n 0, 1) := by decide +kernel
theorem dX6_cast_22 : decode cX6_cast 22 = .ok (.iconst 1, 1) := by decide +kernel
theorem dX6_cast_23 : decode cX6_cast 23 = .ok (.invokevirtual 103, 3) := by decide +kernel
theorem dX6_cast_26 : decode cX6_cast 26 = .ok (.ireturn, 1) := by decide +kernel
theorem dX6_cast_27 : decode cX6_cast 27 = .ok (.iload_n 3, 1) := by decide +kernel
theorem dX6_cast_28 : decode cX6_cast 28 = .ok (.iconst 0, 1) := by decide +kernel
theorem dX6_cast_29 : decode cX6_cast 29 = .ok (.iconst 4, 1) := by decide +kernel
theorem dX6_cast_30 : decode cX6_cast 30 = .ok (.invokestatic 29, 3) := by decide +kernel
theorem dX6_cast_33 : decode cX6_cast 33 = .ok (.ifCond .eq 35, 3) := by decide +kernel
theorem dX6_cast_36 : decode cX6_cast 36 = .ok (.iload 4, 2) := by decide +kernel
theorem dX6_cast_38 : decode cX6_cast 38 = .ok (.iconst 1, 1) := by decide +kernel
theorem dX6_cast_39 : decode cX6_cast 39 = .ok (.bipush 20, 2) := by decide +kernel
theorem dX6_cast_41 : decode cX6_cast 41 = .ok (.invokestatic 29, 3) := by decide +kernel
theorem dX6_cast_44 : decode cX6_cast 44 = .ok (.ifCond .eq 24, 3) := by decide +kernel
theorem dX6_cast_47 : decode cX6_cast 47 = .ok (.iload 5, 2) := by decide +kernel
theorem dX6_cast_49 : decode cX6_cast 49 = .ok (.iconst 1, 1) := by decide +kernel
theorem dX6_cast_50 : decode cX6_cast 50 = .ok (.bipush 20, 2) := by decide +kernel
theorem dX6_cast_52 : decode cX6_cast 52 = .ok (.invokestatic 29, 3) := by decide +kernel
theorem dX6_cast_55 : decode cX6_cast 55 = .ok (.ifCond .eq 13, 3) := by decide +kernel
theorem dX6_cast_58 : decode cX6_cast 58 = .ok (.iload 6, 2) := by decide +kernel
theorem dX6_cast_60 : decode cX6_cast 60 = .ok (.iconst 0, 1) := by decide +kernel
theorem dX6_cast_61 : decode cX6_cast 61 = .ok (.iconst 3, 1) := by decide +kernel
theorem dX6_cast_62 : decode cX6_cast 62 = .ok (.invokestatic 29, 3) := by decide +kernel
theorem dX6_cast_65 : decode cX6_cast 65 = .ok (.ifCond .ne 9, 3) := by decide +kernel
theorem dX6_cast_68 : decode cX6_cast 68 = .ok (.aload_n 0, 1) := by decide +kernel
theorem dX6_cast_69 : decode cX6_cast 69 = .ok (.iconst 2, 1) := by decide +kernel
theorem dX6_cast_70 : decode cX6_cast 70 = .ok (.invokevirtual 103, 3) := by decide +kernel
theorem dX6_cast_73 : decode cX6_cast 73 = .ok (.ireturn, 1) := by decide +kernel
theorem dX6_cast_74 : decode cX6_cast 74 = .ok (.aload_n 0, 1) := by decide +kernel
theorem dX6_cast_75 : decode cX6_cast 75 = .ok (.iload_n 1, 1) := by decide +kernel
theorem dX6_cast_76 : decode cX6_cast 76 = .ok (.iconst 2, 1) := by decide +kernel
theorem dX6_cast_77 : decode cX6_cast 77 = .ok (.invokevirtual 143, 3) := by decide +kernel
theorem dX6_cast_80 : decode cX6_cast 80 = .ok (.ifCond .ne 9, 3) := by decide +kernel
theorem dX6_cast_83 : decode cX6_cast 83 = .ok (.aload_n 0, 1) := by decide +kernel
theorem dX6_cast_84 : decode cX6_cast 84 = .ok (.iconst 3, 1) := by decide +kernel
theorem dX6_cast_85 : decode cX6_cast 85 = .ok (.invokevirtual 103, 3) := by decide +kernel
theorem dX6_cast_88 : decode cX6_cast 88 = .ok (.ireturn, 1) := by decide +kernel
theorem dX6_cast_89 : decode cX6_cast 89 = .ok (.aload_n 0, 1) := by decide +kernel
theorem dX6_cast_90 : decode cX6_cast 90 = .ok (.invokevirtual 106, 3) := by decide +kernel
theorem dX6_cast_93 : decode cX6_cast 93 = .ok (.aload_n 0, 1) := by decide +kernel
theorem dX6_cast_94 : decode cX6_cast 94 = .ok (.iconst 2, 1) := by decide +kernel
theorem dX6_cast_95 : decode cX6_cast 95 = .ok (.iload_n 1, 1) := by decide +kernel
theorem dX6_cast_96 : decode cX6_cast 96 = .ok (.iload_n 2, 1) := by decide +kernel
theorem dX6_cast_97 : decode cX6_cast 97 = .ok (.iload 4, 2) := by decide +kernel
theorem dX6_cast_99 : decode cX6_cast 99 = .ok (.iload_n 3, 1) := by decide +kernel
theorem dX6_cast_100 : decode cX6_cast 100 = .ok (.iload 5, 2) := by decide +kernel
theorem dX6_cast_102 : decode cX6_cast 102 = .ok (.iload 6, 2) := by decide +kernel
theorem dX6_cast_104 : decode cX6_cast 104 = .ok (.invokevirtual 147, 3) := by decide +kernel
theorem dX6_cast_107 : decode cX6_cast 107 = .ok (.ireturn, 1) := by decide +kernel
