theorem dX6_init_0 : decode cX6_init 0 = .ok (.aload_n 0, 1) := by decide +kernel
theorem dX6_init_1 : decode cX6_init 1 = .ok (.invokespecial 1, 3) := by decide +kernel
theorem dX6_init_4 : decode cX6_init 4 = .ok (.aload_n 0, 1) := by decide +kernel
theorem dX6_init_5 : decode cX6_init 5 = .ok (.sipush 378, 3) := by decide +kernel
theorem dX6_init_8 : decode cX6_init 8 = .ok (.newarray .int, 2) := by decide +kernel
theorem dX6_init_10 : decode cX6_init 10 = .ok (.putfield 7, 3) := by decide +kernel
theorem dX6_init_13 : decode cX6_init 13 = .ok (.aload_n 0, 1) := by decide +kernel
theorem dX6_init_14 : decode cX6_init 14 = .ok (.sipush 378, 3) := by decide +kernel
theorem dX6_init_17 : decode cX6_init 17 = .ok (.newarray .int, 2) := by decide +kernel
theorem dX6_init_19 : decode cX6_init 19 = .ok (.putfield 13, 3) := by decide +kernel
theorem dX6_init_22 : decode cX6_init 22 = .ok (.aload_n 0, 1) := by decide +kernel
theorem dX6_init_23 : decode cX6_init 23 = .ok (.sipush 1512, 3) := by decide +kernel
theorem dX6_init_26 : decode cX6_init 26 = .ok (.newarray .int, 2) := by decide +kernel
theorem dX6_init_28 : decode cX6_init 28 = .ok (.putfield 16, 3) := by decide +kernel
theorem dX6_init_31 : decode cX6_init 31 = .ok (.aload_n 0, 1) := by decide +kernel
theorem dX6_init_32 : decode cX6_init 32 = .ok (.bipush 120, 2) := by decide +kernel
theorem dX6_init_34 : decode cX6_init 34 = .ok (.newarray .int, 2) := by decide +kernel
theorem dX6_init_36 : decode cX6_init 36 = .ok (.putfield 19, 3) := by decide +kernel
theorem dX6_init_39 : decode cX6_init 39 = .ok (.aload_n 0, 1) := by decide +kernel
theorem dX6_init_40 : decode cX6_init 40 = .ok (.iconst 0, 1) := by decide +kernel
theorem dX6_init_41 : decode cX6_init 41 = .ok (.putfield 22, 3) := by decide +kernel
theorem dX6_init_44 : decode cX6_init 44 = .ok (.aload_n 0, 1) := by decide +kernel
theorem dX6_init_45 : decode cX6_init 45 = .ok (.getfield 7, 3) := by decide +kernel
theorem dX6_init_48 : decode cX6_init 48 = .ok (.iconst 2, 1) := by decide +kernel
theorem dX6_init_49 : decode cX6_init 49 = .ok (.bipush 10, 2) := by decide +kernel
theorem dX6_init_51 : decode cX6_init 51 = .ok (.iastore, 1) := by decide +kernel
theorem dX6_init_52 : decode cX6_init 52 = .ok (.aload_n 0, 1) := by decide +kernel
theorem dX6_init_53 : decode cX6_init 53 = .ok (.getfield 7, 3) := by decide +kernel
theorem dX6_init_56 : decode cX6_init 56 = .ok (.iconst 4, 1) := by decide +kernel
theorem dX6_init_57 : decode cX6_init 57 = .ok (.iconst (-1), 1) := by decide +kernel
theorem dX6_init_58 : decode cX6_init 58 = .ok (.iastore, 1) := by decide +kernel
theorem dX6_init_59 : decode cX6_init 59 = .ok (.aload_n 0, 1) := by decide +kernel
theorem dX6_init_60 : decode cX6_init 60 = .ok (.getfield 7, 3) := by decide +kernel
theorem dX6_init_63 : decode cX6_init 63 = .ok (.bipush 7, 2) := by decide +kernel
theorem dX6_init_65 : decode cX6_init 65 = .ok (.iconst (-1), 1) := by decide +kernel
theorem dX6_init_66 : decode cX6_init 66 = .ok (.iastore, 1) := by decide +kernel
theorem dX6_init_67 : decode cX6_init 67 = .ok (.return_, 1) := by decide +kernel
theorem dX6_thrown_0 : decode cX6_thrown 0 = .ok (.aload_n 0, 1) := by decide +kernel
theorem dX6_thrown_1 : decode cX6_thrown 1 = .ok (.getfield 22, 3) := by decide +kernel
theorem dX6_thrown_4 : decode cX6_thrown 4 = .ok (.ireturn, 1) := by decide +kernel
theorem dX6_in_0 : decode cX6_in 0 = .ok (.iload_n 0, 1) := by decide +kernel
theorem dX6_in_1 : decode cX6_in 1 = .ok (.iload_n 1, 1) := by decide +kernel
theorem dX6_in_2 : decode cX6_in 2 = .ok (.if_icmp .lt 12, 3) := by decide +kernel
theorem dX6_in_5 : decode cX6_in 5 = .ok (.iload_n 0, 1) := by decide +kernel
theorem dX6_in_6 : decode cX6_in 6 = .ok (.iload_n 2, 1) := by decide +kernel
theorem dX6_in_7 : decode cX6_in 7 = .ok (.if_icmp .gt 7, 3) := by decide +kernel
theorem dX6_in_10 : decode cX6_in 10 = .ok (.iconst 1, 1) := by decide +kernel
theorem dX6_in_11 : decode cX6_in 11 = .ok (.goto 4, 3) := by decide +kernel
theorem dX6_in_14 : decode cX6_in 14 = .ok (.iconst 0, 1) := by decide +kernel
theorem dX6_in_15 : decode cX6_in 15 = .ok (.ireturn, 1) := by decide +kernel
theorem dX6_fails_0 : decode cX6_fails 0 = .ok (.aload_n 0, 1) := by decide +kernel
theorem dX6_fails_1 : decode cX6_fails 1 = .ok (.iload_n 1, 1) := by decide +kernel
theorem dX6_fails_2 : decode cX6_fails 2 = .ok (.putfield 22, 3) := by decide +kernel
theorem dX6_fails_5 : decode cX6_fails 5 = .ok (.iconst 0, 1) := by decide +kernel
theorem dX6_fails_6 : decode cX6_fails 6 = .ok (.ireturn, 1) := by decide +kernel
theorem dX6_save_0 : decode cX6_save 0 = .ok (.aload_n 0, 1) := by decide +kernel
theorem dX6_save_1 : decode cX6_save 1 = .ok (.getfield 26, 3) := by decide +kernel
theorem dX6_save_4 : decode cX6_save 4 = .ok (.iconst 4, 1) := by decide +kernel
theorem dX6_save_5 : decode cX6_save 5 = .ok (.if_icmp .ne 44, 3) := by decide +kernel
theorem dX6_save_8 : decode cX6_save 8 = .ok (.iconst 0, 1) := by decide +kernel
theorem dX6_save_9 : decode cX6_save 9 = .ok (.istore_n 1, 1) := by decide +kernel
theorem dX6_save_10 : decode cX6_save 10 = .ok (.iload_n 1, 1) := by decide +kernel
theorem dX6_save_11 : decode cX6_save 11 = .ok (.sipush 1134, 3) := by decide +kernel
theorem dX6_save_14 : decode cX6_save 14 = .ok (.if_icmp .ge 25, 3) := by decide +kernel
theorem dX6_save_17 : decode cX6_save 17 = .ok (.aload_n 0, 1) := by decide +kernel
theorem dX6_save_18 : decode cX6_save 18 = .ok (.getfield 16, 3) := by decide +kernel
theorem dX6_save_21 : decode cX6_save 21 = .ok (.iload_n 1, 1) := by decide +kernel
theorem dX6_save_22 : decode cX6_save 22 = .ok (.aload_n 0, 1) := by decide +kernel
theorem dX6_save_23 : decode cX6_save 23 = .ok (.getfield 16, 3) := by decide +kernel
theorem dX6_save_26 : decode cX6_save 26 = .ok (.iload_n 1, 1) := by decide +kernel
theorem dX6_save_27 : decode cX6_save 27 = .ok (.sipush 378, 3) := by decide +kernel
theorem dX6_save_30 : decode cX6_save 30 = .ok (.iadd, 1) := by decide +kernel
theorem dX6_save_31 : decode cX6_save 31 = .ok (.iaload, 1) := by decide +kernel
theorem dX6_save_32 : decode cX6_save 32 = .ok (.iastore, 1) := by decide +kernel
theorem dX6_save_33 : decode cX6_save 33 = .ok (.iinc 1 1, 3) := by decide +kernel
theorem dX6_save_36 : decode cX6_save 36 = .ok (.goto (-26), 3) := by decide +kernel
theorem dX6_save_39 : decode cX6_save 39 = .ok (.aload_n 0, 1) := by decide +kernel
theorem dX6_save_40 : decode cX6_save 40 = .ok (.dup, 1) := by decide +kernel
theorem dX6_save_41 : decode cX6_save 41 = .ok (.getfield 26, 3) := by decide +kernel
theorem dX6_save_44 : decode cX6_save 44 = .ok (.iconst 1, 1) := by decide +kernel
theorem dX6_save_45 : decode cX6_save 45 = .ok (.isub, 1) := by decide +kernel
theorem dX6_save_46 : decode cX6_save 46 = .ok (.putfield 26, 3) := by decide +kernel
theorem dX6_save_49 : decode cX6_save 49 = .ok (.iconst 0, 1) := by decide +kernel
theorem dX6_save_50 : decode cX6_save 50 = .ok (.istore_n 1, 1) := by decide +kernel
theorem dX6_save_51 : decode cX6_save 51 = .ok (.iload_n 1, 1) := by decide +kernel
theorem dX6_save_52 : decode cX6_save 52 = .ok (.sipush 378, 3) := by decide +kernel
theorem dX6_save_55 : decode cX6_save 55 = .ok (.if_icmp .ge 30, 3) := by decide +kernel
theorem dX6_save_58 : decode cX6_save 58 = .ok (.aload_n 0, 1) := by decide +kernel
theorem dX6_save_59 : decode cX6_save 59 = .ok (.getfield 16, 3) := by decide +kernel
theorem dX6_save_62 : decode cX6_save 62 = .ok (.sipush 378, 3) := by decide +kernel
theorem dX6_save_65 : decode cX6_save 65 = .ok (.aload_n 0, 1) := by decide +kernel
theorem dX6_save_66 : decode cX6_save 66 = .ok (.getfield 26, 3) := by decide +kernel
theorem dX6_save_69 : decode cX6_save 69 = .ok (.imul, 1) := by decide +kernel
theorem dX6_save_70 : decode cX6_save 70 = .ok (.iload_n 1, 1) := by decide +kernel
theorem dX6_save_71 : decode cX6_save 71 = .ok (.iadd, 1) := by decide +kernel
theorem dX6_save_72 : decode cX6_save 72 = .ok (.aload_n 0, 1) := by decide +kernel
theorem dX6_save_73 : decode cX6_save 73 = .ok (.getfield 7, 3) := by decide +kernel
theorem dX6_save_76 : decode cX6_save 76 = .ok (.iload_n 1, 1) := by decide +kernel
theorem dX6_save_77 : decode cX6_save 77 = .ok (.iaload, 1) := by decide +kernel
theorem dX6_save_78 : decode cX6_save 78 = .ok (.iastore, 1) := by decide +kernel
theorem dX6_save_79 : decode cX6_save 79 = .ok (.iinc 1 1, 3) := by decide +kernel
theorem dX6_save_82 : decode cX6_save 82 = .ok (.goto (-31), 3) := by decide +kernel
theorem dX6_save_85 : decode cX6_save 85 = .ok (.aload_n 0, 1) := by decide +kernel
theorem dX6_save_86 : decode cX6_save 86 = .ok (.dup, 1) := by decide +kernel
theorem dX6_save_87 : decode cX6_save 87 = .ok (.getfield 26, 3) := by decide +kernel
theorem dX6_save_90 : decode cX6_save 90 = .ok (.iconst 1, 1) := by decide +kernel
theorem dX6_save_91 : decode cX6_save 91 = .ok (.iadd, 1) := by decide +kernel
theorem dX6_save_92 : decode cX6_save 92 = .ok (.putfield 26, 3) := by decide +kernel
theorem dX6_save_95 : decode cX6_save 95 = .ok (.return_, 1) := by decide +kernel
theorem dX6_hold_0 : decode cX6_hold 0 = .ok (.iconst 0, 1) := by decide +kernel
theorem dX6_hold_1 : decode cX6_hold 1 = .ok (.istore_n 1, 1) := by decide +kernel
theorem dX6_hold_2 : decode cX6_hold 2 = .ok (.iload_n 1, 1) := by decide +kernel
theorem dX6_hold_3 : decode cX6_hold 3 = .ok (.sipush 378, 3) := by decide +kernel
theorem dX6_hold_6 : decode cX6_hold 6 = .ok (.if_icmp .ge 21, 3) := by decide +kernel
theorem dX6_hold_9 : decode cX6_hold 9 = .ok (.aload_n 0, 1) := by decide +kernel
theorem dX6_hold_10 : decode cX6_hold 10 = .ok (.getfield 13, 3) := by decide +kernel
theorem dX6_hold_13 : decode cX6_hold 13 = .ok (.iload_n 1, 1) := by decide +kernel
theorem dX6_hold_14 : decode cX6_hold 14 = .ok (.aload_n 0, 1) := by decide +kernel
theorem dX6_hold_15 : decode cX6_hold 15 = .ok (.getfield 7, 3) := by decide +kernel
theorem dX6_hold_18 : decode cX6_hold 18 = .ok (.iload_n 1, 1) := by decide +kernel
theorem dX6_hold_19 : decode cX6_hold 19 = .ok (.iaload, 1) := by decide +kernel
theorem dX6_hold_20 : decode cX6_hold 20 = .ok (.iastore, 1) := by decide +kernel
theorem dX6_hold_21 : decode cX6_hold 21 = .ok (.iinc 1 1, 3) := by decide +kernel
theorem dX6_hold_24 : decode cX6_hold 24 = .ok (.goto (-22), 3) := by decide +kernel
theorem dX6_hold_27 : decode cX6_hold 27 = .ok (.return_, 1) := by decide +kernel
theorem dX6_release_0 : decode cX6_release 0 = .ok (.iconst 0, 1) := by decide +kernel
theorem dX6_release_1 : decode cX6_release 1 = .ok (.istore_n 1, 1) := by decide +kernel
theorem dX6_release_2 : decode cX6_release 2 = .ok (.iload_n 1, 1) := by decide +kernel
theorem dX6_release_3 : decode cX6_release 3 = .ok (.sipush 378, 3) := by decide +kernel
theorem dX6_release_6 : decode cX6_release 6 = .ok (.if_icmp .ge 21, 3) := by decide +kernel
theorem dX6_release_9 : decode cX6_release 9 = .ok (.aload_n 0, 1) := by decide +kernel
theorem dX6_release_10 : decode cX6_release 10 = .ok (.getfield 7, 3) := by decide +kernel
theorem dX6_release_13 : decode cX6_release 13 = .ok (.iload_n 1, 1) := by decide +kernel
theorem dX6_release_14 : decode cX6_release 14 = .ok (.aload_n 0, 1) := by decide +kernel
theorem dX6_release_15 : decode cX6_release 15 = .ok (.getfield 13, 3) := by decide +kernel
theorem dX6_release_18 : decode cX6_release 18 = .ok (.iload_n 1, 1) := by decide +kernel
theorem dX6_release_19 : decode cX6_release 19 = .ok (.iaload, 1) := by decide +kernel
theorem dX6_release_20 : decode cX6_release 20 = .ok (.iastore, 1) := by decide +kernel
theorem dX6_release_21 : decode cX6_release 21 = .ok (.iinc 1 1, 3) := by decide +kernel
theorem dX6_release_24 : decode cX6_release 24 = .ok (.goto (-22), 3) := by decide +kernel
theorem dX6_release_27 : decode cX6_release 27 = .ok (.return_, 1) := by decide +kernel
set_option maxRecDepth 20000 in
theorem ggX6_isFighter_X6_in : GoodIn wsX6_isFighter wsX6_in := goodIn_r _ [5] (by decide +kernel) (by decide +kernel)
set_option maxRecDepth 20000 in
theorem gX6_isFighter_X6_in : GoodIn wsX6_isFighter (va_wsS RX6 29 yX6_in wsX6_in) := goodIn_app (goodIn_of _ (by decide +kernel)) ggX6_isFighter_X6_in
theorem dX6_isFighter_0 : decode cX6_isFighter 0 = .ok (.iload_n 1, 1) := by decide +kernel
theorem dX6_isFighter_1 : decode cX6_isFighter 1 = .ok (.iconst 0, 1) := by decide +kernel
theorem dX6_isFighter_2 : decode cX6_isFighter 2 = .ok (.aload_n 0, 1) := by decide +kernel
theorem dX6_isFighter_3 : decode cX6_isFighter 3 = .ok (.getfield 7, 3) := by decide +kernel
theorem dX6_isFighter_6 : decode cX6_isFighter 6 = .ok (.iconst 0, 1) := by decide +kernel
theorem dX6_isFighter_7 : decode cX6_isFighter 7 = .ok (.iaload, 1) := by decide +kernel
theorem dX6_isFighter_8 : decode cX6_isFighter 8 = .ok (.iconst 1, 1) := by decide +kernel
theorem dX6_isFighter_9 : decode cX6_isFighter 9 = .ok (.isub, 1) := by decide +kernel
theorem dX6_isFighter_10 : decode cX6_isFighter 10 = .ok (.invokestatic 29, 3) := by decide +kernel
theorem dX6_isFighter_13 : decode cX6_isFighter 13 = .ok (.ireturn, 1) := by decide +kernel
theorem dX6_of_0 : decode cX6_of 0 = .ok (.aload_n 0, 1) := by decide +kernel
theorem dX6_of_1 : decode cX6_of 1 = .ok (.getfield 7, 3) := by decide +kernel
theorem dX6_of_4 : decode cX6_of 4 = .ok (.bipush 12, 2) := by decide +kernel
theorem dX6_of_6 : decode cX6_of 6 = .ok (.bipush 6, 2) := by decide +kernel
theorem dX6_of_8 : decode cX6_of 8 = .ok (.iload_n 1, 1) := by decide +kernel
theorem dX6_of_9 : decode cX6_of 9 = .ok (.imul, 1) := by decide +kernel
theorem dX6_of_10 : decode cX6_of 10 = .ok (.iadd, 1) := by decide +kernel
theorem dX6_of_11 : decode cX6_of 11 = .ok (.iload_n 2, 1) := by decide +kernel
theorem dX6_of_12 : decode cX6_of 12 = .ok (.iadd, 1) := by decide +kernel
theorem dX6_of_13 : decode cX6_of 13 = .ok (.iaload, 1) := by decide +kernel
theorem dX6_of_14 : decode cX6_of 14 = .ok (.ireturn, 1) := by decide +kernel
theorem dX6_set_0 : decode cX6_set 0 = .ok (.aload_n 0, 1) := by decide +kernel
theorem dX6_set_1 : decode cX6_set 1 = .ok (.getfield 7, 3) := by decide +kernel
theorem dX6_set_4 : decode cX6_set 4 = .ok (.bipush 12, 2) := by decide +kernel
theorem dX6_set_6 : decode cX6_set 6 = .ok (.bipush 6, 2) := by decide +kernel
theorem dX6_set_8 : decode cX6_set 8 = .ok (.iload_n 1, 1) := by decide +kernel
theorem dX6_set_9 : decode cX6_set 9 = .ok (.imul, 1) := by decide +kernel
theorem dX6_set_10 : decode cX6_set 10 = .ok (.iadd, 1) := by decide +kernel
theorem dX6_set_11 : decode cX6_set 11 = .ok (.iload_n 2, 1) := by decide +kernel
theorem dX6_set_12 : decode cX6_set 12 = .ok (.iadd, 1) := by decide +kernel
theorem dX6_set_13 : decode cX6_set 13 = .ok (.iload_n 3, 1) := by decide +kernel
theorem dX6_set_14 : decode cX6_set 14 = .ok (.iastore, 1) := by decide +kernel
theorem dX6_set_15 : decode cX6_set 15 = .ok (.return_, 1) := by decide +kernel
theorem dX6_ofEffect_0 : decode cX6_ofEffect 0 = .ok (.aload_n 0, 1) := by decide +kernel
theorem dX6_ofEffect_1 : decode cX6_ofEffect 1 = .ok (.getfield 7, 3) := by decide +kernel
theorem dX6_ofEffect_4 : decode cX6_ofEffect 4 = .ok (.bipush 82, 2) := by decide +kernel
theorem dX6_ofEffect_6 : decode cX6_ofEffect 6 = .ok (.bipush 8, 2) := by decide +kernel
theorem dX6_ofEffect_8 : decode cX6_ofEffect 8 = .ok (.iload_n 1, 1) := by decide +kernel
theorem dX6_ofEffect_9 : decode cX6_ofEffect 9 = .ok (.imul, 1) := by decide +kernel
theorem dX6_ofEffect_10 : decode cX6_ofEffect 10 = .ok (.iadd, 1) := by decide +kernel
theorem dX6_ofEffect_11 : decode cX6_ofEffect 11 = .ok (.iload_n 2, 1) := by decide +kernel
theorem dX6_ofEffect_12 : decode cX6_ofEffect 12 = .ok (.iadd, 1) := by decide +kernel
theorem dX6_ofEffect_13 : decode cX6_ofEffect 13 = .ok (.iaload, 1) := by decide +kernel
theorem dX6_ofEffect_14 : decode cX6_ofEffect 14 = .ok (.ireturn, 1) := by decide +kernel
set_option maxRecDepth 20000 in
theorem ggX6_stands_X6_of : GoodIn wsX6_stands wsX6_of := goodIn_ca (goodIn_r _ [5, 6, 7, 8, 9, 10, 11, 12, 13, 14, 15, 16, 17, 18] (by decide +kernel) (by decide +kernel)) (goodIn_sub (fun _ h => List.mem_cons_of_mem _ (List.mem_append_right _ h)) (by decide +kernel))
set_option maxRecDepth 20000 in
theorem gX6_stands_X6_of : GoodIn wsX6_stands (wsV RX6 33 RX6 yX6_of wsX6_of) := goodIn_app (goodIn_of _ (by decide +kernel)) ggX6_stands_X6_of
theorem dX6_stands_0 : decode cX6_stands 0 = .ok (.aload_n 0, 1) := by decide +kernel
theorem dX6_stands_1 : decode cX6_stands 1 = .ok (.iload_n 1, 1) := by decide +kernel
theorem dX6_stands_2 : decode cX6_stands 2 = .ok (.iconst 2, 1) := by decide +kernel
theorem dX6_stands_3 : decode cX6_stands 3 = .ok (.invokevirtual 33, 3) := by decide +kernel
theorem dX6_stands_6 : decode cX6_stands 6 = .ok (.ifCond .le 7, 3) := by decide +kernel
theorem dX6_stands_9 : decode cX6_stands 9 = .ok (.iconst 1, 1) := by decide +kernel
theorem dX6_stands_10 : decode cX6_stands 10 = .ok (.goto 4, 3) := by decide +kernel
theorem dX6_stands_13 : decode cX6_stands 13 = .ok (.iconst 0, 1) := by decide +kernel
theorem dX6_stands_14 : decode cX6_stands 14 = .ok (.ireturn, 1) := by decide +kernel
theorem dX6_endEffect_0 : decode cX6_endEffect 0 = .ok (.aload_n 0, 1) := by decide +kernel
theorem dX6_endEffect_1 : decode cX6_endEffect 1 = .ok (.getfield 7, 3) := by decide +kernel
theorem dX6_endEffect_4 : decode cX6_endEffect 4 = .ok (.iconst 1, 1) := by decide +kernel
theorem dX6_endEffect_5 : decode cX6_endEffect 5 = .ok (.dup2, 1) := by decide +kernel
theorem dX6_endEffect_6 : decode cX6_endEffect 6 = .ok (.iaload, 1) := by decide +kernel
theorem dX6_endEffect_7 : decode cX6_endEffect 7 = .ok (.iconst 1, 1) := by decide +kernel
theorem dX6_endEffect_8 : decode cX6_endEffect 8 = .ok (.isub, 1) := by decide +kernel
theorem dX6_endEffect_9 : decode cX6_endEffect 9 = .ok (.iastore, 1) := by decide +kernel
theorem dX6_endEffect_10 : decode cX6_endEffect 10 = .ok (.bipush 82, 2) := by decide +kernel
theorem dX6_endEffect_12 : decode cX6_endEffect 12 = .ok (.bipush 8, 2) := by decide +kernel
theorem dX6_endEffect_14 : decode cX6_endEffect 14 = .ok (.iload_n 1, 1) := by decide +kernel
theorem dX6_endEffect_15 : decode cX6_endEffect 15 = .ok (.imul, 1) := by decide +kernel
theorem dX6_endEffect_16 : decode cX6_endEffect 16 = .ok (.iadd, 1) := by decide +kernel
theorem dX6_endEffect_17 : decode cX6_endEffect 17 = .ok (.istore_n 2, 1) := by decide +kernel
theorem dX6_endEffect_18 : decode cX6_endEffect 18 = .ok (.iload_n 2, 1) := by decide +kernel
theorem dX6_endEffect_19 : decode cX6_endEffect 19 = .ok (.bipush 82, 2) := by decide +kernel
theorem dX6_endEffect_21 : decode cX6_endEffect 21 = .ok (.bipush 8, 2) := by decide +kernel
theorem dX6_endEffect_23 : decode cX6_endEffect 23 = .ok (.aload_n 0, 1) := by decide +kernel
theorem dX6_endEffect_24 : decode cX6_endEffect 24 = .ok (.getfield 7, 3) := by decide +kernel
theorem dX6_endEffect_27 : decode cX6_endEffect 27 = .ok (.iconst 1, 1) := by decide +kernel
theorem dX6_endEffect_28 : decode cX6_endEffect 28 = .ok (.iaload, 1) := by decide +kernel
theorem dX6_endEffect_29 : decode cX6_endEffect 29 = .ok (.imul, 1) := by decide +kernel
theorem dX6_endEffect_30 : decode cX6_endEffect 30 = .ok (.iadd, 1) := by decide +kernel
theorem dX6_endEffect_31 : decode cX6_endEffect 31 = .ok (.if_icmp .ge 24, 3) := by decide +kernel
theorem dX6_endEffect_34 : decode cX6_endEffect 34 = .ok (.aload_n 0, 1) := by decide +kernel
theorem dX6_endEffect_35 : decode cX6_endEffect 35 = .ok (.getfield 7, 3) := by decide +kernel
theorem dX6_endEffect_38 : decode cX6_endEffect 38 = .ok (.iload_n 2, 1) := by decide +kernel
theorem dX6_endEffect_39 : decode cX6_endEffect 39 = .ok (.aload_n 0, 1) := by decide +kernel
theorem dX6_endEffect_40 : decode cX6_endEffect 40 = .ok (.getfield 7, 3) := by decide +kernel
theorem dX6_endEffect_43 : decode cX6_endEffect 43 = .ok (.iload_n 2, 1) := by decide +kernel
theorem dX6_endEffect_44 : decode cX6_endEffect 44 = .ok (.bipush 8, 2) := by decide +kernel
theorem dX6_endEffect_46 : decode cX6_endEffect 46 = .ok (.iadd, 1) := by decide +kernel
theorem dX6_endEffect_47 : decode cX6_endEffect 47 = .ok (.iaload, 1) := by decide +kernel
theorem dX6_endEffect_48 : decode cX6_endEffect 48 = .ok (.iastore, 1) := by decide +kernel
theorem dX6_endEffect_49 : decode cX6_endEffect 49 = .ok (.iinc 2 1, 3) := by decide +kernel
theorem dX6_endEffect_52 : decode cX6_endEffect 52 = .ok (.goto (-34), 3) := by decide +kernel
theorem dX6_endEffect_55 : decode cX6_endEffect 55 = .ok (.aload_n 0, 1) := by decide +kernel
theorem dX6_endEffect_56 : decode cX6_endEffect 56 = .ok (.getfield 7, 3) := by decide +kernel
theorem dX6_endEffect_59 : decode cX6_endEffect 59 = .ok (.bipush 10, 2) := by decide +kernel
theorem dX6_endEffect_61 : decode cX6_endEffect 61 = .ok (.dup2, 1) := by decide +kernel
theorem dX6_endEffect_62 : decode cX6_endEffect 62 = .ok (.iaload, 1) := by decide +kernel
theorem dX6_endEffect_63 : decode cX6_endEffect 63 = .ok (.iconst 1, 1) := by decide +kernel
theorem dX6_endEffect_64 : decode cX6_endEffect 64 = .ok (.iadd, 1) := by decide +kernel
theorem dX6_endEffect_65 : decode cX6_endEffect 65 = .ok (.iastore, 1) := by decide +kernel
theorem dX6_endEffect_66 : decode cX6_endEffect 66 = .ok (.return_, 1) := by decide +kernel
set_option maxRecDepth 20000 in
theorem ggX6_heldBy_X6_ofEffect : GoodIn wsX6_heldBy wsX6_ofEffect := goodIn_ca (goodIn_r _ [6, 1, 7, 8, 9, 10, 11, 12, 13, 14, 15, 16, 17, 18] (by decide +kernel) (by decide +kernel)) (goodIn_sub (fun _ h => List.mem_cons_of_mem _ (List.mem_append_right _ h)) (by decide +kernel))
set_option maxRecDepth 20000 in
theorem gX6_heldBy_X6_ofEffect : GoodIn wsX6_heldBy (wsV RX6 37 RX6 yX6_ofEffect wsX6_ofEffect) := goodIn_app (goodIn_of _ (by decide +kernel)) ggX6_heldBy_X6_ofEffect
theorem dX6_heldBy_0 : decode cX6_heldBy 0 = .ok (.iconst 0, 1) := by decide +kernel
theorem dX6_heldBy_1 : decode cX6_heldBy 1 = .ok (.istore_n 2, 1) := by decide +kernel
theorem dX6_heldBy_2 : decode cX6_heldBy 2 = .ok (.iload_n 2, 1) := by decide +kernel
theorem dX6_heldBy_3 : decode cX6_heldBy 3 = .ok (.aload_n 0, 1) := by decide +kernel
theorem dX6_heldBy_4 : decode cX6_heldBy 4 = .ok (.getfield 7, 3) := by decide +kernel
theorem dX6_heldBy_7 : decode cX6_heldBy 7 = .ok (.iconst 1, 1) := by decide +kernel
theorem dX6_heldBy_8 : decode cX6_heldBy 8 = .ok (.iaload, 1) := by decide +kernel
theorem dX6_heldBy_9 : decode cX6_heldBy 9 = .ok (.if_icmp .ge 32, 3) := by decide +kernel
theorem dX6_heldBy_12 : decode cX6_heldBy 12 = .ok (.aload_n 0, 1) := by decide +kernel
theorem dX6_heldBy_13 : decode cX6_heldBy 13 = .ok (.iload_n 2, 1) := by decide +kernel
theorem dX6_heldBy_14 : decode cX6_heldBy 14 = .ok (.iconst 2, 1) := by decide +kernel
theorem dX6_heldBy_15 : decode cX6_heldBy 15 = .ok (.invokevirtual 37, 3) := by decide +kernel
theorem dX6_heldBy_18 : decode cX6_heldBy 18 = .ok (.iload_n 1, 1) := by decide +kernel
theorem dX6_heldBy_19 : decode cX6_heldBy 19 = .ok (.if_icmp .ne 16, 3) := by decide +kernel
theorem dX6_heldBy_22 : decode cX6_heldBy 22 = .ok (.aload_n 0, 1) := by decide +kernel
theorem dX6_heldBy_23 : decode cX6_heldBy 23 = .ok (.iload_n 2, 1) := by decide +kernel
theorem dX6_heldBy_24 : decode cX6_heldBy 24 = .ok (.bipush 6, 2) := by decide +kernel
theorem dX6_heldBy_26 : decode cX6_heldBy 26 = .ok (.invokevirtual 37, 3) := by decide +kernel
theorem dX6_heldBy_29 : decode cX6_heldBy 29 = .ok (.iconst 1, 1) := by decide +kernel
theorem dX6_heldBy_30 : decode cX6_heldBy 30 = .ok (.if_icmp .ne 5, 3) := by decide +kernel
theorem dX6_heldBy_33 : decode cX6_heldBy 33 = .ok (.iload_n 2, 1) := by decide +kernel
theorem dX6_heldBy_34 : decode cX6_heldBy 34 = .ok (.ireturn, 1) := by decide +kernel
theorem dX6_heldBy_35 : decode cX6_heldBy 35 = .ok (.iinc 2 1, 3) := by decide +kernel
theorem dX6_heldBy_38 : decode cX6_heldBy 38 = .ok (.goto (-36), 3) := by decide +kernel
theorem dX6_heldBy_41 : decode cX6_heldBy 41 = .ok (.iconst (-1), 1) := by decide +kernel
theorem dX6_heldBy_42 : decode cX6_heldBy 42 = .ok (.ireturn, 1) := by decide +kernel
set_option maxRecDepth 20000 in
theorem ggX6_stopHolding_X6_heldBy : GoodIn wsX6_stopHolding wsX6_heldBy := goodIn_ca (goodIn_r _ [5, 6, 7, 8, 9, 4, 10, 15, 16, 17, 18, 19, 20, 21, 22, 23, 24, 25, 26] (by decide +kernel) (by decide +kernel)) (goodIn_sub (fun _ h => List.mem_cons_of_mem _ (List.mem_append_right _ h)) (by decide +kernel))
set_option maxRecDepth 20000 in
theorem gX6_stopHolding_X6_heldBy : GoodIn wsX6_stopHolding (wsV RX6 40 RX6 yX6_heldBy wsX6_heldBy) := goodIn_app (goodIn_of _ (by decide +kernel)) ggX6_stopHolding_X6_heldBy
set_option maxRecDepth 20000 in
theorem ggX6_stopHolding_X6_endEffect : GoodIn wsX6_stopHolding wsX6_endEffect := goodIn_ca (goodIn_r _ [14, 6, 15, 16, 17, 18, 19, 20, 21, 22, 23, 24, 25, 26] (by decide +kernel) (by decide +kernel)) (goodIn_sub (fun _ h => List.mem_cons_of_mem _ (List.mem_append_right _ h)) (by decide +kernel))
set_option maxRecDepth 20000 in
theorem gX6_stopHolding_X6_endEffect : GoodIn wsX6_stopHolding (wsV RX6 44 RX6 yX6_endEffect wsX6_endEffect) := goodIn_app (goodIn_of _ (by decide +kernel)) ggX6_stopHolding_X6_endEffect
theorem dX6_stopHolding_0 : decode cX6_stopHolding 0 = .ok (.aload_n 0, 1) := by decide +kernel
theorem dX6_stopHolding_1 : decode cX6_stopHolding 1 = .ok (.iload_n 1, 1) := by decide +kernel
theorem dX6_stopHolding_2 : decode cX6_stopHolding 2 = .ok (.invokevirtual 40, 3) := by decide +kernel
theorem dX6_stopHolding_5 : decode cX6_stopHolding 5 = .ok (.istore_n 2, 1) := by decide +kernel
theorem dX6_stopHolding_6 : decode cX6_stopHolding 6 = .ok (.iload_n 2, 1) := by decide +kernel
theorem dX6_stopHolding_7 : decode cX6_stopHolding 7 = .ok (.iconst (-1), 1) := by decide +kernel
theorem dX6_stopHolding_8 : decode cX6_stopHolding 8 = .ok (.if_icmp .eq 8, 3) := by decide +kernel
theorem dX6_stopHolding_11 : decode cX6_stopHolding 11 = .ok (.aload_n 0, 1) := by decide +kernel
theorem dX6_stopHolding_12 : decode cX6_stopHolding 12 = .ok (.iload_n 2, 1) := by decide +kernel
theorem dX6_stopHolding_13 : decode cX6_stopHolding 13 = .ok (.invokevirtual 44, 3) := by decide +kernel
theorem dX6_stopHolding_16 : decode cX6_stopHolding 16 = .ok (.return_, 1) := by decide +kernel
set_option maxRecDepth 20000 in
theorem ggX6_powersOn_X6_ofEffect : GoodIn wsX6_powersOn wsX6_ofEffect := goodIn_ca (goodIn_r _ [6, 1, 7, 8, 9, 10, 11, 12, 13, 14, 15, 16, 17, 18] (by decide +kernel) (by decide +kernel)) (goodIn_sub (fun _ h => List.mem_cons_of_mem _ (List.mem_append_right _ h)) (by decide +kernel))
set_option maxRecDepth 20000 in
theorem gX6_powersOn_X6_ofEffect : GoodIn wsX6_powersOn (wsV RX6 37 RX6 yX6_ofEffect wsX6_ofEffect) := goodIn_app (goodIn_of _ (by decide +kernel)) ggX6_powersOn_X6_ofEffect
theorem dX6_powersOn_0 : decode cX6_powersOn 0 = .ok (.iconst 0, 1) := by decide +kernel
theorem dX6_powersOn_1 : decode cX6_powersOn 1 = .ok (.istore_n 3, 1) := by decide +kernel
theorem dX6_powersOn_2 : decode cX6_powersOn 2 = .ok (.iconst 0, 1) := by decide +kernel
theorem dX6_powersOn_3 : decode cX6_powersOn 3 = .ok (.istore 4, 2) := by decide +kernel
theorem dX6_powersOn_5 : decode cX6_powersOn 5 = .ok (.iload 4, 2) := by decide +kernel
theorem dX6_powersOn_7 : decode cX6_powersOn 7 = .ok (.aload_n 0, 1) := by decide +kernel
theorem dX6_powersOn_8 : decode cX6_powersOn 8 = .ok (.getfield 7, 3) := by decide +kernel
theorem dX6_powersOn_11 : decode cX6_powersOn 11 = .ok (.iconst 1, 1) := by decide +kernel
theorem dX6_powersOn_12 : decode cX6_powersOn 12 = .ok (.iaload, 1) := by decide +kernel
theorem dX6_powersOn_13 : decode cX6_powersOn 13 = .ok (.if_icmp .ge 45, 3) := by decide +kernel
theorem dX6_powersOn_16 : decode cX6_powersOn 16 = .ok (.iload_n 3, 1) := by decide +kernel
theorem dX6_powersOn_17 : decode cX6_powersOn 17 = .ok (.aload_n 0, 1) := by decide +kernel
theorem dX6_powersOn_18 : decode cX6_powersOn 18 = .ok (.iload 4, 2) := by decide +kernel
theorem dX6_powersOn_20 : decode cX6_powersOn 20 = .ok (.iconst 3, 1) := by decide +kernel
theorem dX6_powersOn_21 : decode cX6_powersOn 21 = .ok (.invokevirtual 37, 3) := by decide +kernel
theorem dX6_powersOn_24 : decode cX6_powersOn 24 = .ok (.iload_n 1, 1) := by decide +kernel
theorem dX6_powersOn_25 : decode cX6_powersOn 25 = .ok (.if_icmp .ne 24, 3) := by decide +kernel
theorem dX6_powersOn_28 : decode cX6_powersOn 28 = .ok (.aload_n 0, 1) := by decide +kernel
theorem dX6_powersOn_29 : decode cX6_powersOn 29 = .ok (.iload 4, 2) := by decide +kernel
theorem dX6_powersOn_31 : decode cX6_powersOn 31 = .ok (.iconst 0, 1) := by decide +kernel
theorem dX6_powersOn_32 : decode cX6_powersOn 32 = .ok (.invokevirtual 37, 3) := by decide +kernel
theorem dX6_powersOn_35 : decode cX6_powersOn 35 = .ok (.iload_n 2, 1) := by decide +kernel
theorem dX6_powersOn_36 : decode cX6_powersOn 36 = .ok (.if_icmp .ne 13, 3) := by decide +kernel
theorem dX6_powersOn_39 : decode cX6_powersOn 39 = .ok (.aload_n 0, 1) := by decide +kernel
theorem dX6_powersOn_40 : decode cX6_powersOn 40 = .ok (.iload 4, 2) := by decide +kernel
theorem dX6_powersOn_42 : decode cX6_powersOn 42 = .ok (.iconst 1, 1) := by decide +kernel
theorem dX6_powersOn_43 : decode cX6_powersOn 43 = .ok (.invokevirtual 37, 3) := by decide +kernel
theorem dX6_powersOn_46 : decode cX6_powersOn 46 = .ok (.goto 4, 3) := by decide +kernel
theorem dX6_powersOn_49 : decode cX6_powersOn 49 = .ok (.iconst 0, 1) := by decide +kernel
theorem dX6_powersOn_50 : decode cX6_powersOn 50 = .ok (.iadd, 1) := by decide +kernel
theorem dX6_powersOn_51 : decode cX6_powersOn 51 = .ok (.istore_n 3, 1) := by decide +kernel
theorem dX6_powersOn_52 : decode cX6_powersOn 52 = .ok (.iinc 4 1, 3) := by decide +kernel
theorem dX6_powersOn_55 : decode cX6_powersOn 55 = .ok (.goto (-50), 3) := by decide +kernel
theorem dX6_powersOn_58 : decode cX6_powersOn 58 = .ok (.iload_n 3, 1) := by decide +kernel
theorem dX6_powersOn_59 : decode cX6_powersOn 59 = .ok (.ireturn, 1) := by decide +kernel
set_option maxRecDepth 20000 in
theorem ggX6_speedOf_X6_of : GoodIn wsX6_speedOf wsX6_of := goodIn_ca (goodIn_r _ [5, 6, 15, 16, 17, 18, 19, 20, 21, 22, 23, 24, 25, 26] (by decide +kernel) (by decide +kernel)) (goodIn_sub (fun _ h => List.mem_cons_of_mem _ (List.mem_append_right _ h)) (by decide +kernel))
set_option maxRecDepth 20000 in
theorem gX6_speedOf_X6_of : GoodIn wsX6_speedOf (wsV RX6 33 RX6 yX6_of wsX6_of) := goodIn_app (goodIn_of _ (by decide +kernel)) ggX6_speedOf_X6_of
set_option maxRecDepth 20000 in
theorem ggX6_speedOf_X6_powersOn : GoodIn wsX6_speedOf wsX6_powersOn := goodIn_ca (goodIn_r _ [10, 6, 11, 12, 13, 4, 14, 15, 16, 17, 18, 19, 20, 21, 22, 23, 24, 25, 26] (by decide +kernel) (by decide +kernel)) (goodIn_sub (fun _ h => List.mem_cons_of_mem _ (List.mem_append_right _ h)) (by decide +kernel))
set_option maxRecDepth 20000 in
theorem gX6_speedOf_X6_powersOn : GoodIn wsX6_speedOf (wsV RX6 48 RX6 yX6_powersOn wsX6_powersOn) := goodIn_app (goodIn_of _ (by decide +kernel)) ggX6_speedOf_X6_powersOn
theorem dX6_speedOf_0 : decode cX6_speedOf 0 = .ok (.aload_n 0, 1) := by decide +kernel
theorem dX6_speedOf_1 : decode cX6_speedOf 1 = .ok (.iload_n 1, 1) := by decide +kernel
theorem dX6_speedOf_2 : decode cX6_speedOf 2 = .ok (.iconst 0, 1) := by decide +kernel
theorem dX6_speedOf_3 : decode cX6_speedOf 3 = .ok (.invokevirtual 33, 3) := by decide +kernel
theorem dX6_speedOf_6 : decode cX6_speedOf 6 = .ok (.aload_n 0, 1) := by decide +kernel
theorem dX6_speedOf_7 : decode cX6_speedOf 7 = .ok (.iload_n 1, 1) := by decide +kernel
theorem dX6_speedOf_8 : decode cX6_speedOf 8 = .ok (.iconst 1, 1) := by decide +kernel
theorem dX6_speedOf_9 : decode cX6_speedOf 9 = .ok (.invokevirtual 48, 3) := by decide +kernel
theorem dX6_speedOf_12 : decode cX6_speedOf 12 = .ok (.iadd, 1) := by decide +kernel
theorem dX6_speedOf_13 : decode cX6_speedOf 13 = .ok (.aload_n 0, 1) := by decide +kernel
theorem dX6_speedOf_14 : decode cX6_speedOf 14 = .ok (.iload_n 1, 1) := by decide +kernel
theorem dX6_speedOf_15 : decode cX6_speedOf 15 = .ok (.iconst 2, 1) := by decide +kernel
theorem dX6_speedOf_16 : decode cX6_speedOf 16 = .ok (.invokevirtual 48, 3) := by decide +kernel
theorem dX6_speedOf_19 : decode cX6_speedOf 19 = .ok (.isub, 1) := by decide +kernel
theorem dX6_speedOf_20 : decode cX6_speedOf 20 = .ok (.istore_n 2, 1) := by decide +kernel
theorem dX6_speedOf_21 : decode cX6_speedOf 21 = .ok (.iload_n 2, 1) := by decide +kernel
theorem dX6_speedOf_22 : decode cX6_speedOf 22 = .ok (.iconst 1, 1) := by decide +kernel
theorem dX6_speedOf_23 : decode cX6_speedOf 23 = .ok (.if_icmp .ge 7, 3) := by decide +kernel
theorem dX6_speedOf_26 : decode cX6_speedOf 26 = .ok (.iconst 1, 1) := by decide +kernel
theorem dX6_speedOf_27 : decode cX6_speedOf 27 = .ok (.goto 4, 3) := by decide +kernel
theorem dX6_speedOf_30 : decode cX6_speedOf 30 = .ok (.iload_n 2, 1) := by decide +kernel
theorem dX6_speedOf_31 : decode cX6_speedOf 31 = .ok (.ireturn, 1) := by decide +kernel
set_option maxRecDepth 20000 in
theorem ggX6_fall_X6_ofEffect : GoodIn wsX6_fall wsX6_ofEffect := goodIn_ca (goodIn_r _ [6, 1, 11, 12, 13, 14, 15, 16, 17, 18, 19, 20, 21, 22] (by decide +kernel) (by decide +kernel)) (goodIn_sub (fun _ h => List.mem_cons_of_mem _ (List.mem_append_right _ h)) (by decide +kernel))
set_option maxRecDepth 20000 in
theorem gX6_fall_X6_ofEffect : GoodIn wsX6_fall (wsV RX6 37 RX6 yX6_ofEffect wsX6_ofEffect) := goodIn_app (goodIn_of _ (by decide +kernel)) ggX6_fall_X6_ofEffect
set_option maxRecDepth 20000 in
theorem ggX6_fall_X6_endEffect : GoodIn wsX6_fall wsX6_endEffect := goodIn_ca (goodIn_r _ [10, 1, 11, 12, 13, 14, 15, 16, 17, 18, 19, 20, 21, 22] (by decide +kernel) (by decide +kernel)) (goodIn_sub (fun _ h => List.mem_cons_of_mem _ (List.mem_append_right _ h)) (by decide +kernel))
set_option maxRecDepth 20000 in
theorem gX6_fall_X6_endEffect : GoodIn wsX6_fall (wsV RX6 44 RX6 yX6_endEffect wsX6_endEffect) := goodIn_app (goodIn_of _ (by decide +kernel)) ggX6_fall_X6_endEffect
theorem dX6_fall_0 : decode cX6_fall 0 = .ok (.iconst 0, 1) := by decide +kernel
theorem dX6_fall_1 : decode cX6_fall 1 = .ok (.istore_n 2, 1) := by decide +kernel
theorem dX6_fall_2 : decode cX6_fall 2 = .ok (.iload_n 2, 1) := by decide +kernel
theorem dX6_fall_3 : decode cX6_fall 3 = .ok (.aload_n 0, 1) := by decide +kernel
theorem dX6_fall_4 : decode cX6_fall 4 = .ok (.getfield 7, 3) := by decide +kernel
theorem dX6_fall_7 : decode cX6_fall 7 = .ok (.iconst 1, 1) := by decide +kernel
theorem dX6_fall_8 : decode cX6_fall 8 = .ok (.iaload, 1) := by decide +kernel
theorem dX6_fall_9 : decode cX6_fall 9 = .ok (.if_icmp .ge 67, 3) := by decide +kernel
theorem dX6_fall_12 : decode cX6_fall 12 = .ok (.aload_n 0, 1) := by decide +kernel
theorem dX6_fall_13 : decode cX6_fall 13 = .ok (.iload_n 2, 1) := by decide +kernel
theorem dX6_fall_14 : decode cX6_fall 14 = .ok (.iconst 2, 1) := by decide +kernel
theorem dX6_fall_15 : decode cX6_fall 15 = .ok (.invokevirtual 37, 3) := by decide +kernel
theorem dX6_fall_18 : decode cX6_fall 18 = .ok (.iload_n 1, 1) := by decide +kernel
theorem dX6_fall_19 : decode cX6_fall 19 = .ok (.if_icmp .ne 27, 3) := by decide +kernel
theorem dX6_fall_22 : decode cX6_fall 22 = .ok (.aload_n 0, 1) := by decide +kernel
theorem dX6_fall_23 : decode cX6_fall 23 = .ok (.iload_n 2, 1) := by decide +kernel
theorem dX6_fall_24 : decode cX6_fall 24 = .ok (.bipush 6, 2) := by decide +kernel
theorem dX6_fall_26 : decode cX6_fall 26 = .ok (.invokevirtual 37, 3) := by decide +kernel
theorem dX6_fall_29 : decode cX6_fall 29 = .ok (.iconst 1, 1) := by decide +kernel
theorem dX6_fall_30 : decode cX6_fall 30 = .ok (.if_icmp .eq 12, 3) := by decide +kernel
theorem dX6_fall_33 : decode cX6_fall 33 = .ok (.aload_n 0, 1) := by decide +kernel
theorem dX6_fall_34 : decode cX6_fall 34 = .ok (.iload_n 2, 1) := by decide +kernel
theorem dX6_fall_35 : decode cX6_fall 35 = .ok (.iconst 5, 1) := by decide +kernel
theorem dX6_fall_36 : decode cX6_fall 36 = .ok (.invokevirtual 37, 3) := by decide +kernel
theorem dX6_fall_39 : decode cX6_fall 39 = .ok (.ifCond .ne 7, 3) := by decide +kernel
theorem dX6_fall_42 : decode cX6_fall 42 = .ok (.iconst 1, 1) := by decide +kernel
theorem dX6_fall_43 : decode cX6_fall 43 = .ok (.goto 4, 3) := by decide +kernel
theorem dX6_fall_46 : decode cX6_fall 46 = .ok (.iconst 0, 1) := by decide +kernel
theorem dX6_fall_47 : decode cX6_fall 47 = .ok (.istore_n 3, 1) := by decide +kernel
theorem dX6_fall_48 : decode cX6_fall 48 = .ok (.aload_n 0, 1) := by decide +kernel
theorem dX6_fall_49 : decode cX6_fall 49 = .ok (.iload_n 2, 1) := by decide +kernel
theorem dX6_fall_50 : decode cX6_fall 50 = .ok (.iconst 3, 1) := by decide +kernel
theorem dX6_fall_51 : decode cX6_fall 51 = .ok (.invokevirtual 37, 3) := by decide +kernel
theorem dX6_fall_54 : decode cX6_fall 54 = .ok (.iload_n 1, 1) := by decide +kernel
theorem dX6_fall_55 : decode cX6_fall 55 = .ok (.if_icmp .eq 7, 3) := by decide +kernel
theorem dX6_fall_58 : decode cX6_fall 58 = .ok (.iload_n 3, 1) := by decide +kernel
theorem dX6_fall_59 : decode cX6_fall 59 = .ok (.ifCond .eq 11, 3) := by decide +kernel
theorem dX6_fall_62 : decode cX6_fall 62 = .ok (.aload_n 0, 1) := by decide +kernel
theorem dX6_fall_63 : decode cX6_fall 63 = .ok (.iload_n 2, 1) := by decide +kernel
theorem dX6_fall_64 : decode cX6_fall 64 = .ok (.invokevirtual 44, 3) := by decide +kernel
theorem dX6_fall_67 : decode cX6_fall 67 = .ok (.goto 6, 3) := by decide +kernel
theorem dX6_fall_70 : decode cX6_fall 70 = .ok (.iinc 2 1, 3) := by decide +kernel
theorem dX6_fall_73 : decode cX6_fall 73 = .ok (.goto (-71), 3) := by decide +kernel
theorem dX6_fall_76 : decode cX6_fall 76 = .ok (.return_, 1) := by decide +kernel
set_option maxRecDepth 20000 in
theorem ggX6_harm_X6_powersOn : GoodIn wsX6_harm wsX6_powersOn := goodIn_ca (goodIn_r _ [6, 1, 7, 8, 9, 5, 10, 39, 40, 41, 42, 43, 44, 45, 46, 47, 48, 49, 50] (by decide +kernel) (by decide +kernel)) (goodIn_sub (fun _ h => List.mem_cons_of_mem _ (List.mem_append_right _ h)) (by decide +kernel))
set_option maxRecDepth 20000 in
theorem gX6_harm_X6_powersOn : GoodIn wsX6_harm (wsV RX6 48 RX6 yX6_powersOn wsX6_powersOn) := goodIn_app (goodIn_of _ (by decide +kernel)) ggX6_harm_X6_powersOn
set_option maxRecDepth 20000 in
theorem ggX6_harm_X6_of : GoodIn wsX6_harm wsX6_of := goodIn_ca (goodIn_r _ [14, 1, 39, 40, 41, 42, 43, 44, 45, 46, 47, 48, 49, 50] (by decide +kernel) (by decide +kernel)) (goodIn_sub (fun _ h => List.mem_cons_of_mem _ (List.mem_append_right _ h)) (by decide +kernel))
set_option maxRecDepth 20000 in
theorem gX6_harm_X6_of : GoodIn wsX6_harm (wsV RX6 33 RX6 yX6_of wsX6_of) := goodIn_app (goodIn_of _ (by decide +kernel)) ggX6_harm_X6_of
set_option maxRecDepth 20000 in
theorem ggX6_harm_X6_set : GoodIn wsX6_harm wsX6_set := goodIn_ca (goodIn_r _ [18, 1, 39, 40, 41, 42, 43, 44, 45, 46, 47, 48, 49, 50] (by decide +kernel) (by decide +kernel)) (goodIn_sub (fun _ h => List.mem_cons_of_mem _ (List.mem_append_right _ h)) (by decide +kernel))
set_option maxRecDepth 20000 in
theorem gX6_harm_X6_set : GoodIn wsX6_harm (wsV RX6 51 RX6 yX6_set wsX6_set) := goodIn_app (goodIn_of _ (by decide +kernel)) ggX6_harm_X6_set
set_option maxRecDepth 20000 in
theorem ggX6_harm_X6_stands : GoodIn wsX6_harm wsX6_stands := goodIn_ca (goodIn_r _ [22, 11, 12, 13, 5, 14, 1, 39, 40, 41, 42, 43, 44, 45, 46, 47, 48, 49, 50] (by decide +kernel) (by decide +kernel)) (goodIn_sub (fun _ h => List.mem_cons_of_mem _ (List.mem_append_right _ h)) (by decide +kernel))
set_option maxRecDepth 20000 in
theorem gX6_harm_X6_stands : GoodIn wsX6_harm (wsV RX6 55 RX6 yX6_stands wsX6_stands) := goodIn_app (goodIn_of _ (by decide +kernel)) ggX6_harm_X6_stands
set_option maxRecDepth 20000 in
theorem ggX6_harm_X6_fall : GoodIn wsX6_harm wsX6_fall := goodIn_ca (goodIn_r _ [26, 1, 7, 8, 9, 5, 10, 27, 28, 29, 30, 39, 40, 41, 42, 43, 44, 45, 46, 47, 48, 49, 50] (by decide +kernel) (by decide +kernel)) (goodIn_sub (fun _ h => List.mem_cons_of_mem _ (List.mem_append_right _ h)) (by decide +kernel))
set_option maxRecDepth 20000 in
theorem gX6_harm_X6_fall : GoodIn wsX6_harm (wsV RX6 59 RX6 yX6_fall wsX6_fall) := goodIn_app (goodIn_of _ (by decide +kernel)) ggX6_harm_X6_fall
set_option maxRecDepth 20000 in
theorem ggX6_harm_X6_stopHolding : GoodIn wsX6_harm wsX6_stopHolding := goodIn_ca (goodIn_r _ [34, 35, 36, 37, 5, 38, 1, 7, 8, 9, 10, 27, 28, 29, 30, 39, 40, 41, 42, 43, 44, 45, 46, 47, 48, 49, 50] (by decide +kernel) (by decide +kernel)) (goodIn_sub (fun _ h => List.mem_cons_of_mem _ (List.mem_append_right _ h)) (by decide +kernel))
set_option maxRecDepth 20000 in
theorem gX6_harm_X6_stopHolding : GoodIn wsX6_harm (wsV RX6 62 RX6 yX6_stopHolding wsX6_stopHolding) := goodIn_app (goodIn_of _ (by decide +kernel)) ggX6_harm_X6_stopHolding
theorem dX6_harm_0 : decode cX6_harm 0 = .ok (.iload_n 3, 1) := by decide +kernel
theorem dX6_harm_1 : decode cX6_harm 1 = .ok (.ifCond .eq 7, 3) := by decide +kernel
theorem dX6_harm_4 : decode cX6_harm 4 = .ok (.iload_n 2, 1) := by decide +kernel
theorem dX6_harm_5 : decode cX6_harm 5 = .ok (.goto 11, 3) := by decide +kernel
theorem dX6_harm_8 : decode cX6_harm 8 = .ok (.iload_n 2, 1) := by decide +kernel
theorem dX6_harm_9 : decode cX6_harm 9 = .ok (.aload_n 0, 1) := by decide +kernel
theorem dX6_harm_10 : decode cX6_harm 10 = .ok (.iload_n 1, 1) := by decide +kernel
theorem dX6_harm_11 : decode cX6_harm 11 = .ok (.iconst 3, 1) := by decide +kernel
theorem dX6_harm_12 : decode cX6_harm 12 = .ok (.invokevirtual 48, 3) := by decide +kernel
theorem dX6_harm_15 : decode cX6_harm 15 = .ok (.isub, 1) := by decide +kernel
theorem dX6_harm_16 : decode cX6_harm 16 = .ok (.istore 4, 2) := by decide +kernel
theorem dX6_harm_18 : decode cX6_harm 18 = .ok (.iload 4, 2) := by decide +kernel
theorem dX6_harm_20 : decode cX6_harm 20 = .ok (.ifCond .ge 7, 3) := by decide +kernel
theorem dX6_harm_23 : decode cX6_harm 23 = .ok (.iconst 0, 1) := by decide +kernel
theorem dX6_harm_24 : decode cX6_harm 24 = .ok (.goto 5, 3) := by decide +kernel
theorem dX6_harm_27 : decode cX6_harm 27 = .ok (.iload 4, 2) := by decide +kernel
theorem dX6_harm_29 : decode cX6_harm 29 = .ok (.istore 4, 2) := by decide +kernel
theorem dX6_harm_31 : decode cX6_harm 31 = .ok (.iload 4, 2) := by decide +kernel
theorem dX6_harm_33 : decode cX6_harm 33 = .ok (.aload_n 0, 1) := by decide +kernel
theorem dX6_harm_34 : decode cX6_harm 34 = .ok (.iload_n 1, 1) := by decide +kernel
theorem dX6_harm_35 : decode cX6_harm 35 = .ok (.iconst 2, 1) := by decide +kernel
theorem dX6_harm_36 : decode cX6_harm 36 = .ok (.invokevirtual 33, 3) := by decide +kernel
theorem dX6_harm_39 : decode cX6_harm 39 = .ok (.if_icmp .ge 8, 3) := by decide +kernel
theorem dX6_harm_42 : decode cX6_harm 42 = .ok (.iload 4, 2) := by decide +kernel
theorem dX6_harm_44 : decode cX6_harm 44 = .ok (.goto 9, 3) := by decide +kernel
theorem dX6_harm_47 : decode cX6_harm 47 = .ok (.aload_n 0, 1) := by decide +kernel
theorem dX6_harm_48 : decode cX6_harm 48 = .ok (.iload_n 1, 1) := by decide +kernel
theorem dX6_harm_49 : decode cX6_harm 49 = .ok (.iconst 2, 1) := by decide +kernel
theorem dX6_harm_50 : decode cX6_harm 50 = .ok (.invokevirtual 33, 3) := by decide +kernel
theorem dX6_harm_53 : decode cX6_harm 53 = .ok (.istore 5, 2) := by decide +kernel
theorem dX6_harm_55 : decode cX6_harm 55 = .ok (.aload_n 0, 1) := by decide +kernel
theorem dX6_harm_56 : decode cX6_harm 56 = .ok (.iload_n 1, 1) := by decide +kernel
theorem dX6_harm_57 : decode cX6_harm 57 = .ok (.iconst 2, 1) := by decide +kernel
theorem dX6_harm_58 : decode cX6_harm 58 = .ok (.aload_n 0, 1) := by decide +kernel
theorem dX6_harm_59 : decode cX6_harm 59 = .ok (.iload_n 1, 1) := by decide +kernel
theorem dX6_harm_60 : decode cX6_harm 60 = .ok (.iconst 2, 1) := by decide +kernel
theorem dX6_harm_61 : decode cX6_harm 61 = .ok (.invokevirtual 33, 3) := by decide +kernel
theorem dX6_harm_64 : decode cX6_harm 64 = .ok (.iload 5, 2) := by decide +kernel
theorem dX6_harm_66 : decode cX6_harm 66 = .ok (.isub, 1) := by decide +kernel
theorem dX6_harm_67 : decode cX6_harm 67 = .ok (.invokevirtual 51, 3) := by decide +kernel
theorem dX6_harm_70 : decode cX6_harm 70 = .ok (.aload_n 0, 1) := by decide +kernel
theorem dX6_harm_71 : decode cX6_harm 71 = .ok (.iload_n 1, 1) := by decide +kernel
theorem dX6_harm_72 : decode cX6_harm 72 = .ok (.invokevirtual 55, 3) := by decide +kernel
theorem dX6_harm_75 : decode cX6_harm 75 = .ok (.ifCond .ne 11, 3) := by decide +kernel
theorem dX6_harm_78 : decode cX6_harm 78 = .ok (.aload_n 0, 1) := by decide +kernel
theorem dX6_harm_79 : decode cX6_harm 79 = .ok (.iload_n 1, 1) := by decide +kernel
theorem dX6_harm_80 : decode cX6_harm 80 = .ok (.invokevirtual 59, 3) := by decide +kernel
theorem dX6_harm_83 : decode cX6_harm 83 = .ok (.goto 19, 3) := by decide +kernel
theorem dX6_harm_86 : decode cX6_harm 86 = .ok (.iload 5, 2) := by decide +kernel
theorem dX6_harm_88 : decode cX6_harm 88 = .ok (.aload_n 0, 1) := by decide +kernel
theorem dX6_harm_89 : decode cX6_harm 89 = .ok (.getfield 7, 3) := by decide +kernel
theorem dX6_harm_92 : decode cX6_harm 92 = .ok (.iconst 2, 1) := by decide +kernel
theorem dX6_harm_93 : decode cX6_harm 93 = .ok (.iaload, 1) := by decide +kernel
theorem dX6_harm_94 : decode cX6_harm 94 = .ok (.if_icmp .lt 8, 3) := by decide +kernel
theorem dX6_harm_97 : decode cX6_harm 97 = .ok (.aload_n 0, 1) := by decide +kernel
theorem dX6_harm_98 : decode cX6_harm 98 = .ok (.iload_n 1, 1) := by decide +kernel
theorem dX6_harm_99 : decode cX6_harm 99 = .ok (.invokevirtual 62, 3) := by decide +kernel
theorem dX6_harm_102 : decode cX6_harm 102 = .ok (.return_, 1) := by decide +kernel
set_option maxRecDepth 20000 in
theorem ggX6_newRound_X6_set : GoodIn wsX6_newRound wsX6_set := goodIn_ca (goodIn_r _ [6, 1, 27, 28, 29, 30, 31, 32, 33, 34, 35, 36, 37, 38] (by decide +kernel) (by decide +kernel)) (goodIn_sub (fun _ h => List.mem_cons_of_mem _ (List.mem_append_right _ h)) (by decide +kernel))
set_option maxRecDepth 20000 in
theorem gX6_newRound_X6_set : GoodIn wsX6_newRound (wsV RX6 51 RX6 yX6_set wsX6_set) := goodIn_app (goodIn_of _ (by decide +kernel)) ggX6_newRound_X6_set
set_option maxRecDepth 20000 in
theorem ggX6_newRound_X6_stands : GoodIn wsX6_newRound wsX6_stands := goodIn_ca (goodIn_r _ [10, 11, 12, 13, 5, 14, 1, 27, 28, 29, 30, 31, 32, 33, 34, 35, 36, 37, 38] (by decide +kernel) (by decide +kernel)) (goodIn_sub (fun _ h => List.mem_cons_of_mem _ (List.mem_append_right _ h)) (by decide +kernel))
set_option maxRecDepth 20000 in
theorem gX6_newRound_X6_stands : GoodIn wsX6_newRound (wsV RX6 55 RX6 yX6_stands wsX6_stands) := goodIn_app (goodIn_of _ (by decide +kernel)) ggX6_newRound_X6_stands
set_option maxRecDepth 20000 in
theorem ggX6_newRound_X6_speedOf : GoodIn wsX6_newRound wsX6_speedOf := goodIn_ca (goodIn_r _ [18, 11, 12, 13, 5, 14, 1, 19, 20, 21, 22, 23, 24, 25, 26, 27, 28, 29, 30, 31, 32, 33, 34, 35, 36, 37, 38] (by decide +kernel) (by decide +kernel)) (goodIn_sub (fun _ h => List.mem_cons_of_mem _ (List.mem_append_right _ h)) (by decide +kernel))
set_option maxRecDepth 20000 in
theorem gX6_newRound_X6_speedOf : GoodIn wsX6_newRound (wsV RX6 65 RX6 yX6_speedOf wsX6_speedOf) := goodIn_app (goodIn_of _ (by decide +kernel)) ggX6_newRound_X6_speedOf
theorem dX6_newRound_0 : decode cX6_newRound 0 = .ok (.aload_n 0, 1) := by decide +kernel
theorem dX6_newRound_1 : decode cX6_newRound 1 = .ok (.getfield 7, 3) := by decide +kernel
theorem dX6_newRound_4 : decode cX6_newRound 4 = .ok (.iconst 3, 1) := by decide +kernel
theorem dX6_newRound_5 : decode cX6_newRound 5 = .ok (.dup2, 1) := by decide +kernel
theorem dX6_newRound_6 : decode cX6_newRound 6 = .ok (.iaload, 1) := by decide +kernel
theorem dX6_newRound_7 : decode cX6_newRound 7 = .ok (.iconst 1, 1) := by decide +kernel
theorem dX6_newRound_8 : decode cX6_newRound 8 = .ok (.iadd, 1) := by decide +kernel
theorem dX6_newRound_9 : decode cX6_newRound 9 = .ok (.iastore, 1) := by decide +kernel
theorem dX6_newRound_10 : decode cX6_newRound 10 = .ok (.aload_n 0, 1) := by decide +kernel
theorem dX6_newRound_11 : decode cX6_newRound 11 = .ok (.getfield 7, 3) := by decide +kernel
theorem dX6_newRound_14 : decode cX6_newRound 14 = .ok (.bipush 6, 2) := by decide +kernel
theorem dX6_newRound_16 : decode cX6_newRound 16 = .ok (.iconst 0, 1) := by decide +kernel
theorem dX6_newRound_17 : decode cX6_newRound 17 = .ok (.iastore, 1) := by decide +kernel
theorem dX6_newRound_18 : decode cX6_newRound 18 = .ok (.iconst 0, 1) := by decide +kernel
theorem dX6_newRound_19 : decode cX6_newRound 19 = .ok (.istore_n 1, 1) := by decide +kernel
theorem dX6_newRound_20 : decode cX6_newRound 20 = .ok (.iload_n 1, 1) := by decide +kernel
theorem dX6_newRound_21 : decode cX6_newRound 21 = .ok (.aload_n 0, 1) := by decide +kernel
theorem dX6_newRound_22 : decode cX6_newRound 22 = .ok (.getfield 7, 3) := by decide +kernel
theorem dX6_newRound_25 : decode cX6_newRound 25 = .ok (.iconst 0, 1) := by decide +kernel
theorem dX6_newRound_26 : decode cX6_newRound 26 = .ok (.iaload, 1) := by decide +kernel
theorem dX6_newRound_27 : decode cX6_newRound 27 = .ok (.if_icmp .ge 120, 3) := by decide +kernel
theorem dX6_newRound_30 : decode cX6_newRound 30 = .ok (.aload_n 0, 1) := by decide +kernel
theorem dX6_newRound_31 : decode cX6_newRound 31 = .ok (.iload_n 1, 1) := by decide +kernel
theorem dX6_newRound_32 : decode cX6_newRound 32 = .ok (.iconst 4, 1) := by decide +kernel
theorem dX6_newRound_33 : decode cX6_newRound 33 = .ok (.iconst (-1), 1) := by decide +kernel
theorem dX6_newRound_34 : decode cX6_newRound 34 = .ok (.invokevirtual 51, 3) := by decide +kernel
theorem dX6_newRound_37 : decode cX6_newRound 37 = .ok (.aload_n 0, 1) := by decide +kernel
theorem dX6_newRound_38 : decode cX6_newRound 38 = .ok (.iload_n 1, 1) := by decide +kernel
theorem dX6_newRound_39 : decode cX6_newRound 39 = .ok (.iconst 5, 1) := by decide +kernel
theorem dX6_newRound_40 : decode cX6_newRound 40 = .ok (.iconst 0, 1) := by decide +kernel
theorem dX6_newRound_41 : decode cX6_newRound 41 = .ok (.invokevirtual 51, 3) := by decide +kernel
theorem dX6_newRound_44 : decode cX6_newRound 44 = .ok (.aload_n 0, 1) := by decide +kernel
theorem dX6_newRound_45 : decode cX6_newRound 45 = .ok (.iload_n 1, 1) := by decide +kernel
theorem dX6_newRound_46 : decode cX6_newRound 46 = .ok (.invokevirtual 55, 3) := by decide +kernel
theorem dX6_newRound_49 : decode cX6_newRound 49 = .ok (.ifCond .eq 92, 3) := by decide +kernel
theorem dX6_newRound_52 : decode cX6_newRound 52 = .ok (.aload_n 0, 1) := by decide +kernel
theorem dX6_newRound_53 : decode cX6_newRound 53 = .ok (.getfield 7, 3) := by decide +kernel
theorem dX6_newRound_56 : decode cX6_newRound 56 = .ok (.bipush 6, 2) := by decide +kernel
theorem dX6_newRound_58 : decode cX6_newRound 58 = .ok (.iaload, 1) := by decide +kernel
theorem dX6_newRound_59 : decode cX6_newRound 59 = .ok (.istore_n 2, 1) := by decide +kernel
theorem dX6_newRound_60 : decode cX6_newRound 60 = .ok (.iload_n 2, 1) := by decide +kernel
theorem dX6_newRound_61 : decode cX6_newRound 61 = .ok (.ifCond .le 52, 3) := by decide +kernel
theorem dX6_newRound_64 : decode cX6_newRound 64 = .ok (.aload_n 0, 1) := by decide +kernel
theorem dX6_newRound_65 : decode cX6_newRound 65 = .ok (.aload_n 0, 1) := by decide +kernel
theorem dX6_newRound_66 : decode cX6_newRound 66 = .ok (.getfield 7, 3) := by decide +kernel
theorem dX6_newRound_69 : decode cX6_newRound 69 = .ok (.bipush 72, 2) := by decide +kernel
theorem dX6_newRound_71 : decode cX6_newRound 71 = .ok (.iload_n 2, 1) := by decide +kernel
theorem dX6_newRound_72 : decode cX6_newRound 72 = .ok (.iadd, 1) := by decide +kernel
theorem dX6_newRound_73 : decode cX6_newRound 73 = .ok (.iconst 1, 1) := by decide +kernel
theorem dX6_newRound_74 : decode cX6_newRound 74 = .ok (.isub, 1) := by decide +kernel
theorem dX6_newRound_75 : decode cX6_newRound 75 = .ok (.iaload, 1) := by decide +kernel
theorem dX6_newRound_76 : decode cX6_newRound 76 = .ok (.invokevirtual 65, 3) := by decide +kernel
theorem dX6_newRound_79 : decode cX6_newRound 79 = .ok (.aload_n 0, 1) := by decide +kernel
theorem dX6_newRound_80 : decode cX6_newRound 80 = .ok (.iload_n 1, 1) := by decide +kernel
theorem dX6_newRound_81 : decode cX6_newRound 81 = .ok (.invokevirtual 65, 3) := by decide +kernel
theorem dX6_newRound_84 : decode cX6_newRound 84 = .ok (.if_icmp .ge 29, 3) := by decide +kernel
theorem dX6_newRound_87 : decode cX6_newRound 87 = .ok (.aload_n 0, 1) := by decide +kernel
theorem dX6_newRound_88 : decode cX6_newRound 88 = .ok (.getfield 7, 3) := by decide +kernel
theorem dX6_newRound_91 : decode cX6_newRound 91 = .ok (.bipush 72, 2) := by decide +kernel
theorem dX6_newRound_93 : decode cX6_newRound 93 = .ok (.iload_n 2, 1) := by decide +kernel
theorem dX6_newRound_94 : decode cX6_newRound 94 = .ok (.iadd, 1) := by decide +kernel
theorem dX6_newRound_95 : decode cX6_newRound 95 = .ok (.aload_n 0, 1) := by decide +kernel
theorem dX6_newRound_96 : decode cX6_newRound 96 = .ok (.getfield 7, 3) := by decide +kernel
theorem dX6_newRound_99 : decode cX6_newRound 99 = .ok (.bipush 72, 2) := by decide +kernel
theorem dX6_newRound_101 : decode cX6_newRound 101 = .ok (.iload_n 2, 1) := by decide +kernel
theorem dX6_newRound_102 : decode cX6_newRound 102 = .ok (.iadd, 1) := by decide +kernel
theorem dX6_newRound_103 : decode cX6_newRound 103 = .ok (.iconst 1, 1) := by decide +kernel
theorem dX6_newRound_104 : decode cX6_newRound 104 = .ok (.isub, 1) := by decide +kernel
theorem dX6_newRound_105 : decode cX6_newRound 105 = .ok (.iaload, 1) := by decide +kernel
theorem dX6_newRound_106 : decode cX6_newRound 106 = .ok (.iastore, 1) := by decide +kernel
theorem dX6_newRound_107 : decode cX6_newRound 107 = .ok (.iinc 2 (-1), 3) := by decide +kernel
theorem dX6_newRound_110 : decode cX6_newRound 110 = .ok (.goto (-50), 3) := by decide +kernel
theorem dX6_newRound_113 : decode cX6_newRound 113 = .ok (.aload_n 0, 1) := by decide +kernel
theorem dX6_newRound_114 : decode cX6_newRound 114 = .ok (.getfield 7, 3) := by decide +kernel
theorem dX6_newRound_117 : decode cX6_newRound 117 = .ok (.bipush 72, 2) := by decide +kernel
theorem dX6_newRound_119 : decode cX6_newRound 119 = .ok (.iload_n 2, 1) := by decide +kernel
theorem dX6_newRound_120 : decode cX6_newRound 120 = .ok (.iadd, 1) := by decide +kernel
theorem dX6_newRound_121 : decode cX6_newRound 121 = .ok (.iload_n 1, 1) := by decide +kernel
theorem dX6_newRound_122 : decode cX6_newRound 122 = .ok (.iastore, 1) := by decide +kernel
theorem dX6_newRound_123 : decode cX6_newRound 123 = .ok (.aload_n 0, 1) := by decide +kernel
theorem dX6_newRound_124 : decode cX6_newRound 124 = .ok (.getfield 7, 3) := by decide +kernel
theorem dX6_newRound_127 : decode cX6_newRound 127 = .ok (.bipush 6, 2) := by decide +kernel
theorem dX6_newRound_129 : decode cX6_newRound 129 = .ok (.dup2, 1) := by decide +kernel
theorem dX6_newRound_130 : decode cX6_newRound 130 = .ok (.iaload, 1) := by decide +kernel
theorem dX6_newRound_131 : decode cX6_newRound 131 = .ok (.iconst 1, 1) := by decide +kernel
theorem dX6_newRound_132 : decode cX6_newRound 132 = .ok (.iadd, 1) := by decide +kernel
theorem dX6_newRound_133 : decode cX6_newRound 133 = .ok (.iastore, 1) := by decide +kernel
theorem dX6_newRound_134 : decode cX6_newRound 134 = .ok (.aload_n 0, 1) := by decide +kernel
theorem dX6_newRound_135 : decode cX6_newRound 135 = .ok (.iload_n 1, 1) := by decide +kernel
theorem dX6_newRound_136 : decode cX6_newRound 136 = .ok (.iconst 4, 1) := by decide +kernel
theorem dX6_newRound_137 : decode cX6_newRound 137 = .ok (.iconst 0, 1) := by decide +kernel
theorem dX6_newRound_138 : decode cX6_newRound 138 = .ok (.invokevirtual 51, 3) := by decide +kernel
theorem dX6_newRound_141 : decode cX6_newRound 141 = .ok (.iinc 1 1, 3) := by decide +kernel
theorem dX6_newRound_144 : decode cX6_newRound 144 = .ok (.goto (-124), 3) := by decide +kernel
theorem dX6_newRound_147 : decode cX6_newRound 147 = .ok (.return_, 1) := by decide +kernel
set_option maxRecDepth 20000 in
theorem ggX6_firstWaiting_X6_of : GoodIn wsX6_firstWaiting wsX6_of := goodIn_ca (goodIn_r _ [6, 1, 11, 12, 13, 14, 15, 16, 17, 18, 19, 20, 21, 22] (by decide +kernel) (by decide +kernel)) (goodIn_sub (fun _ h => List.mem_cons_of_mem _ (List.mem_append_right _ h)) (by decide +kernel))
set_option maxRecDepth 20000 in
theorem gX6_firstWaiting_X6_of : GoodIn wsX6_firstWaiting (wsV RX6 33 RX6 yX6_of wsX6_of) := goodIn_app (goodIn_of _ (by decide +kernel)) ggX6_firstWaiting_X6_of
set_option maxRecDepth 20000 in
theorem ggX6_firstWaiting_X6_stands : GoodIn wsX6_firstWaiting wsX6_stands := goodIn_ca (goodIn_r _ [10, 2, 3, 4, 5, 6, 1, 11, 12, 13, 14, 15, 16, 17, 18, 19, 20, 21, 22] (by decide +kernel) (by decide +kernel)) (goodIn_sub (fun _ h => List.mem_cons_of_mem _ (List.mem_append_right _ h)) (by decide +kernel))
set_option maxRecDepth 20000 in
theorem gX6_firstWaiting_X6_stands : GoodIn wsX6_firstWaiting (wsV RX6 55 RX6 yX6_stands wsX6_stands) := goodIn_app (goodIn_of _ (by decide +kernel)) ggX6_firstWaiting_X6_stands
theorem dX6_firstWaiting_0 : decode cX6_firstWaiting 0 = .ok (.iconst 0, 1) := by decide +kernel
theorem dX6_firstWaiting_1 : decode cX6_firstWaiting 1 = .ok (.istore_n 1, 1) := by decide +kernel
theorem dX6_firstWaiting_2 : decode cX6_firstWaiting 2 = .ok (.iload_n 1, 1) := by decide +kernel
theorem dX6_firstWaiting_3 : decode cX6_firstWaiting 3 = .ok (.aload_n 0, 1) := by decide +kernel
theorem dX6_firstWaiting_4 : decode cX6_firstWaiting 4 = .ok (.getfield 7, 3) := by decide +kernel
theorem dX6_firstWaiting_7 : decode cX6_firstWaiting 7 = .ok (.bipush 6, 2) := by decide +kernel
theorem dX6_firstWaiting_9 : decode cX6_firstWaiting 9 = .ok (.iaload, 1) := by decide +kernel
theorem dX6_firstWaiting_10 : decode cX6_firstWaiting 10 = .ok (.if_icmp .ge 38, 3) := by decide +kernel
theorem dX6_firstWaiting_13 : decode cX6_firstWaiting 13 = .ok (.aload_n 0, 1) := by decide +kernel
theorem dX6_firstWaiting_14 : decode cX6_firstWaiting 14 = .ok (.getfield 7, 3) := by decide +kernel
theorem dX6_firstWaiting_17 : decode cX6_firstWaiting 17 = .ok (.bipush 72, 2) := by decide +kernel
theorem dX6_firstWaiting_19 : decode cX6_firstWaiting 19 = .ok (.iload_n 1, 1) := by decide +kernel
theorem dX6_firstWaiting_20 : decode cX6_firstWaiting 20 = .ok (.iadd, 1) := by decide +kernel
theorem dX6_firstWaiting_21 : decode cX6_firstWaiting 21 = .ok (.iaload, 1) := by decide +kernel
theorem dX6_firstWaiting_22 : decode cX6_firstWaiting 22 = .ok (.istore_n 2, 1) := by decide +kernel
theorem dX6_firstWaiting_23 : decode cX6_firstWaiting 23 = .ok (.aload_n 0, 1) := by decide +kernel
theorem dX6_firstWaiting_24 : decode cX6_firstWaiting 24 = .ok (.iload_n 2, 1) := by decide +kernel
theorem dX6_firstWaiting_25 : decode cX6_firstWaiting 25 = .ok (.iconst 4, 1) := by decide +kernel
theorem dX6_firstWaiting_26 : decode cX6_firstWaiting 26 = .ok (.invokevirtual 33, 3) := by decide +kernel
theorem dX6_firstWaiting_29 : decode cX6_firstWaiting 29 = .ok (.ifCond .ne 13, 3) := by decide +kernel
theorem dX6_firstWaiting_32 : decode cX6_firstWaiting 32 = .ok (.aload_n 0, 1) := by decide +kernel
theorem dX6_firstWaiting_33 : decode cX6_firstWaiting 33 = .ok (.iload_n 2, 1) := by decide +kernel
theorem dX6_firstWaiting_34 : decode cX6_firstWaiting 34 = .ok (.invokevirtual 55, 3) := by decide +kernel
theorem dX6_firstWaiting_37 : decode cX6_firstWaiting 37 = .ok (.ifCond .eq 5, 3) := by decide +kernel
theorem dX6_firstWaiting_40 : decode cX6_firstWaiting 40 = .ok (.iload_n 2, 1) := by decide +kernel
theorem dX6_firstWaiting_41 : decode cX6_firstWaiting 41 = .ok (.ireturn, 1) := by decide +kernel
theorem dX6_firstWaiting_42 : decode cX6_firstWaiting 42 = .ok (.iinc 1 1, 3) := by decide +kernel
theorem dX6_firstWaiting_45 : decode cX6_firstWaiting 45 = .ok (.goto (-43), 3) := by decide +kernel
theorem dX6_firstWaiting_48 : decode cX6_firstWaiting 48 = .ok (.iconst (-1), 1) := by decide +kernel
theorem dX6_firstWaiting_49 : decode cX6_firstWaiting 49 = .ok (.ireturn, 1) := by decide +kernel
set_option maxRecDepth 20000 in
theorem ggX6_sufferPoison_X6_stands : GoodIn wsX6_sufferPoison wsX6_stands := goodIn_ca (goodIn_r _ [6, 7, 8, 9, 5, 10, 1, 43, 44, 45, 46, 47, 48, 49, 50, 51, 52, 53, 54] (by decide +kernel) (by decide +kernel)) (goodIn_sub (fun _ h => List.mem_cons_of_mem _ (List.mem_append_right _ h)) (by decide +kernel))
set_option maxRecDepth 20000 in
theorem gX6_sufferPoison_X6_stands : GoodIn wsX6_sufferPoison (wsV RX6 55 RX6 yX6_stands wsX6_stands) := goodIn_app (goodIn_of _ (by decide +kernel)) ggX6_sufferPoison_X6_stands
set_option maxRecDepth 20000 in
theorem ggX6_sufferPoison_X6_ofEffect : GoodIn wsX6_sufferPoison wsX6_ofEffect := goodIn_ca (goodIn_r _ [14, 1, 43, 44, 45, 46, 47, 48, 49, 50, 51, 52, 53, 54] (by decide +kernel) (by decide +kernel)) (goodIn_sub (fun _ h => List.mem_cons_of_mem _ (List.mem_append_right _ h)) (by decide +kernel))
set_option maxRecDepth 20000 in
theorem gX6_sufferPoison_X6_ofEffect : GoodIn wsX6_sufferPoison (wsV RX6 37 RX6 yX6_ofEffect wsX6_ofEffect) := goodIn_app (goodIn_of _ (by decide +kernel)) ggX6_sufferPoison_X6_ofEffect
set_option maxRecDepth 20000 in
theorem ggX6_sufferPoison_X6_harm : GoodIn wsX6_sufferPoison wsX6_harm := goodIn_ca (goodIn_r _ [18, 1, 19, 20, 21, 5, 22, 11, 12, 13, 14, 7, 8, 9, 10, 23, 24, 25, 26, 2, 3, 4, 6, 27, 28, 29, 30, 31, 32, 33, 34, 35, 36, 37, 38, 39, 40, 41, 42, 43, 44, 45, 46, 47, 48, 49, 50, 51, 52, 53, 54] (by decide +kernel) (by decide +kernel)) (goodIn_sub (fun _ h => List.mem_cons_of_mem _ (List.mem_append_right _ h)) (by decide +kernel))
set_option maxRecDepth 20000 in
theorem gX6_sufferPoison_X6_harm : GoodIn wsX6_sufferPoison (wsV RX6 68 RX6 yX6_harm wsX6_harm) := goodIn_app (goodIn_of _ (by decide +kernel)) ggX6_sufferPoison_X6_harm
theorem dX6_sufferPoison_0 : decode cX6_sufferPoison 0 = .ok (.iconst (-1), 1) := by decide +kernel
theorem dX6_sufferPoison_1 : decode cX6_sufferPoison 1 = .ok (.istore_n 2, 1) := by decide +kernel
theorem dX6_sufferPoison_2 : decode cX6_sufferPoison 2 = .ok (.iconst 0, 1) := by decide +kernel
theorem dX6_sufferPoison_3 : decode cX6_sufferPoison 3 = .ok (.istore_n 3, 1) := by decide +kernel
theorem dX6_sufferPoison_4 : decode cX6_sufferPoison 4 = .ok (.iload_n 3, 1) := by decide +kernel
theorem dX6_sufferPoison_5 : decode cX6_sufferPoison 5 = .ok (.aload_n 0, 1) := by decide +kernel
theorem dX6_sufferPoison_6 : decode cX6_sufferPoison 6 = .ok (.getfield 7, 3) := by decide +kernel
theorem dX6_sufferPoison_9 : decode cX6_sufferPoison 9 = .ok (.iconst 1, 1) := by decide +kernel
theorem dX6_sufferPoison_10 : decode cX6_sufferPoison 10 = .ok (.iaload, 1) := by decide +kernel
theorem dX6_sufferPoison_11 : decode cX6_sufferPoison 11 = .ok (.if_icmp .ge 99, 3) := by decide +kernel
theorem dX6_sufferPoison_14 : decode cX6_sufferPoison 14 = .ok (.aload_n 0, 1) := by decide +kernel
theorem dX6_sufferPoison_15 : decode cX6_sufferPoison 15 = .ok (.iload_n 1, 1) := by decide +kernel
theorem dX6_sufferPoison_16 : decode cX6_sufferPoison 16 = .ok (.invokevirtual 55, 3) := by decide +kernel
theorem dX6_sufferPoison_19 : decode cX6_sufferPoison 19 = .ok (.ifCond .eq 91, 3) := by decide +kernel
theorem dX6_sufferPoison_22 : decode cX6_sufferPoison 22 = .ok (.aload_n 0, 1) := by decide +kernel
theorem dX6_sufferPoison_23 : decode cX6_sufferPoison 23 = .ok (.iload_n 3, 1) := by decide +kernel
theorem dX6_sufferPoison_24 : decode cX6_sufferPoison 24 = .ok (.bipush 7, 2) := by decide +kernel
theorem dX6_sufferPoison_26 : decode cX6_sufferPoison 26 = .ok (.invokevirtual 37, 3) := by decide +kernel
theorem dX6_sufferPoison_29 : decode cX6_sufferPoison 29 = .ok (.iload_n 2, 1) := by decide +kernel
theorem dX6_sufferPoison_30 : decode cX6_sufferPoison 30 = .ok (.if_icmp .le 26, 3) := by decide +kernel
theorem dX6_sufferPoison_33 : decode cX6_sufferPoison 33 = .ok (.aload_n 0, 1) := by decide +kernel
theorem dX6_sufferPoison_34 : decode cX6_sufferPoison 34 = .ok (.iload_n 3, 1) := by decide +kernel
theorem dX6_sufferPoison_35 : decode cX6_sufferPoison 35 = .ok (.iconst 0, 1) := by decide +kernel
theorem dX6_sufferPoison_36 : decode cX6_sufferPoison 36 = .ok (.invokevirtual 37, 3) := by decide +kernel
theorem dX6_sufferPoison_39 : decode cX6_sufferPoison 39 = .ok (.ifCond .ne 17, 3) := by decide +kernel
theorem dX6_sufferPoison_42 : decode cX6_sufferPoison 42 = .ok (.aload_n 0, 1) := by decide +kernel
theorem dX6_sufferPoison_43 : decode cX6_sufferPoison 43 = .ok (.iload_n 3, 1) := by decide +kernel
theorem dX6_sufferPoison_44 : decode cX6_sufferPoison 44 = .ok (.iconst 3, 1) := by decide +kernel
theorem dX6_sufferPoison_45 : decode cX6_sufferPoison 45 = .ok (.invokevirtual 37, 3) := by decide +kernel
theorem dX6_sufferPoison_48 : decode cX6_sufferPoison 48 = .ok (.iload_n 1, 1) := by decide +kernel
theorem dX6_sufferPoison_49 : decode cX6_sufferPoison 49 = .ok (.if_icmp .ne 7, 3) := by decide +kernel
theorem dX6_sufferPoison_52 : decode cX6_sufferPoison 52 = .ok (.iconst 1, 1) := by decide +kernel
theorem dX6_sufferPoison_53 : decode cX6_sufferPoison 53 = .ok (.goto 4, 3) := by decide +kernel
theorem dX6_sufferPoison_56 : decode cX6_sufferPoison 56 = .ok (.iconst 0, 1) := by decide +kernel
theorem dX6_sufferPoison_57 : decode cX6_sufferPoison 57 = .ok (.istore 4, 2) := by decide +kernel
theorem dX6_sufferPoison_59 : decode cX6_sufferPoison 59 = .ok (.aload_n 0, 1) := by decide +kernel
theorem dX6_sufferPoison_60 : decode cX6_sufferPoison 60 = .ok (.iload_n 3, 1) := by decide +kernel
theorem dX6_sufferPoison_61 : decode cX6_sufferPoison 61 = .ok (.bipush 7, 2) := by decide +kernel
theorem dX6_sufferPoison_63 : decode cX6_sufferPoison 63 = .ok (.invokevirtual 37, 3) := by decide +kernel
theorem dX6_sufferPoison_66 : decode cX6_sufferPoison 66 = .ok (.iload_n 2, 1) := by decide +kernel
theorem dX6_sufferPoison_67 : decode cX6_sufferPoison 67 = .ok (.if_icmp .le 13, 3) := by decide +kernel
theorem dX6_sufferPoison_70 : decode cX6_sufferPoison 70 = .ok (.aload_n 0, 1) := by decide +kernel
theorem dX6_sufferPoison_71 : decode cX6_sufferPoison 71 = .ok (.iload_n 3, 1) := by decide +kernel
theorem dX6_sufferPoison_72 : decode cX6_sufferPoison 72 = .ok (.bipush 7, 2) := by decide +kernel
theorem dX6_sufferPoison_74 : decode cX6_sufferPoison 74 = .ok (.invokevirtual 37, 3) := by decide +kernel
theorem dX6_sufferPoison_77 : decode cX6_sufferPoison 77 = .ok (.goto 4, 3) := by decide +kernel
theorem dX6_sufferPoison_80 : decode cX6_sufferPoison 80 = .ok (.iload_n 2, 1) := by decide +kernel
theorem dX6_sufferPoison_81 : decode cX6_sufferPoison 81 = .ok (.istore_n 2, 1) := by decide +kernel
theorem dX6_sufferPoison_82 : decode cX6_sufferPoison 82 = .ok (.iload 4, 2) := by decide +kernel
theorem dX6_sufferPoison_84 : decode cX6_sufferPoison 84 = .ok (.ifCond .eq 20, 3) := by decide +kernel
theorem dX6_sufferPoison_87 : decode cX6_sufferPoison 87 = .ok (.aload_n 0, 1) := by decide +kernel
theorem dX6_sufferPoison_88 : decode cX6_sufferPoison 88 = .ok (.iload_n 1, 1) := by decide +kernel
theorem dX6_sufferPoison_89 : decode cX6_sufferPoison 89 = .ok (.aload_n 0, 1) := by decide +kernel
theorem dX6_sufferPoison_90 : decode cX6_sufferPoison 90 = .ok (.iload_n 3, 1) := by decide +kernel
theorem dX6_sufferPoison_91 : decode cX6_sufferPoison 91 = .ok (.iconst 1, 1) := by decide +kernel
theorem dX6_sufferPoison_92 : decode cX6_sufferPoison 92 = .ok (.invokevirtual 37, 3) := by decide +kernel
theorem dX6_sufferPoison_95 : decode cX6_sufferPoison 95 = .ok (.iconst 1, 1) := by decide +kernel
theorem dX6_sufferPoison_96 : decode cX6_sufferPoison 96 = .ok (.invokevirtual 68, 3) := by decide +kernel
theorem dX6_sufferPoison_99 : decode cX6_sufferPoison 99 = .ok (.iconst 0, 1) := by decide +kernel
theorem dX6_sufferPoison_100 : decode cX6_sufferPoison 100 = .ok (.istore_n 3, 1) := by decide +kernel
theorem dX6_sufferPoison_101 : decode cX6_sufferPoison 101 = .ok (.goto 6, 3) := by decide +kernel
theorem dX6_sufferPoison_104 : decode cX6_sufferPoison 104 = .ok (.iinc 3 1, 3) := by decide +kernel
theorem dX6_sufferPoison_107 : decode cX6_sufferPoison 107 = .ok (.goto (-103), 3) := by decide +kernel
theorem dX6_sufferPoison_110 : decode cX6_sufferPoison 110 = .ok (.return_, 1) := by decide +kernel
set_option maxRecDepth 20000 in
theorem ggX6_begins_X6_firstWaiting : GoodIn wsX6_begins wsX6_firstWaiting := goodIn_ca (goodIn_r _ [6, 1, 7, 8, 9, 5, 10, 11, 12, 13, 14, 63, 64, 65, 66, 67, 68, 69, 70, 71, 72, 73, 74] (by decide +kernel) (by decide +kernel)) (goodIn_sub (fun _ h => List.mem_cons_of_mem _ (List.mem_append_right _ h)) (by decide +kernel))
set_option maxRecDepth 20000 in
theorem gX6_begins_X6_firstWaiting : GoodIn wsX6_begins (wsV RX6 72 RX6 yX6_firstWaiting wsX6_firstWaiting) := goodIn_app (goodIn_of _ (by decide +kernel)) ggX6_begins_X6_firstWaiting
set_option maxRecDepth 20000 in
theorem ggX6_begins_X6_newRound : GoodIn wsX6_begins wsX6_newRound := goodIn_ca (goodIn_r _ [18, 1, 19, 20, 21, 5, 22, 11, 12, 13, 14, 7, 8, 9, 10, 23, 24, 25, 26, 27, 28, 29, 30, 31, 32, 33, 34, 63, 64, 65, 66, 67, 68, 69, 70, 71, 72, 73, 74] (by decide +kernel) (by decide +kernel)) (goodIn_sub (fun _ h => List.mem_cons_of_mem _ (List.mem_append_right _ h)) (by decide +kernel))
set_option maxRecDepth 20000 in
theorem gX6_begins_X6_newRound : GoodIn wsX6_begins (wsV RX6 76 RX6 yX6_newRound wsX6_newRound) := goodIn_app (goodIn_of _ (by decide +kernel)) ggX6_begins_X6_newRound
set_option maxRecDepth 20000 in
theorem ggX6_begins_X6_set : GoodIn wsX6_begins wsX6_set := goodIn_ca (goodIn_r _ [22, 1, 63, 64, 65, 66, 67, 68, 69, 70, 71, 72, 73, 74] (by decide +kernel) (by decide +kernel)) (goodIn_sub (fun _ h => List.mem_cons_of_mem _ (List.mem_append_right _ h)) (by decide +kernel))
set_option maxRecDepth 20000 in
theorem gX6_begins_X6_set : GoodIn wsX6_begins (wsV RX6 51 RX6 yX6_set wsX6_set) := goodIn_app (goodIn_of _ (by decide +kernel)) ggX6_begins_X6_set
set_option maxRecDepth 20000 in
theorem ggX6_begins_X6_sufferPoison : GoodIn wsX6_begins wsX6_sufferPoison := goodIn_ca (goodIn_r _ [38, 1, 11, 12, 13, 5, 14, 7, 8, 9, 10, 31, 32, 33, 34, 39, 40, 41, 42, 27, 28, 29, 30, 19, 20, 21, 22, 43, 44, 45, 46, 47, 48, 49, 50, 51, 52, 53, 54, 55, 56, 57, 58, 63, 64, 65, 66, 67, 68, 69, 70, 71, 72, 73, 74] (by decide +kernel) (by decide +kernel)) (goodIn_sub (fun _ h => List.mem_cons_of_mem _ (List.mem_append_right _ h)) (by decide +kernel))
set_option maxRecDepth 20000 in
theorem gX6_begins_X6_sufferPoison : GoodIn wsX6_begins (wsV RX6 79 RX6 yX6_sufferPoison wsX6_sufferPoison) := goodIn_app (goodIn_of _ (by decide +kernel)) ggX6_begins_X6_sufferPoison
set_option maxRecDepth 20000 in
theorem ggX6_begins_X6_stands : GoodIn wsX6_begins wsX6_stands := goodIn_ca (goodIn_r _ [14, 7, 8, 9, 5, 10, 1, 63, 64, 65, 66, 67, 68, 69, 70, 71, 72, 73, 74] (by decide +kernel) (by decide +kernel)) (goodIn_sub (fun _ h => List.mem_cons_of_mem _ (List.mem_append_right _ h)) (by decide +kernel))
set_option maxRecDepth 20000 in
theorem gX6_begins_X6_stands : GoodIn wsX6_begins (wsV RX6 55 RX6 yX6_stands wsX6_stands) := goodIn_app (goodIn_of _ (by decide +kernel)) ggX6_begins_X6_stands
set_option maxRecDepth 20000 in
theorem ggX6_begins_X6_powersOn : GoodIn wsX6_begins wsX6_powersOn := goodIn_ca (goodIn_r _ [30, 1, 31, 32, 33, 5, 34, 63, 64, 65, 66, 67, 68, 69, 70, 71, 72, 73, 74] (by decide +kernel) (by decide +kernel)) (goodIn_sub (fun _ h => List.mem_cons_of_mem _ (List.mem_append_right _ h)) (by decide +kernel))
set_option maxRecDepth 20000 in
theorem gX6_begins_X6_powersOn : GoodIn wsX6_begins (wsV RX6 48 RX6 yX6_powersOn wsX6_powersOn) := goodIn_app (goodIn_of _ (by decide +kernel)) ggX6_begins_X6_powersOn
set_option maxRecDepth 20000 in
theorem ggX6_begins_X6_ends : GoodIn wsX6_begins wsX6_ends := goodIn_ca (goodIn_r _ [62, 1, 47, 48, 49, 5, 50, 63, 64, 65, 66, 67, 68, 69, 70, 71, 72, 73, 74] (by decide +kernel) (by decide +kernel)) (goodIn_sub (fun _ h => List.mem_cons_of_mem _ (List.mem_append_right _ h)) (by decide +kernel))
set_option maxRecDepth 20000 in
theorem gX6_begins_X6_ends : GoodIn wsX6_begins (wsV RX6 82 RX6 yX6_ends wsX6_ends) := goodIn_app (goodIn_of _ (by decide +kernel)) ggX6_begins_X6_ends
theorem dX6_begins_0 : decode cX6_begins 0 = .ok (.aload_n 0, 1) := by decide +kernel
theorem dX6_begins_1 : decode cX6_begins 1 = .ok (.getfield 7, 3) := by decide +kernel
theorem dX6_begins_4 : decode cX6_begins 4 = .ok (.iconst 3, 1) := by decide +kernel
theorem dX6_begins_5 : decode cX6_begins 5 = .ok (.iaload, 1) := by decide +kernel
theorem dX6_begins_6 : decode cX6_begins 6 = .ok (.ifCond .ne 7, 3) := by decide +kernel
theorem dX6_begins_9 : decode cX6_begins 9 = .ok (.iconst (-1), 1) := by decide +kernel
theorem dX6_begins_10 : decode cX6_begins 10 = .ok (.goto 7, 3) := by decide +kernel
theorem dX6_begins_13 : decode cX6_begins 13 = .ok (.aload_n 0, 1) := by decide +kernel
theorem dX6_begins_14 : decode cX6_begins 14 = .ok (.invokevirtual 72, 3) := by decide +kernel
theorem dX6_begins_17 : decode cX6_begins 17 = .ok (.istore_n 1, 1) := by decide +kernel
theorem dX6_begins_18 : decode cX6_begins 18 = .ok (.iload_n 1, 1) := by decide +kernel
theorem dX6_begins_19 : decode cX6_begins 19 = .ok (.iconst (-1), 1) := by decide +kernel
theorem dX6_begins_20 : decode cX6_begins 20 = .ok (.if_icmp .ne 12, 3) := by decide +kernel
theorem dX6_begins_23 : decode cX6_begins 23 = .ok (.aload_n 0, 1) := by decide +kernel
theorem dX6_begins_24 : decode cX6_begins 24 = .ok (.invokevirtual 76, 3) := by decide +kernel
theorem dX6_begins_27 : decode cX6_begins 27 = .ok (.aload_n 0, 1) := by decide +kernel
theorem dX6_begins_28 : decode cX6_begins 28 = .ok (.invokevirtual 72, 3) := by decide +kernel
theorem dX6_begins_31 : decode cX6_begins 31 = .ok (.istore_n 1, 1) := by decide +kernel
theorem dX6_begins_32 : decode cX6_begins 32 = .ok (.iload_n 1, 1) := by decide +kernel
theorem dX6_begins_33 : decode cX6_begins 33 = .ok (.iconst (-1), 1) := by decide +kernel
theorem dX6_begins_34 : decode cX6_begins 34 = .ok (.if_icmp .ne 5, 3) := by decide +kernel
theorem dX6_begins_37 : decode cX6_begins 37 = .ok (.iconst (-1), 1) := by decide +kernel
theorem dX6_begins_38 : decode cX6_begins 38 = .ok (.ireturn, 1) := by decide +kernel
theorem dX6_begins_39 : decode cX6_begins 39 = .ok (.aload_n 0, 1) := by decide +kernel
theorem dX6_begins_40 : decode cX6_begins 40 = .ok (.getfield 7, 3) := by decide +kernel
theorem dX6_begins_43 : decode cX6_begins 43 = .ok (.bipush 9, 2) := by decide +kernel
theorem dX6_begins_45 : decode cX6_begins 45 = .ok (.dup2, 1) := by decide +kernel
theorem dX6_begins_46 : decode cX6_begins 46 = .ok (.iaload, 1) := by decide +kernel
theorem dX6_begins_47 : decode cX6_begins 47 = .ok (.iconst 1, 1) := by decide +kernel
theorem dX6_begins_48 : decode cX6_begins 48 = .ok (.iadd, 1) := by decide +kernel
theorem dX6_begins_49 : decode cX6_begins 49 = .ok (.iastore, 1) := by decide +kernel
theorem dX6_begins_50 : decode cX6_begins 50 = .ok (.aload_n 0, 1) := by decide +kernel
theorem dX6_begins_51 : decode cX6_begins 51 = .ok (.getfield 7, 3) := by decide +kernel
theorem dX6_begins_54 : decode cX6_begins 54 = .ok (.bipush 7, 2) := by decide +kernel
theorem dX6_begins_56 : decode cX6_begins 56 = .ok (.iload_n 1, 1) := by decide +kernel
theorem dX6_begins_57 : decode cX6_begins 57 = .ok (.iastore, 1) := by decide +kernel
theorem dX6_begins_58 : decode cX6_begins 58 = .ok (.aload_n 0, 1) := by decide +kernel
theorem dX6_begins_59 : decode cX6_begins 59 = .ok (.getfield 7, 3) := by decide +kernel
theorem dX6_begins_62 : decode cX6_begins 62 = .ok (.iconst 5, 1) := by decide +kernel
theorem dX6_begins_63 : decode cX6_begins 63 = .ok (.iconst 0, 1) := by decide +kernel
theorem dX6_begins_64 : decode cX6_begins 64 = .ok (.iastore, 1) := by decide +kernel
theorem dX6_begins_65 : decode cX6_begins 65 = .ok (.aload_n 0, 1) := by decide +kernel
theorem dX6_begins_66 : decode cX6_begins 66 = .ok (.getfield 7, 3) := by decide +kernel
theorem dX6_begins_69 : decode cX6_begins 69 = .ok (.iconst 4, 1) := by decide +kernel
theorem dX6_begins_70 : decode cX6_begins 70 = .ok (.iload_n 1, 1) := by decide +kernel
theorem dX6_begins_71 : decode cX6_begins 71 = .ok (.iastore, 1) := by decide +kernel
theorem dX6_begins_72 : decode cX6_begins 72 = .ok (.aload_n 0, 1) := by decide +kernel
theorem dX6_begins_73 : decode cX6_begins 73 = .ok (.iload_n 1, 1) := by decide +kernel
theorem dX6_begins_74 : decode cX6_begins 74 = .ok (.iconst 4, 1) := by decide +kernel
theorem dX6_begins_75 : decode cX6_begins 75 = .ok (.iconst 1, 1) := by decide +kernel
theorem dX6_begins_76 : decode cX6_begins 76 = .ok (.invokevirtual 51, 3) := by decide +kernel
theorem dX6_begins_79 : decode cX6_begins 79 = .ok (.aload_n 0, 1) := by decide +kernel
theorem dX6_begins_80 : decode cX6_begins 80 = .ok (.iload_n 1, 1) := by decide +kernel
theorem dX6_begins_81 : decode cX6_begins 81 = .ok (.iconst 3, 1) := by decide +kernel
theorem dX6_begins_82 : decode cX6_begins 82 = .ok (.iconst 1, 1) := by decide +kernel
theorem dX6_begins_83 : decode cX6_begins 83 = .ok (.invokevirtual 51, 3) := by decide +kernel
theorem dX6_begins_86 : decode cX6_begins 86 = .ok (.aload_n 0, 1) := by decide +kernel
theorem dX6_begins_87 : decode cX6_begins 87 = .ok (.iload_n 1, 1) := by decide +kernel
theorem dX6_begins_88 : decode cX6_begins 88 = .ok (.invokevirtual 79, 3) := by decide +kernel
theorem dX6_begins_91 : decode cX6_begins 91 = .ok (.aload_n 0, 1) := by decide +kernel
theorem dX6_begins_92 : decode cX6_begins 92 = .ok (.iload_n 1, 1) := by decide +kernel
theorem dX6_begins_93 : decode cX6_begins 93 = .ok (.invokevirtual 55, 3) := by decide +kernel
theorem dX6_begins_96 : decode cX6_begins 96 = .ok (.ifCond .ne 13, 3) := by decide +kernel
theorem dX6_begins_99 : decode cX6_begins 99 = .ok (.aload_n 0, 1) := by decide +kernel
theorem dX6_begins_100 : decode cX6_begins 100 = .ok (.getfield 7, 3) := by decide +kernel
theorem dX6_begins_103 : decode cX6_begins 103 = .ok (.iconst 4, 1) := by decide +kernel
theorem dX6_begins_104 : decode cX6_begins 104 = .ok (.iconst (-1), 1) := by decide +kernel
theorem dX6_begins_105 : decode cX6_begins 105 = .ok (.iastore, 1) := by decide +kernel
theorem dX6_begins_106 : decode cX6_begins 106 = .ok (.goto 32, 3) := by decide +kernel
theorem dX6_begins_109 : decode cX6_begins 109 = .ok (.aload_n 0, 1) := by decide +kernel
theorem dX6_begins_110 : decode cX6_begins 110 = .ok (.iload_n 1, 1) := by decide +kernel
theorem dX6_begins_111 : decode cX6_begins 111 = .ok (.iconst 4, 1) := by decide +kernel
theorem dX6_begins_112 : decode cX6_begins 112 = .ok (.invokevirtual 48, 3) := by decide +kernel
theorem dX6_begins_115 : decode cX6_begins 115 = .ok (.ifCond .le 23, 3) := by decide +kernel
theorem dX6_begins_118 : decode cX6_begins 118 = .ok (.aload_n 0, 1) := by decide +kernel
theorem dX6_begins_119 : decode cX6_begins 119 = .ok (.invokevirtual 82, 3) := by decide +kernel
theorem dX6_begins_122 : decode cX6_begins 122 = .ok (.istore_n 2, 1) := by decide +kernel
theorem dX6_begins_123 : decode cX6_begins 123 = .ok (.aload_n 0, 1) := by decide +kernel
theorem dX6_begins_124 : decode cX6_begins 124 = .ok (.getfield 7, 3) := by decide +kernel
theorem dX6_begins_127 : decode cX6_begins 127 = .ok (.iconst 4, 1) := by decide +kernel
theorem dX6_begins_128 : decode cX6_begins 128 = .ok (.iload_n 2, 1) := by decide +kernel
theorem dX6_begins_129 : decode cX6_begins 129 = .ok (.ifCond .ge 7, 3) := by decide +kernel
theorem dX6_begins_132 : decode cX6_begins 132 = .ok (.iload_n 1, 1) := by decide +kernel
theorem dX6_begins_133 : decode cX6_begins 133 = .ok (.goto 4, 3) := by decide +kernel
theorem dX6_begins_136 : decode cX6_begins 136 = .ok (.iconst (-1), 1) := by decide +kernel
theorem dX6_begins_137 : decode cX6_begins 137 = .ok (.iastore, 1) := by decide +kernel
theorem dX6_begins_138 : decode cX6_begins 138 = .ok (.iload_n 1, 1) := by decide +kernel
theorem dX6_begins_139 : decode cX6_begins 139 = .ok (.ireturn, 1) := by decide +kernel
set_option maxRecDepth 20000 in
theorem ggX6_ends_X6_endEffect : GoodIn wsX6_ends wsX6_endEffect := goodIn_ca (goodIn_r _ [6, 1, 7, 8, 9, 10, 11, 12, 13, 14, 15, 16, 17, 18] (by decide +kernel) (by decide +kernel)) (goodIn_sub (fun _ h => List.mem_cons_of_mem _ (List.mem_append_right _ h)) (by decide +kernel))
set_option maxRecDepth 20000 in
theorem gX6_ends_X6_endEffect : GoodIn wsX6_ends (wsV RX6 44 RX6 yX6_endEffect wsX6_endEffect) := goodIn_app (goodIn_of _ (by decide +kernel)) ggX6_ends_X6_endEffect
theorem dX6_ends_0 : decode cX6_ends 0 = .ok (.aload_n 0, 1) := by decide +kernel
theorem dX6_ends_1 : decode cX6_ends 1 = .ok (.getfield 7, 3) := by decide +kernel
theorem dX6_ends_4 : decode cX6_ends 4 = .ok (.iconst 4, 1) := by decide +kernel
theorem dX6_ends_5 : decode cX6_ends 5 = .ok (.iaload, 1) := by decide +kernel
theorem dX6_ends_6 : decode cX6_ends 6 = .ok (.istore_n 1, 1) := by decide +kernel
theorem dX6_ends_7 : decode cX6_ends 7 = .ok (.aload_n 0, 1) := by decide +kernel
theorem dX6_ends_8 : decode cX6_ends 8 = .ok (.getfield 7, 3) := by decide +kernel
theorem dX6_ends_11 : decode cX6_ends 11 = .ok (.iconst 4, 1) := by decide +kernel
theorem dX6_ends_12 : decode cX6_ends 12 = .ok (.iconst (-1), 1) := by decide +kernel
theorem dX6_ends_13 : decode cX6_ends 13 = .ok (.iastore, 1) := by decide +kernel
theorem dX6_ends_14 : decode cX6_ends 14 = .ok (.aload_n 0, 1) := by decide +kernel
theorem dX6_ends_15 : decode cX6_ends 15 = .ok (.getfield 7, 3) := by decide +kernel
theorem dX6_ends_18 : decode cX6_ends 18 = .ok (.bipush 10, 2) := by decide +kernel
theorem dX6_ends_20 : decode cX6_ends 20 = .ok (.iaload, 1) := by decide +kernel
theorem dX6_ends_21 : decode cX6_ends 21 = .ok (.istore_n 2, 1) := by decide +kernel
theorem dX6_ends_22 : decode cX6_ends 22 = .ok (.iconst 0, 1) := by decide +kernel
theorem dX6_ends_23 : decode cX6_ends 23 = .ok (.istore_n 3, 1) := by decide +kernel
theorem dX6_ends_24 : decode cX6_ends 24 = .ok (.iload_n 3, 1) := by decide +kernel
theorem dX6_ends_25 : decode cX6_ends 25 = .ok (.aload_n 0, 1) := by decide +kernel
theorem dX6_ends_26 : decode cX6_ends 26 = .ok (.getfield 7, 3) := by decide +kernel
theorem dX6_ends_29 : decode cX6_ends 29 = .ok (.iconst 1, 1) := by decide +kernel
theorem dX6_ends_30 : decode cX6_ends 30 = .ok (.iaload, 1) := by decide +kernel
theorem dX6_ends_31 : decode cX6_ends 31 = .ok (.if_icmp .ge 80, 3) := by decide +kernel
theorem dX6_ends_34 : decode cX6_ends 34 = .ok (.bipush 82, 2) := by decide +kernel
theorem dX6_ends_36 : decode cX6_ends 36 = .ok (.bipush 8, 2) := by decide +kernel
theorem dX6_ends_38 : decode cX6_ends 38 = .ok (.iload_n 3, 1) := by decide +kernel
theorem dX6_ends_39 : decode cX6_ends 39 = .ok (.imul, 1) := by decide +kernel
theorem dX6_ends_40 : decode cX6_ends 40 = .ok (.iadd, 1) := by decide +kernel
theorem dX6_ends_41 : decode cX6_ends 41 = .ok (.istore 4, 2) := by decide +kernel
theorem dX6_ends_43 : decode cX6_ends 43 = .ok (.aload_n 0, 1) := by decide +kernel
theorem dX6_ends_44 : decode cX6_ends 44 = .ok (.getfield 7, 3) := by decide +kernel
theorem dX6_ends_47 : decode cX6_ends 47 = .ok (.iload 4, 2) := by decide +kernel
theorem dX6_ends_49 : decode cX6_ends 49 = .ok (.aload_n 0, 1) := by decide +kernel
theorem dX6_ends_50 : decode cX6_ends 50 = .ok (.getfield 7, 3) := by decide +kernel
theorem dX6_ends_53 : decode cX6_ends 53 = .ok (.iload 4, 2) := by decide +kernel
theorem dX6_ends_55 : decode cX6_ends 55 = .ok (.iconst 5, 1) := by decide +kernel
theorem dX6_ends_56 : decode cX6_ends 56 = .ok (.iadd, 1) := by decide +kernel
theorem dX6_ends_57 : decode cX6_ends 57 = .ok (.iaload, 1) := by decide +kernel
theorem dX6_ends_58 : decode cX6_ends 58 = .ok (.ifCond .ne 7, 3) := by decide +kernel
theorem dX6_ends_61 : decode cX6_ends 61 = .ok (.iconst 2, 1) := by decide +kernel
theorem dX6_ends_62 : decode cX6_ends 62 = .ok (.goto 4, 3) := by decide +kernel
theorem dX6_ends_65 : decode cX6_ends 65 = .ok (.iconst 3, 1) := by decide +kernel
theorem dX6_ends_66 : decode cX6_ends 66 = .ok (.iadd, 1) := by decide +kernel
theorem dX6_ends_67 : decode cX6_ends 67 = .ok (.iaload, 1) := by decide +kernel
theorem dX6_ends_68 : decode cX6_ends 68 = .ok (.iload_n 1, 1) := by decide +kernel
theorem dX6_ends_69 : decode cX6_ends 69 = .ok (.if_icmp .ne 16, 3) := by decide +kernel
theorem dX6_ends_72 : decode cX6_ends 72 = .ok (.aload_n 0, 1) := by decide +kernel
theorem dX6_ends_73 : decode cX6_ends 73 = .ok (.getfield 7, 3) := by decide +kernel
theorem dX6_ends_76 : decode cX6_ends 76 = .ok (.iload 4, 2) := by decide +kernel
theorem dX6_ends_78 : decode cX6_ends 78 = .ok (.iconst 4, 1) := by decide +kernel
theorem dX6_ends_79 : decode cX6_ends 79 = .ok (.iadd, 1) := by decide +kernel
theorem dX6_ends_80 : decode cX6_ends 80 = .ok (.dup2, 1) := by decide +kernel
theorem dX6_ends_81 : decode cX6_ends 81 = .ok (.iaload, 1) := by decide +kernel
theorem dX6_ends_82 : decode cX6_ends 82 = .ok (.iconst 1, 1) := by decide +kernel
theorem dX6_ends_83 : decode cX6_ends 83 = .ok (.isub, 1) := by decide +kernel
theorem dX6_ends_84 : decode cX6_ends 84 = .ok (.iastore, 1) := by decide +kernel
theorem dX6_ends_85 : decode cX6_ends 85 = .ok (.aload_n 0, 1) := by decide +kernel
theorem dX6_ends_86 : decode cX6_ends 86 = .ok (.getfield 7, 3) := by decide +kernel
theorem dX6_ends_89 : decode cX6_ends 89 = .ok (.iload 4, 2) := by decide +kernel
theorem dX6_ends_91 : decode cX6_ends 91 = .ok (.iconst 4, 1) := by decide +kernel
theorem dX6_ends_92 : decode cX6_ends 92 = .ok (.iadd, 1) := by decide +kernel
theorem dX6_ends_93 : decode cX6_ends 93 = .ok (.iaload, 1) := by decide +kernel
theorem dX6_ends_94 : decode cX6_ends 94 = .ok (.ifCond .ne 11, 3) := by decide +kernel
theorem dX6_ends_97 : decode cX6_ends 97 = .ok (.aload_n 0, 1) := by decide +kernel
theorem dX6_ends_98 : decode cX6_ends 98 = .ok (.iload_n 3, 1) := by decide +kernel
theorem dX6_ends_99 : decode cX6_ends 99 = .ok (.invokevirtual 44, 3) := by decide +kernel
theorem dX6_ends_102 : decode cX6_ends 102 = .ok (.goto 6, 3) := by decide +kernel
theorem dX6_ends_105 : decode cX6_ends 105 = .ok (.iinc 3 1, 3) := by decide +kernel
theorem dX6_ends_108 : decode cX6_ends 108 = .ok (.goto (-84), 3) := by decide +kernel
theorem dX6_ends_111 : decode cX6_ends 111 = .ok (.aload_n 0, 1) := by decide +kernel
theorem dX6_ends_112 : decode cX6_ends 112 = .ok (.getfield 7, 3) := by decide +kernel
theorem dX6_ends_115 : decode cX6_ends 115 = .ok (.bipush 10, 2) := by decide +kernel
theorem dX6_ends_117 : decode cX6_ends 117 = .ok (.iaload, 1) := by decide +kernel
theorem dX6_ends_118 : decode cX6_ends 118 = .ok (.iload_n 2, 1) := by decide +kernel
theorem dX6_ends_119 : decode cX6_ends 119 = .ok (.isub, 1) := by decide +kernel
theorem dX6_ends_120 : decode cX6_ends 120 = .ok (.ireturn, 1) := by decide +kernel
set_option maxRecDepth 20000 in
theorem ggX6_canDelay_X6_of : GoodIn wsX6_canDelay wsX6_of := goodIn_ca (goodIn_r _ [6, 1, 7, 8, 9, 10, 11, 12, 13, 14, 15, 16, 17, 18] (by decide +kernel) (by decide +kernel)) (goodIn_sub (fun _ h => List.mem_cons_of_mem _ (List.mem_append_right _ h)) (by decide +kernel))
set_option maxRecDepth 20000 in
theorem gX6_canDelay_X6_of : GoodIn wsX6_canDelay (wsV RX6 33 RX6 yX6_of wsX6_of) := goodIn_app (goodIn_of _ (by decide +kernel)) ggX6_canDelay_X6_of
theorem dX6_canDelay_0 : decode cX6_canDelay 0 = .ok (.aload_n 0, 1) := by decide +kernel
theorem dX6_canDelay_1 : decode cX6_canDelay 1 = .ok (.getfield 7, 3) := by decide +kernel
theorem dX6_canDelay_4 : decode cX6_canDelay 4 = .ok (.iconst 4, 1) := by decide +kernel
theorem dX6_canDelay_5 : decode cX6_canDelay 5 = .ok (.iaload, 1) := by decide +kernel
theorem dX6_canDelay_6 : decode cX6_canDelay 6 = .ok (.iconst (-1), 1) := by decide +kernel
theorem dX6_canDelay_7 : decode cX6_canDelay 7 = .ok (.if_icmp .eq 30, 3) := by decide +kernel
theorem dX6_canDelay_10 : decode cX6_canDelay 10 = .ok (.aload_n 0, 1) := by decide +kernel
theorem dX6_canDelay_11 : decode cX6_canDelay 11 = .ok (.getfield 7, 3) := by decide +kernel
theorem dX6_canDelay_14 : decode cX6_canDelay 14 = .ok (.iconst 5, 1) := by decide +kernel
theorem dX6_canDelay_15 : decode cX6_canDelay 15 = .ok (.iaload, 1) := by decide +kernel
theorem dX6_canDelay_16 : decode cX6_canDelay 16 = .ok (.ifCond .ne 21, 3) := by decide +kernel
theorem dX6_canDelay_19 : decode cX6_canDelay 19 = .ok (.aload_n 0, 1) := by decide +kernel
theorem dX6_canDelay_20 : decode cX6_canDelay 20 = .ok (.aload_n 0, 1) := by decide +kernel
theorem dX6_canDelay_21 : decode cX6_canDelay 21 = .ok (.getfield 7, 3) := by decide +kernel
theorem dX6_canDelay_24 : decode cX6_canDelay 24 = .ok (.iconst 4, 1) := by decide +kernel
theorem dX6_canDelay_25 : decode cX6_canDelay 25 = .ok (.iaload, 1) := by decide +kernel
theorem dX6_canDelay_26 : decode cX6_canDelay 26 = .ok (.iconst 5, 1) := by decide +kernel
theorem dX6_canDelay_27 : decode cX6_canDelay 27 = .ok (.invokevirtual 33, 3) := by decide +kernel
theorem dX6_canDelay_30 : decode cX6_canDelay 30 = .ok (.ifCond .ne 7, 3) := by decide +kernel
theorem dX6_canDelay_33 : decode cX6_canDelay 33 = .ok (.iconst 1, 1) := by decide +kernel
theorem dX6_canDelay_34 : decode cX6_canDelay 34 = .ok (.goto 4, 3) := by decide +kernel
theorem dX6_canDelay_37 : decode cX6_canDelay 37 = .ok (.iconst 0, 1) := by decide +kernel
theorem dX6_canDelay_38 : decode cX6_canDelay 38 = .ok (.ireturn, 1) := by decide +kernel
set_option maxRecDepth 20000 in
theorem ggX6_delays_X6_set : GoodIn wsX6_delays wsX6_set := goodIn_ca (goodIn_r _ [6, 1, 7, 8, 9, 10, 11, 12, 13, 14, 15, 16, 17, 18] (by decide +kernel) (by decide +kernel)) (goodIn_sub (fun _ h => List.mem_cons_of_mem _ (List.mem_append_right _ h)) (by decide +kernel))
set_option maxRecDepth 20000 in
theorem gX6_delays_X6_set : GoodIn wsX6_delays (wsV RX6 51 RX6 yX6_set wsX6_set) := goodIn_app (goodIn_of _ (by decide +kernel)) ggX6_delays_X6_set
theorem dX6_delays_0 : decode cX6_delays 0 = .ok (.aload_n 0, 1) := by decide +kernel
theorem dX6_delays_1 : decode cX6_delays 1 = .ok (.getfield 7, 3) := by decide +kernel
theorem dX6_delays_4 : decode cX6_delays 4 = .ok (.iconst 4, 1) := by decide +kernel
theorem dX6_delays_5 : decode cX6_delays 5 = .ok (.iaload, 1) := by decide +kernel
theorem dX6_delays_6 : decode cX6_delays 6 = .ok (.istore_n 1, 1) := by decide +kernel
theorem dX6_delays_7 : decode cX6_delays 7 = .ok (.aload_n 0, 1) := by decide +kernel
theorem dX6_delays_8 : decode cX6_delays 8 = .ok (.iload_n 1, 1) := by decide +kernel
theorem dX6_delays_9 : decode cX6_delays 9 = .ok (.iconst 4, 1) := by decide +kernel
theorem dX6_delays_10 : decode cX6_delays 10 = .ok (.iconst 2, 1) := by decide +kernel
theorem dX6_delays_11 : decode cX6_delays 11 = .ok (.invokevirtual 51, 3) := by decide +kernel
theorem dX6_delays_14 : decode cX6_delays 14 = .ok (.aload_n 0, 1) := by decide +kernel
theorem dX6_delays_15 : decode cX6_delays 15 = .ok (.iload_n 1, 1) := by decide +kernel
theorem dX6_delays_16 : decode cX6_delays 16 = .ok (.iconst 5, 1) := by decide +kernel
theorem dX6_delays_17 : decode cX6_delays 17 = .ok (.iconst 1, 1) := by decide +kernel
theorem dX6_delays_18 : decode cX6_delays 18 = .ok (.invokevirtual 51, 3) := by decide +kernel
theorem dX6_delays_21 : decode cX6_delays 21 = .ok (.aload_n 0, 1) := by decide +kernel
theorem dX6_delays_22 : decode cX6_delays 22 = .ok (.getfield 7, 3) := by decide +kernel
theorem dX6_delays_25 : decode cX6_delays 25 = .ok (.iconst 4, 1) := by decide +kernel
theorem dX6_delays_26 : decode cX6_delays 26 = .ok (.iconst (-1), 1) := by decide +kernel
theorem dX6_delays_27 : decode cX6_delays 27 = .ok (.iastore, 1) := by decide +kernel
theorem dX6_delays_28 : decode cX6_delays 28 = .ok (.iload_n 1, 1) := by decide +kernel
theorem dX6_delays_29 : decode cX6_delays 29 = .ok (.ireturn, 1) := by decide +kernel
theorem dX6_placeOf_0 : decode cX6_placeOf 0 = .ok (.iconst 0, 1) := by decide +kernel
theorem dX6_placeOf_1 : decode cX6_placeOf 1 = .ok (.istore_n 2, 1) := by decide +kernel
theorem dX6_placeOf_2 : decode cX6_placeOf 2 = .ok (.iload_n 2, 1) := by decide +kernel
theorem dX6_placeOf_3 : decode cX6_placeOf 3 = .ok (.aload_n 0, 1) := by decide +kernel
theorem dX6_placeOf_4 : decode cX6_placeOf 4 = .ok (.getfield 7, 3) := by decide +kernel
theorem dX6_placeOf_7 : decode cX6_placeOf 7 = .ok (.bipush 6, 2) := by decide +kernel
theorem dX6_placeOf_9 : decode cX6_placeOf 9 = .ok (.iaload, 1) := by decide +kernel
theorem dX6_placeOf_10 : decode cX6_placeOf 10 = .ok (.if_icmp .ge 24, 3) := by decide +kernel
theorem dX6_placeOf_13 : decode cX6_placeOf 13 = .ok (.aload_n 0, 1) := by decide +kernel
theorem dX6_placeOf_14 : decode cX6_placeOf 14 = .ok (.getfield 7, 3) := by decide +kernel
theorem dX6_placeOf_17 : decode cX6_placeOf 17 = .ok (.bipush 72, 2) := by decide +kernel
theorem dX6_placeOf_19 : decode cX6_placeOf 19 = .ok (.iload_n 2, 1) := by decide +kernel
theorem dX6_placeOf_20 : decode cX6_placeOf 20 = .ok (.iadd, 1) := by decide +kernel
theorem dX6_placeOf_21 : decode cX6_placeOf 21 = .ok (.iaload, 1) := by decide +kernel
theorem dX6_placeOf_22 : decode cX6_placeOf 22 = .ok (.iload_n 1, 1) := by decide +kernel
theorem dX6_placeOf_23 : decode cX6_placeOf 23 = .ok (.if_icmp .ne 5, 3) := by decide +kernel
theorem dX6_placeOf_26 : decode cX6_placeOf 26 = .ok (.iload_n 2, 1) := by decide +kernel
theorem dX6_placeOf_27 : decode cX6_placeOf 27 = .ok (.ireturn, 1) := by decide +kernel
theorem dX6_placeOf_28 : decode cX6_placeOf 28 = .ok (.iinc 2 1, 3) := by decide +kernel
theorem dX6_placeOf_31 : decode cX6_placeOf 31 = .ok (.goto (-29), 3) := by decide +kernel
theorem dX6_placeOf_34 : decode cX6_placeOf 34 = .ok (.iconst (-1), 1) := by decide +kernel
theorem dX6_placeOf_35 : decode cX6_placeOf 35 = .ok (.ireturn, 1) := by decide +kernel
set_option maxRecDepth 20000 in
theorem ggX6_canComeIn_X6_of : GoodIn wsX6_canComeIn wsX6_of := goodIn_ca (goodIn_r _ [6, 1, 11, 12, 13, 14, 15, 16, 17, 18, 19, 20, 21, 22] (by decide +kernel) (by decide +kernel)) (goodIn_sub (fun _ h => List.mem_cons_of_mem _ (List.mem_append_right _ h)) (by decide +kernel))
set_option maxRecDepth 20000 in
theorem gX6_canComeIn_X6_of : GoodIn wsX6_canComeIn (wsV RX6 33 RX6 yX6_of wsX6_of) := goodIn_app (goodIn_of _ (by decide +kernel)) ggX6_canComeIn_X6_of
set_option maxRecDepth 20000 in
theorem ggX6_canComeIn_X6_stands : GoodIn wsX6_canComeIn wsX6_stands := goodIn_ca (goodIn_r _ [10, 2, 3, 4, 5, 6, 1, 11, 12, 13, 14, 15, 16, 17, 18, 19, 20, 21, 22] (by decide +kernel) (by decide +kernel)) (goodIn_sub (fun _ h => List.mem_cons_of_mem _ (List.mem_append_right _ h)) (by decide +kernel))
set_option maxRecDepth 20000 in
theorem gX6_canComeIn_X6_stands : GoodIn wsX6_canComeIn (wsV RX6 55 RX6 yX6_stands wsX6_stands) := goodIn_app (goodIn_of _ (by decide +kernel)) ggX6_canComeIn_X6_stands
theorem dX6_canComeIn_0 : decode cX6_canComeIn 0 = .ok (.aload_n 0, 1) := by decide +kernel
theorem dX6_canComeIn_1 : decode cX6_canComeIn 1 = .ok (.getfield 7, 3) := by decide +kernel
theorem dX6_canComeIn_4 : decode cX6_canComeIn 4 = .ok (.iconst 4, 1) := by decide +kernel
theorem dX6_canComeIn_5 : decode cX6_canComeIn 5 = .ok (.iaload, 1) := by decide +kernel
theorem dX6_canComeIn_6 : decode cX6_canComeIn 6 = .ok (.iconst (-1), 1) := by decide +kernel
theorem dX6_canComeIn_7 : decode cX6_canComeIn 7 = .ok (.if_icmp .ne 25, 3) := by decide +kernel
theorem dX6_canComeIn_10 : decode cX6_canComeIn 10 = .ok (.aload_n 0, 1) := by decide +kernel
theorem dX6_canComeIn_11 : decode cX6_canComeIn 11 = .ok (.iload_n 1, 1) := by decide +kernel
theorem dX6_canComeIn_12 : decode cX6_canComeIn 12 = .ok (.iconst 4, 1) := by decide +kernel
theorem dX6_canComeIn_13 : decode cX6_canComeIn 13 = .ok (.invokevirtual 33, 3) := by decide +kernel
theorem dX6_canComeIn_16 : decode cX6_canComeIn 16 = .ok (.iconst 2, 1) := by decide +kernel
theorem dX6_canComeIn_17 : decode cX6_canComeIn 17 = .ok (.if_icmp .ne 15, 3) := by decide +kernel
theorem dX6_canComeIn_20 : decode cX6_canComeIn 20 = .ok (.aload_n 0, 1) := by decide +kernel
theorem dX6_canComeIn_21 : decode cX6_canComeIn 21 = .ok (.iload_n 1, 1) := by decide +kernel
theorem dX6_canComeIn_22 : decode cX6_canComeIn 22 = .ok (.invokevirtual 55, 3) := by decide +kernel
theorem dX6_canComeIn_25 : decode cX6_canComeIn 25 = .ok (.ifCond .eq 7, 3) := by decide +kernel
theorem dX6_canComeIn_28 : decode cX6_canComeIn 28 = .ok (.iconst 1, 1) := by decide +kernel
theorem dX6_canComeIn_29 : decode cX6_canComeIn 29 = .ok (.goto 4, 3) := by decide +kernel
theorem dX6_canComeIn_32 : decode cX6_canComeIn 32 = .ok (.iconst 0, 1) := by decide +kernel
theorem dX6_canComeIn_33 : decode cX6_canComeIn 33 = .ok (.ireturn, 1) := by decide +kernel
set_option maxRecDepth 20000 in
theorem ggX6_carry_X6_placeOf : GoodIn wsX6_carry wsX6_placeOf := goodIn_ca (goodIn_r _ [6, 1, 7, 8, 9, 10, 11, 12, 13, 14, 15, 16, 17, 18] (by decide +kernel) (by decide +kernel)) (goodIn_sub (fun _ h => List.mem_cons_of_mem _ (List.mem_append_right _ h)) (by decide +kernel))
set_option maxRecDepth 20000 in
theorem gX6_carry_X6_placeOf : GoodIn wsX6_carry (wsV RX6 85 RX6 yX6_placeOf wsX6_placeOf) := goodIn_app (goodIn_of _ (by decide +kernel)) ggX6_carry_X6_placeOf
theorem dX6_carry_0 : decode cX6_carry 0 = .ok (.iconst 0, 1) := by decide +kernel
theorem dX6_carry_1 : decode cX6_carry 1 = .ok (.istore_n 2, 1) := by decide +kernel
theorem dX6_carry_2 : decode cX6_carry 2 = .ok (.iconst 0, 1) := by decide +kernel
theorem dX6_carry_3 : decode cX6_carry 3 = .ok (.istore_n 3, 1) := by decide +kernel
theorem dX6_carry_4 : decode cX6_carry 4 = .ok (.iload_n 3, 1) := by decide +kernel
theorem dX6_carry_5 : decode cX6_carry 5 = .ok (.aload_n 0, 1) := by decide +kernel
theorem dX6_carry_6 : decode cX6_carry 6 = .ok (.getfield 7, 3) := by decide +kernel
theorem dX6_carry_9 : decode cX6_carry 9 = .ok (.bipush 6, 2) := by decide +kernel
theorem dX6_carry_11 : decode cX6_carry 11 = .ok (.iaload, 1) := by decide +kernel
theorem dX6_carry_12 : decode cX6_carry 12 = .ok (.if_icmp .ge 45, 3) := by decide +kernel
theorem dX6_carry_15 : decode cX6_carry 15 = .ok (.aload_n 0, 1) := by decide +kernel
theorem dX6_carry_16 : decode cX6_carry 16 = .ok (.getfield 7, 3) := by decide +kernel
theorem dX6_carry_19 : decode cX6_carry 19 = .ok (.bipush 72, 2) := by decide +kernel
theorem dX6_carry_21 : decode cX6_carry 21 = .ok (.iload_n 3, 1) := by decide +kernel
theorem dX6_carry_22 : decode cX6_carry 22 = .ok (.iadd, 1) := by decide +kernel
theorem dX6_carry_23 : decode cX6_carry 23 = .ok (.iaload, 1) := by decide +kernel
theorem dX6_carry_24 : decode cX6_carry 24 = .ok (.istore 4, 2) := by decide +kernel
theorem dX6_carry_26 : decode cX6_carry 26 = .ok (.aload_n 0, 1) := by decide +kernel
theorem dX6_carry_27 : decode cX6_carry 27 = .ok (.getfield 7, 3) := by decide +kernel
theorem dX6_carry_30 : decode cX6_carry 30 = .ok (.bipush 72, 2) := by decide +kernel
theorem dX6_carry_32 : decode cX6_carry 32 = .ok (.iload_n 2, 1) := by decide +kernel
theorem dX6_carry_33 : decode cX6_carry 33 = .ok (.iadd, 1) := by decide +kernel
theorem dX6_carry_34 : decode cX6_carry 34 = .ok (.iload 4, 2) := by decide +kernel
theorem dX6_carry_36 : decode cX6_carry 36 = .ok (.iastore, 1) := by decide +kernel
theorem dX6_carry_37 : decode cX6_carry 37 = .ok (.iload_n 2, 1) := by decide +kernel
theorem dX6_carry_38 : decode cX6_carry 38 = .ok (.iload 4, 2) := by decide +kernel
theorem dX6_carry_40 : decode cX6_carry 40 = .ok (.iload_n 1, 1) := by decide +kernel
theorem dX6_carry_41 : decode cX6_carry 41 = .ok (.if_icmp .ne 7, 3) := by decide +kernel
theorem dX6_carry_44 : decode cX6_carry 44 = .ok (.iconst 0, 1) := by decide +kernel
theorem dX6_carry_45 : decode cX6_carry 45 = .ok (.goto 4, 3) := by decide +kernel
theorem dX6_carry_48 : decode cX6_carry 48 = .ok (.iconst 1, 1) := by decide +kernel
theorem dX6_carry_49 : decode cX6_carry 49 = .ok (.iadd, 1) := by decide +kernel
theorem dX6_carry_50 : decode cX6_carry 50 = .ok (.istore_n 2, 1) := by decide +kernel
theorem dX6_carry_51 : decode cX6_carry 51 = .ok (.iinc 3 1, 3) := by decide +kernel
theorem dX6_carry_54 : decode cX6_carry 54 = .ok (.goto (-50), 3) := by decide +kernel
theorem dX6_carry_57 : decode cX6_carry 57 = .ok (.aload_n 0, 1) := by decide +kernel
theorem dX6_carry_58 : decode cX6_carry 58 = .ok (.getfield 7, 3) := by decide +kernel
theorem dX6_carry_61 : decode cX6_carry 61 = .ok (.bipush 6, 2) := by decide +kernel
theorem dX6_carry_63 : decode cX6_carry 63 = .ok (.dup2, 1) := by decide +kernel
theorem dX6_carry_64 : decode cX6_carry 64 = .ok (.iaload, 1) := by decide +kernel
theorem dX6_carry_65 : decode cX6_carry 65 = .ok (.iconst 1, 1) := by decide +kernel
theorem dX6_carry_66 : decode cX6_carry 66 = .ok (.isub, 1) := by decide +kernel
theorem dX6_carry_67 : decode cX6_carry 67 = .ok (.iastore, 1) := by decide +kernel
theorem dX6_carry_68 : decode cX6_carry 68 = .ok (.aload_n 0, 1) := by decide +kernel
theorem dX6_carry_69 : decode cX6_carry 69 = .ok (.aload_n 0, 1) := by decide +kernel
theorem dX6_carry_70 : decode cX6_carry 70 = .ok (.getfield 7, 3) := by decide +kernel
theorem dX6_carry_73 : decode cX6_carry 73 = .ok (.bipush 7, 2) := by decide +kernel
theorem dX6_carry_75 : decode cX6_carry 75 = .ok (.iaload, 1) := by decide +kernel
theorem dX6_carry_76 : decode cX6_carry 76 = .ok (.invokevirtual 85, 3) := by decide +kernel
theorem dX6_carry_79 : decode cX6_carry 79 = .ok (.iconst 1, 1) := by decide +kernel
theorem dX6_carry_80 : decode cX6_carry 80 = .ok (.iadd, 1) := by decide +kernel
theorem dX6_carry_81 : decode cX6_carry 81 = .ok (.istore_n 3, 1) := by decide +kernel
theorem dX6_carry_82 : decode cX6_carry 82 = .ok (.aload_n 0, 1) := by decide +kernel
theorem dX6_carry_83 : decode cX6_carry 83 = .ok (.getfield 7, 3) := by decide +kernel
theorem dX6_carry_86 : decode cX6_carry 86 = .ok (.bipush 6, 2) := by decide +kernel
theorem dX6_carry_88 : decode cX6_carry 88 = .ok (.iaload, 1) := by decide +kernel
theorem dX6_carry_89 : decode cX6_carry 89 = .ok (.istore 4, 2) := by decide +kernel
theorem dX6_carry_91 : decode cX6_carry 91 = .ok (.iload 4, 2) := by decide +kernel
theorem dX6_carry_93 : decode cX6_carry 93 = .ok (.iload_n 3, 1) := by decide +kernel
theorem dX6_carry_94 : decode cX6_carry 94 = .ok (.if_icmp .le 31, 3) := by decide +kernel
theorem dX6_carry_97 : decode cX6_carry 97 = .ok (.aload_n 0, 1) := by decide +kernel
theorem dX6_carry_98 : decode cX6_carry 98 = .ok (.getfield 7, 3) := by decide +kernel
theorem dX6_carry_101 : decode cX6_carry 101 = .ok (.bipush 72, 2) := by decide +kernel
theorem dX6_carry_103 : decode cX6_carry 103 = .ok (.iload 4, 2) := by decide +kernel
theorem dX6_carry_105 : decode cX6_carry 105 = .ok (.iadd, 1) := by decide +kernel
theorem dX6_carry_106 : decode cX6_carry 106 = .ok (.aload_n 0, 1) := by decide +kernel
theorem dX6_carry_107 : decode cX6_carry 107 = .ok (.getfield 7, 3) := by decide +kernel
theorem dX6_carry_110 : decode cX6_carry 110 = .ok (.bipush 72, 2) := by decide +kernel
theorem dX6_carry_112 : decode cX6_carry 112 = .ok (.iload 4, 2) := by decide +kernel
theorem dX6_carry_114 : decode cX6_carry 114 = .ok (.iadd, 1) := by decide +kernel
theorem dX6_carry_115 : decode cX6_carry 115 = .ok (.iconst 1, 1) := by decide +kernel
theorem dX6_carry_116 : decode cX6_carry 116 = .ok (.isub, 1) := by decide +kernel
theorem dX6_carry_117 : decode cX6_carry 117 = .ok (.iaload, 1) := by decide +kernel
theorem dX6_carry_118 : decode cX6_carry 118 = .ok (.iastore, 1) := by decide +kernel
theorem dX6_carry_119 : decode cX6_carry 119 = .ok (.iinc 4 (-1), 3) := by decide +kernel
theorem dX6_carry_122 : decode cX6_carry 122 = .ok (.goto (-31), 3) := by decide +kernel
theorem dX6_carry_125 : decode cX6_carry 125 = .ok (.aload_n 0, 1) := by decide +kernel
theorem dX6_carry_126 : decode cX6_carry 126 = .ok (.getfield 7, 3) := by decide +kernel
theorem dX6_carry_129 : decode cX6_carry 129 = .ok (.bipush 72, 2) := by decide +kernel
theorem dX6_carry_131 : decode cX6_carry 131 = .ok (.iload_n 3, 1) := by decide +kernel
theorem dX6_carry_132 : decode cX6_carry 132 = .ok (.iadd, 1) := by decide +kernel
theorem dX6_carry_133 : decode cX6_carry 133 = .ok (.iload_n 1, 1) := by decide +kernel
theorem dX6_carry_134 : decode cX6_carry 134 = .ok (.iastore, 1) := by decide +kernel
theorem dX6_carry_135 : decode cX6_carry 135 = .ok (.aload_n 0, 1) := by decide +kernel
theorem dX6_carry_136 : decode cX6_carry 136 = .ok (.getfield 7, 3) := by decide +kernel
theorem dX6_carry_139 : decode cX6_carry 139 = .ok (.bipush 6, 2) := by decide +kernel
theorem dX6_carry_141 : decode cX6_carry 141 = .ok (.dup2, 1) := by decide +kernel
theorem dX6_carry_142 : decode cX6_carry 142 = .ok (.iaload, 1) := by decide +kernel
theorem dX6_carry_143 : decode cX6_carry 143 = .ok (.iconst 1, 1) := by decide +kernel
theorem dX6_carry_144 : decode cX6_carry 144 = .ok (.iadd, 1) := by decide +kernel
theorem dX6_carry_145 : decode cX6_carry 145 = .ok (.iastore, 1) := by decide +kernel
theorem dX6_carry_146 : decode cX6_carry 146 = .ok (.return_, 1) := by decide +kernel
set_option maxRecDepth 20000 in
theorem ggX6_comesIn_X6_carry : GoodIn wsX6_comesIn wsX6_carry := goodIn_ca (goodIn_r _ [6, 1, 7, 8, 9, 5, 10, 15, 16, 17, 18, 19, 20, 21, 22, 23, 24, 25, 26] (by decide +kernel) (by decide +kernel)) (goodIn_sub (fun _ h => List.mem_cons_of_mem _ (List.mem_append_right _ h)) (by decide +kernel))
set_option maxRecDepth 20000 in
theorem gX6_comesIn_X6_carry : GoodIn wsX6_comesIn (wsV RX6 88 RX6 yX6_carry wsX6_carry) := goodIn_app (goodIn_of _ (by decide +kernel)) ggX6_comesIn_X6_carry
set_option maxRecDepth 20000 in
theorem ggX6_comesIn_X6_set : GoodIn wsX6_comesIn wsX6_set := goodIn_ca (goodIn_r _ [14, 1, 15, 16, 17, 18, 19, 20, 21, 22, 23, 24, 25, 26] (by decide +kernel) (by decide +kernel)) (goodIn_sub (fun _ h => List.mem_cons_of_mem _ (List.mem_append_right _ h)) (by decide +kernel))
set_option maxRecDepth 20000 in
theorem gX6_comesIn_X6_set : GoodIn wsX6_comesIn (wsV RX6 51 RX6 yX6_set wsX6_set) := goodIn_app (goodIn_of _ (by decide +kernel)) ggX6_comesIn_X6_set
set_option maxRecDepth 20000 in
theorem ggX6_comesIn_X6_placeOf : GoodIn wsX6_comesIn wsX6_placeOf := goodIn_ca (goodIn_r _ [10, 1, 15, 16, 17, 18, 19, 20, 21, 22, 23, 24, 25, 26] (by decide +kernel) (by decide +kernel)) (goodIn_sub (fun _ h => List.mem_cons_of_mem _ (List.mem_append_right _ h)) (by decide +kernel))
set_option maxRecDepth 20000 in
theorem gX6_comesIn_X6_placeOf : GoodIn wsX6_comesIn (wsV RX6 85 RX6 yX6_placeOf wsX6_placeOf) := goodIn_app (goodIn_of _ (by decide +kernel)) ggX6_comesIn_X6_placeOf
theorem dX6_comesIn_0 : decode cX6_comesIn 0 = .ok (.aload_n 0, 1) := by decide +kernel
theorem dX6_comesIn_1 : decode cX6_comesIn 1 = .ok (.getfield 7, 3) := by decide +kernel
theorem dX6_comesIn_4 : decode cX6_comesIn 4 = .ok (.bipush 7, 2) := by decide +kernel
theorem dX6_comesIn_6 : decode cX6_comesIn 6 = .ok (.iaload, 1) := by decide +kernel
theorem dX6_comesIn_7 : decode cX6_comesIn 7 = .ok (.iload_n 1, 1) := by decide +kernel
theorem dX6_comesIn_8 : decode cX6_comesIn 8 = .ok (.if_icmp .eq 8, 3) := by decide +kernel
theorem dX6_comesIn_11 : decode cX6_comesIn 11 = .ok (.aload_n 0, 1) := by decide +kernel
theorem dX6_comesIn_12 : decode cX6_comesIn 12 = .ok (.iload_n 1, 1) := by decide +kernel
theorem dX6_comesIn_13 : decode cX6_comesIn 13 = .ok (.invokevirtual 88, 3) := by decide +kernel
theorem dX6_comesIn_16 : decode cX6_comesIn 16 = .ok (.aload_n 0, 1) := by decide +kernel
theorem dX6_comesIn_17 : decode cX6_comesIn 17 = .ok (.getfield 7, 3) := by decide +kernel
theorem dX6_comesIn_20 : decode cX6_comesIn 20 = .ok (.bipush 7, 2) := by decide +kernel
theorem dX6_comesIn_22 : decode cX6_comesIn 22 = .ok (.iload_n 1, 1) := by decide +kernel
theorem dX6_comesIn_23 : decode cX6_comesIn 23 = .ok (.iastore, 1) := by decide +kernel
theorem dX6_comesIn_24 : decode cX6_comesIn 24 = .ok (.aload_n 0, 1) := by decide +kernel
theorem dX6_comesIn_25 : decode cX6_comesIn 25 = .ok (.getfield 7, 3) := by decide +kernel
theorem dX6_comesIn_28 : decode cX6_comesIn 28 = .ok (.iconst 4, 1) := by decide +kernel
theorem dX6_comesIn_29 : decode cX6_comesIn 29 = .ok (.iload_n 1, 1) := by decide +kernel
theorem dX6_comesIn_30 : decode cX6_comesIn 30 = .ok (.iastore, 1) := by decide +kernel
theorem dX6_comesIn_31 : decode cX6_comesIn 31 = .ok (.aload_n 0, 1) := by decide +kernel
theorem dX6_comesIn_32 : decode cX6_comesIn 32 = .ok (.getfield 7, 3) := by decide +kernel
theorem dX6_comesIn_35 : decode cX6_comesIn 35 = .ok (.iconst 5, 1) := by decide +kernel
theorem dX6_comesIn_36 : decode cX6_comesIn 36 = .ok (.iconst 0, 1) := by decide +kernel
theorem dX6_comesIn_37 : decode cX6_comesIn 37 = .ok (.iastore, 1) := by decide +kernel
theorem dX6_comesIn_38 : decode cX6_comesIn 38 = .ok (.aload_n 0, 1) := by decide +kernel
theorem dX6_comesIn_39 : decode cX6_comesIn 39 = .ok (.iload_n 1, 1) := by decide +kernel
theorem dX6_comesIn_40 : decode cX6_comesIn 40 = .ok (.iconst 4, 1) := by decide +kernel
theorem dX6_comesIn_41 : decode cX6_comesIn 41 = .ok (.iconst 1, 1) := by decide +kernel
theorem dX6_comesIn_42 : decode cX6_comesIn 42 = .ok (.invokevirtual 51, 3) := by decide +kernel
theorem dX6_comesIn_45 : decode cX6_comesIn 45 = .ok (.aload_n 0, 1) := by decide +kernel
theorem dX6_comesIn_46 : decode cX6_comesIn 46 = .ok (.iload_n 1, 1) := by decide +kernel
theorem dX6_comesIn_47 : decode cX6_comesIn 47 = .ok (.invokevirtual 85, 3) := by decide +kernel
theorem dX6_comesIn_50 : decode cX6_comesIn 50 = .ok (.ireturn, 1) := by decide +kernel
theorem dX6_ofAct_0 : decode cX6_ofAct 0 = .ok (.aload_n 0, 1) := by decide +kernel
theorem dX6_ofAct_1 : decode cX6_ofAct 1 = .ok (.getfield 7, 3) := by decide +kernel
theorem dX6_ofAct_4 : decode cX6_ofAct 4 = .ok (.sipush 322, 3) := by decide +kernel
theorem dX6_ofAct_7 : decode cX6_ofAct 7 = .ok (.bipush 7, 2) := by decide +kernel
theorem dX6_ofAct_9 : decode cX6_ofAct 9 = .ok (.iload_n 1, 1) := by decide +kernel
theorem dX6_ofAct_10 : decode cX6_ofAct 10 = .ok (.imul, 1) := by decide +kernel
theorem dX6_ofAct_11 : decode cX6_ofAct 11 = .ok (.iadd, 1) := by decide +kernel
theorem dX6_ofAct_12 : decode cX6_ofAct 12 = .ok (.iload_n 2, 1) := by decide +kernel
theorem dX6_ofAct_13 : decode cX6_ofAct 13 = .ok (.iadd, 1) := by decide +kernel
theorem dX6_ofAct_14 : decode cX6_ofAct 14 = .ok (.iaload, 1) := by decide +kernel
theorem dX6_ofAct_15 : decode cX6_ofAct 15 = .ok (.ireturn, 1) := by decide +kernel
set_option maxRecDepth 20000 in
theorem ggX6_canAnswer_X6_in : GoodIn wsX6_canAnswer wsX6_in := goodIn_r _ [5] (by decide +kernel) (by decide +kernel)
set_option maxRecDepth 20000 in
theorem gX6_canAnswer_X6_in : GoodIn wsX6_canAnswer (va_wsS RX6 29 yX6_in wsX6_in) := goodIn_app (goodIn_of _ (by decide +kernel)) ggX6_canAnswer_X6_in
set_option maxRecDepth 20000 in
theorem ggX6_canAnswer_X6_stands : GoodIn wsX6_canAnswer wsX6_stands := goodIn_ca (goodIn_r _ [9, 10, 11, 12, 4, 13, 1, 18, 19, 20, 21, 22, 23, 24, 25, 26, 27, 28, 29] (by decide +kernel) (by decide +kernel)) (goodIn_sub (fun _ h => List.mem_cons_of_mem _ (List.mem_append_right _ h)) (by decide +kernel))
set_option maxRecDepth 20000 in
theorem gX6_canAnswer_X6_stands : GoodIn wsX6_canAnswer (wsV RX6 55 RX6 yX6_stands wsX6_stands) := goodIn_app (goodIn_of _ (by decide +kernel)) ggX6_canAnswer_X6_stands
set_option maxRecDepth 20000 in
theorem ggX6_canAnswer_X6_of : GoodIn wsX6_canAnswer wsX6_of := goodIn_ca (goodIn_r _ [13, 1, 18, 19, 20, 21, 22, 23, 24, 25, 26, 27, 28, 29] (by decide +kernel) (by decide +kernel)) (goodIn_sub (fun _ h => List.mem_cons_of_mem _ (List.mem_append_right _ h)) (by decide +kernel))
set_option maxRecDepth 20000 in
theorem gX6_canAnswer_X6_of : GoodIn wsX6_canAnswer (wsV RX6 33 RX6 yX6_of wsX6_of) := goodIn_app (goodIn_of _ (by decide +kernel)) ggX6_canAnswer_X6_of
set_option maxRecDepth 20000 in
theorem ggX6_canAnswer_X6_ofAct : GoodIn wsX6_canAnswer wsX6_ofAct := goodIn_ca (goodIn_r _ [17, 1, 18, 19, 20, 21, 22, 23, 24, 25, 26, 27, 28, 29] (by decide +kernel) (by decide +kernel)) (goodIn_sub (fun _ h => List.mem_cons_of_mem _ (List.mem_append_right _ h)) (by decide +kernel))
set_option maxRecDepth 20000 in
theorem gX6_canAnswer_X6_ofAct : GoodIn wsX6_canAnswer (wsV RX6 91 RX6 yX6_ofAct wsX6_ofAct) := goodIn_app (goodIn_of _ (by decide +kernel)) ggX6_canAnswer_X6_ofAct
theorem dX6_canAnswer_0 : decode cX6_canAnswer 0 = .ok (.aload_n 0, 1) := by decide +kernel
