set_option maxRecDepth 20000 in
theorem ggX3_init_X4_init : GoodIn wsX3_init wsX4_init := goodIn_r _ [11, 12, 2, 3, 13, 14, 15, 16, 17, 18, 19, 20, 21, 22, 23] (by decide +kernel) (by decide +kernel)
set_option maxRecDepth 20000 in
theorem gX3_init_X4_init : GoodIn wsX3_init (wsX4_init) := ggX3_init_X4_init
theorem dX3_init_0 : decode cX3_init 0 = .ok (.aload_n 0, 1) := by decide +kernel
theorem dX3_init_1 : decode cX3_init 1 = .ok (.invokespecial 3, 3) := by decide +kernel
theorem dX3_init_4 : decode cX3_init 4 = .ok (.aload_n 0, 1) := by decide +kernel
theorem dX3_init_5 : decode cX3_init 5 = .ok (.new 9, 3) := by decide +kernel
theorem dX3_init_8 : decode cX3_init 8 = .ok (.dup, 1) := by decide +kernel
theorem dX3_init_9 : decode cX3_init 9 = .ok (.bipush 120, 2) := by decide +kernel
theorem dX3_init_11 : decode cX3_init 11 = .ok (.iconst 1, 1) := by decide +kernel
theorem dX3_init_12 : decode cX3_init 12 = .ok (.invokespecial 11, 3) := by decide +kernel
theorem dX3_init_15 : decode cX3_init 15 = .ok (.putfield 14, 3) := by decide +kernel
theorem dX3_init_18 : decode cX3_init 18 = .ok (.aload_n 0, 1) := by decide +kernel
theorem dX3_init_19 : decode cX3_init 19 = .ok (.new 9, 3) := by decide +kernel
theorem dX3_init_22 : decode cX3_init 22 = .ok (.dup, 1) := by decide +kernel
theorem dX3_init_23 : decode cX3_init 23 = .ok (.bipush 60, 2) := by decide +kernel
theorem dX3_init_25 : decode cX3_init 25 = .ok (.iconst 3, 1) := by decide +kernel
theorem dX3_init_26 : decode cX3_init 26 = .ok (.invokespecial 11, 3) := by decide +kernel
theorem dX3_init_29 : decode cX3_init 29 = .ok (.putfield 20, 3) := by decide +kernel
theorem dX3_init_32 : decode cX3_init 32 = .ok (.return_, 1) := by decide +kernel
set_option maxRecDepth 20000 in
theorem ggX3_length_X4_count : GoodIn wsX3_length wsX4_count := goodIn_r _ [6, 7, 10, 11, 12] (by decide +kernel) (by decide +kernel)
set_option maxRecDepth 20000 in
theorem gX3_length_X4_count : GoodIn wsX3_length (wsV RX3 23 RX4 yX4_count wsX4_count) := goodIn_app (goodIn_of _ (by decide +kernel)) ggX3_length_X4_count
theorem dX3_length_0 : decode cX3_length 0 = .ok (.aload_n 0, 1) := by decide +kernel
theorem dX3_length_1 : decode cX3_length 1 = .ok (.getfield 14, 3) := by decide +kernel
theorem dX3_length_4 : decode cX3_length 4 = .ok (.invokevirtual 23, 3) := by decide +kernel
theorem dX3_length_7 : decode cX3_length 7 = .ok (.ireturn, 1) := by decide +kernel
set_option maxRecDepth 20000 in
theorem ggX3_lengthen_X4_count : GoodIn wsX3_lengthen wsX4_count := goodIn_r _ [6, 7, 37, 38, 39] (by decide +kernel) (by decide +kernel)
set_option maxRecDepth 20000 in
theorem gX3_lengthen_X4_count : GoodIn wsX3_lengthen (wsV RX3 23 RX4 yX4_count wsX4_count) := goodIn_app (goodIn_of _ (by decide +kernel)) ggX3_lengthen_X4_count
set_option maxRecDepth 20000 in
theorem ggX3_lengthen_X4_insert : GoodIn wsX3_lengthen wsX4_insert := goodIn_r _ [11, 7, 12, 13, 14, 15, 16, 17, 18, 19, 20, 21, 22, 23, 24, 25, 26, 27, 28, 29, 30, 37, 38, 39, 40, 41, 42, 43, 44, 45, 46, 47, 48, 49] (by decide +kernel) (by decide +kernel)
set_option maxRecDepth 20000 in
theorem gX3_lengthen_X4_insert : GoodIn wsX3_lengthen (wsV RX3 27 RX4 yX4_insert wsX4_insert) := goodIn_app (goodIn_of _ (by decide +kernel)) ggX3_lengthen_X4_insert
set_option maxRecDepth 20000 in
theorem ggX3_lengthen_X4_put : GoodIn wsX3_lengthen wsX4_put := goodIn_ca (goodIn_r _ [34, 7, 12, 13, 37, 38, 39] (by decide +kernel) (by decide +kernel)) (goodIn_sub (fun _ h => List.mem_cons_of_mem _ (List.mem_append_right _ h)) (by decide +kernel))
set_option maxRecDepth 20000 in
theorem gX3_lengthen_X4_put : GoodIn wsX3_lengthen (wsV RX3 31 RX4 yX4_put wsX4_put) := goodIn_app (goodIn_of _ (by decide +kernel)) ggX3_lengthen_X4_put
theorem dX3_lengthen_0 : decode cX3_lengthen 0 = .ok (.aload_n 0, 1) := by decide +kernel
theorem dX3_lengthen_1 : decode cX3_lengthen 1 = .ok (.getfield 14, 3) := by decide +kernel
theorem dX3_lengthen_4 : decode cX3_lengthen 4 = .ok (.invokevirtual 23, 3) := by decide +kernel
theorem dX3_lengthen_7 : decode cX3_lengthen 7 = .ok (.istore_n 2, 1) := by decide +kernel
theorem dX3_lengthen_8 : decode cX3_lengthen 8 = .ok (.aload_n 0, 1) := by decide +kernel
theorem dX3_lengthen_9 : decode cX3_lengthen 9 = .ok (.getfield 14, 3) := by decide +kernel
theorem dX3_lengthen_12 : decode cX3_lengthen 12 = .ok (.iload_n 2, 1) := by decide +kernel
theorem dX3_lengthen_13 : decode cX3_lengthen 13 = .ok (.invokevirtual 27, 3) := by decide +kernel
theorem dX3_lengthen_16 : decode cX3_lengthen 16 = .ok (.aload_n 0, 1) := by decide +kernel
theorem dX3_lengthen_17 : decode cX3_lengthen 17 = .ok (.getfield 14, 3) := by decide +kernel
theorem dX3_lengthen_20 : decode cX3_lengthen 20 = .ok (.iload_n 2, 1) := by decide +kernel
theorem dX3_lengthen_21 : decode cX3_lengthen 21 = .ok (.iconst 0, 1) := by decide +kernel
theorem dX3_lengthen_22 : decode cX3_lengthen 22 = .ok (.iload_n 1, 1) := by decide +kernel
theorem dX3_lengthen_23 : decode cX3_lengthen 23 = .ok (.invokevirtual 31, 3) := by decide +kernel
theorem dX3_lengthen_26 : decode cX3_lengthen 26 = .ok (.aload_n 0, 1) := by decide +kernel
theorem dX3_lengthen_27 : decode cX3_lengthen 27 = .ok (.getfield 14, 3) := by decide +kernel
theorem dX3_lengthen_30 : decode cX3_lengthen 30 = .ok (.invokevirtual 23, 3) := by decide +kernel
theorem dX3_lengthen_33 : decode cX3_lengthen 33 = .ok (.ireturn, 1) := by decide +kernel
set_option maxRecDepth 20000 in
theorem ggX3_wipe_X4_count : GoodIn wsX3_wipe wsX4_count := goodIn_r _ [6, 7, 14, 15, 16] (by decide +kernel) (by decide +kernel)
set_option maxRecDepth 20000 in
theorem gX3_wipe_X4_count : GoodIn wsX3_wipe (wsV RX3 23 RX4 yX4_count wsX4_count) := goodIn_app (goodIn_of _ (by decide +kernel)) ggX3_wipe_X4_count
set_option maxRecDepth 20000 in
theorem ggX3_wipe_X4_clear : GoodIn wsX3_wipe wsX4_clear := goodIn_r _ [11, 7, 14, 15, 16] (by decide +kernel) (by decide +kernel)
set_option maxRecDepth 20000 in
theorem gX3_wipe_X4_clear : GoodIn wsX3_wipe (wsV RX3 35 RX4 yX4_clear wsX4_clear) := goodIn_app (goodIn_of _ (by decide +kernel)) ggX3_wipe_X4_clear
theorem dX3_wipe_0 : decode cX3_wipe 0 = .ok (.aload_n 0, 1) := by decide +kernel
theorem dX3_wipe_1 : decode cX3_wipe 1 = .ok (.getfield 14, 3) := by decide +kernel
theorem dX3_wipe_4 : decode cX3_wipe 4 = .ok (.invokevirtual 23, 3) := by decide +kernel
theorem dX3_wipe_7 : decode cX3_wipe 7 = .ok (.istore_n 1, 1) := by decide +kernel
theorem dX3_wipe_8 : decode cX3_wipe 8 = .ok (.aload_n 0, 1) := by decide +kernel
theorem dX3_wipe_9 : decode cX3_wipe 9 = .ok (.getfield 14, 3) := by decide +kernel
theorem dX3_wipe_12 : decode cX3_wipe 12 = .ok (.invokevirtual 35, 3) := by decide +kernel
theorem dX3_wipe_15 : decode cX3_wipe 15 = .ok (.iload_n 1, 1) := by decide +kernel
theorem dX3_wipe_16 : decode cX3_wipe 16 = .ok (.ireturn, 1) := by decide +kernel
set_option maxRecDepth 20000 in
theorem ggX3_commandCount_X4_count : GoodIn wsX3_commandCount wsX4_count := goodIn_r _ [6, 7, 10, 11, 12] (by decide +kernel) (by decide +kernel)
set_option maxRecDepth 20000 in
theorem gX3_commandCount_X4_count : GoodIn wsX3_commandCount (wsV RX3 23 RX4 yX4_count wsX4_count) := goodIn_app (goodIn_of _ (by decide +kernel)) ggX3_commandCount_X4_count
theorem dX3_commandCount_0 : decode cX3_commandCount 0 = .ok (.aload_n 0, 1) := by decide +kernel
theorem dX3_commandCount_1 : decode cX3_commandCount 1 = .ok (.getfield 20, 3) := by decide +kernel
theorem dX3_commandCount_4 : decode cX3_commandCount 4 = .ok (.invokevirtual 23, 3) := by decide +kernel
theorem dX3_commandCount_7 : decode cX3_commandCount 7 = .ok (.ireturn, 1) := by decide +kernel
set_option maxRecDepth 20000 in
theorem ggX3_read_X4_clear : GoodIn wsX3_read wsX4_clear := goodIn_r _ [7, 8, 63, 64, 65] (by decide +kernel) (by decide +kernel)
set_option maxRecDepth 20000 in
theorem gX3_read_X4_clear : GoodIn wsX3_read (wsV RX3 35 RX4 yX4_clear wsX4_clear) := goodIn_app (goodIn_of _ (by decide +kernel)) ggX3_read_X4_clear
set_option maxRecDepth 20000 in
theorem ggX3_read_X4_count : GoodIn wsX3_read wsX4_count := goodIn_r _ [12, 8, 63, 64, 65] (by decide +kernel) (by decide +kernel)
set_option maxRecDepth 20000 in
theorem gX3_read_X4_count : GoodIn wsX3_read (wsV RX3 23 RX4 yX4_count wsX4_count) := goodIn_app (goodIn_of _ (by decide +kernel)) ggX3_read_X4_count
set_option maxRecDepth 20000 in
theorem ggX3_read_X4_at : GoodIn wsX3_read wsX4_at := goodIn_ca (goodIn_r _ [16, 8, 17, 18, 63, 64, 65] (by decide +kernel) (by decide +kernel)) (goodIn_sub (fun _ h => List.mem_cons_of_mem _ (List.mem_append_right _ h)) (by decide +kernel))
set_option maxRecDepth 20000 in
theorem gX3_read_X4_at : GoodIn wsX3_read (wsV RX3 38 RX4 yX4_at wsX4_at) := goodIn_app (goodIn_of _ (by decide +kernel)) ggX3_read_X4_at
set_option maxRecDepth 20000 in
theorem ggX3_read_X3_wantBehind : GoodIn wsX3_read wsX3_wantBehind := goodIn_r _ [22, 23, 24, 21, 25, 26, 27, 28, 29, 30, 31] (by decide +kernel) (by decide +kernel)
set_option maxRecDepth 20000 in
theorem gX3_read_X3_wantBehind : GoodIn wsX3_read (va_wsS RX3 42 yX3_wantBehind wsX3_wantBehind) := goodIn_app (goodIn_of _ (by decide +kernel)) ggX3_read_X3_wantBehind
set_option maxRecDepth 20000 in
theorem ggX3_read_X3_note : GoodIn wsX3_read wsX3_note := goodIn_ca (goodIn_r _ [35, 1, 9, 10, 11, 6, 12, 8, 36, 37, 38, 39, 17, 18, 40, 41, 42, 43, 44, 45, 46, 47, 48, 49, 50, 51, 52, 53, 54, 55, 56, 57, 58, 59, 60, 26, 27, 21, 28, 13, 14, 15, 16, 61, 62, 63, 64, 65, 66, 67, 68, 69, 70, 71, 72, 73, 74, 75] (by decide +kernel) (by decide +kernel)) (goodIn_sub (fun _ h => List.mem_cons_of_mem _ (List.mem_append_right _ h)) (by decide +kernel))
set_option maxRecDepth 20000 in
theorem gX3_read_X3_note : GoodIn wsX3_read (wsV RX3 45 RX3 yX3_note wsX3_note) := goodIn_app (goodIn_of _ (by decide +kernel)) ggX3_read_X3_note
theorem dX3_read_0 : decode cX3_read 0 = .ok (.aload_n 0, 1) := by decide +kernel
theorem dX3_read_1 : decode cX3_read 1 = .ok (.getfield 20, 3) := by decide +kernel
theorem dX3_read_4 : decode cX3_read 4 = .ok (.invokevirtual 35, 3) := by decide +kernel
theorem dX3_read_7 : decode cX3_read 7 = .ok (.iconst 0, 1) := by decide +kernel
theorem dX3_read_8 : decode cX3_read 8 = .ok (.istore_n 1, 1) := by decide +kernel
theorem dX3_read_9 : decode cX3_read 9 = .ok (.iconst 0, 1) := by decide +kernel
theorem dX3_read_10 : decode cX3_read 10 = .ok (.istore_n 2, 1) := by decide +kernel
theorem dX3_read_11 : decode cX3_read 11 = .ok (.iload_n 2, 1) := by decide +kernel
theorem dX3_read_12 : decode cX3_read 12 = .ok (.aload_n 0, 1) := by decide +kernel
theorem dX3_read_13 : decode cX3_read 13 = .ok (.getfield 14, 3) := by decide +kernel
theorem dX3_read_16 : decode cX3_read 16 = .ok (.invokevirtual 23, 3) := by decide +kernel
theorem dX3_read_19 : decode cX3_read 19 = .ok (.if_icmp .ge 43, 3) := by decide +kernel
theorem dX3_read_22 : decode cX3_read 22 = .ok (.aload_n 0, 1) := by decide +kernel
theorem dX3_read_23 : decode cX3_read 23 = .ok (.getfield 14, 3) := by decide +kernel
theorem dX3_read_26 : decode cX3_read 26 = .ok (.iload_n 2, 1) := by decide +kernel
theorem dX3_read_27 : decode cX3_read 27 = .ok (.iconst 0, 1) := by decide +kernel
theorem dX3_read_28 : decode cX3_read 28 = .ok (.invokevirtual 38, 3) := by decide +kernel
theorem dX3_read_31 : decode cX3_read 31 = .ok (.istore_n 3, 1) := by decide +kernel
theorem dX3_read_32 : decode cX3_read 32 = .ok (.iload_n 1, 1) := by decide +kernel
theorem dX3_read_33 : decode cX3_read 33 = .ok (.iload_n 3, 1) := by decide +kernel
theorem dX3_read_34 : decode cX3_read 34 = .ok (.invokestatic 42, 3) := by decide +kernel
theorem dX3_read_37 : decode cX3_read 37 = .ok (.istore 4, 2) := by decide +kernel
theorem dX3_read_39 : decode cX3_read 39 = .ok (.iload 4, 2) := by decide +kernel
theorem dX3_read_41 : decode cX3_read 41 = .ok (.iconst (-1), 1) := by decide +kernel
theorem dX3_read_42 : decode cX3_read 42 = .ok (.if_icmp .ne 5, 3) := by decide +kernel
theorem dX3_read_45 : decode cX3_read 45 = .ok (.iload_n 2, 1) := by decide +kernel
theorem dX3_read_46 : decode cX3_read 46 = .ok (.ireturn, 1) := by decide +kernel
theorem dX3_read_47 : decode cX3_read 47 = .ok (.aload_n 0, 1) := by decide +kernel
theorem dX3_read_48 : decode cX3_read 48 = .ok (.iload_n 1, 1) := by decide +kernel
theorem dX3_read_49 : decode cX3_read 49 = .ok (.iload_n 3, 1) := by decide +kernel
theorem dX3_read_50 : decode cX3_read 50 = .ok (.invokevirtual 45, 3) := by decide +kernel
theorem dX3_read_53 : decode cX3_read 53 = .ok (.iload 4, 2) := by decide +kernel
theorem dX3_read_55 : decode cX3_read 55 = .ok (.istore_n 1, 1) := by decide +kernel
theorem dX3_read_56 : decode cX3_read 56 = .ok (.iinc 2 1, 3) := by decide +kernel
theorem dX3_read_59 : decode cX3_read 59 = .ok (.goto (-48), 3) := by decide +kernel
theorem dX3_read_62 : decode cX3_read 62 = .ok (.iload_n 1, 1) := by decide +kernel
theorem dX3_read_63 : decode cX3_read 63 = .ok (.ifCond .ne 7, 3) := by decide +kernel
theorem dX3_read_66 : decode cX3_read 66 = .ok (.iconst (-1), 1) := by decide +kernel
theorem dX3_read_67 : decode cX3_read 67 = .ok (.goto 10, 3) := by decide +kernel
theorem dX3_read_70 : decode cX3_read 70 = .ok (.aload_n 0, 1) := by decide +kernel
theorem dX3_read_71 : decode cX3_read 71 = .ok (.getfield 14, 3) := by decide +kernel
theorem dX3_read_74 : decode cX3_read 74 = .ok (.invokevirtual 23, 3) := by decide +kernel
theorem dX3_read_77 : decode cX3_read 77 = .ok (.ireturn, 1) := by decide +kernel
set_option maxRecDepth 20000 in
theorem ggX3_wantBehind_X3_wantBehindLetter : GoodIn wsX3_wantBehind wsX3_wantBehindLetter := goodIn_r _ [4] (by decide +kernel) (by decide +kernel)
set_option maxRecDepth 20000 in
theorem gX3_wantBehind_X3_wantBehindLetter : GoodIn wsX3_wantBehind (va_wsS RX3 48 yX3_wantBehindLetter wsX3_wantBehindLetter) := goodIn_app (goodIn_of _ (by decide +kernel)) ggX3_wantBehind_X3_wantBehindLetter
set_option maxRecDepth 20000 in
theorem ggX3_wantBehind_X3_isDigit : GoodIn wsX3_wantBehind wsX3_isDigit := goodIn_r _ [7] (by decide +kernel) (by decide +kernel)
set_option maxRecDepth 20000 in
theorem gX3_wantBehind_X3_isDigit : GoodIn wsX3_wantBehind (va_wsS RX3 52 yX3_isDigit wsX3_isDigit) := goodIn_app (goodIn_of _ (by decide +kernel)) ggX3_wantBehind_X3_isDigit
set_option maxRecDepth 20000 in
theorem ggX3_wantBehind_X3_wantBehindEnd : GoodIn wsX3_wantBehind wsX3_wantBehindEnd := goodIn_r _ [10] (by decide +kernel) (by decide +kernel)
set_option maxRecDepth 20000 in
theorem gX3_wantBehind_X3_wantBehindEnd : GoodIn wsX3_wantBehind (va_wsS RX3 56 yX3_wantBehindEnd wsX3_wantBehindEnd) := goodIn_app (goodIn_of _ (by decide +kernel)) ggX3_wantBehind_X3_wantBehindEnd
theorem dX3_wantBehind_0 : decode cX3_wantBehind 0 = .ok (.iload_n 0, 1) := by decide +kernel
theorem dX3_wantBehind_1 : decode cX3_wantBehind 1 = .ok (.tableswitch 113 0 5 #[39, 44, 58, 71, 83, 96], 39) := by decide +kernel
theorem dX3_wantBehind_40 : decode cX3_wantBehind 40 = .ok (.iload_n 1, 1) := by decide +kernel
theorem dX3_wantBehind_41 : decode cX3_wantBehind 41 = .ok (.invokestatic 48, 3) := by decide +kernel
theorem dX3_wantBehind_44 : decode cX3_wantBehind 44 = .ok (.ireturn, 1) := by decide +kernel
theorem dX3_wantBehind_45 : decode cX3_wantBehind 45 = .ok (.iload_n 1, 1) := by decide +kernel
theorem dX3_wantBehind_46 : decode cX3_wantBehind 46 = .ok (.invokestatic 52, 3) := by decide +kernel
theorem dX3_wantBehind_49 : decode cX3_wantBehind 49 = .ok (.ifCond .eq 8, 3) := by decide +kernel
theorem dX3_wantBehind_52 : decode cX3_wantBehind 52 = .ok (.bipush 6, 2) := by decide +kernel
theorem dX3_wantBehind_54 : decode cX3_wantBehind 54 = .ok (.goto 4, 3) := by decide +kernel
theorem dX3_wantBehind_57 : decode cX3_wantBehind 57 = .ok (.iconst (-1), 1) := by decide +kernel
theorem dX3_wantBehind_58 : decode cX3_wantBehind 58 = .ok (.ireturn, 1) := by decide +kernel
theorem dX3_wantBehind_59 : decode cX3_wantBehind 59 = .ok (.iload_n 1, 1) := by decide +kernel
theorem dX3_wantBehind_60 : decode cX3_wantBehind 60 = .ok (.invokestatic 52, 3) := by decide +kernel
theorem dX3_wantBehind_63 : decode cX3_wantBehind 63 = .ok (.ifCond .eq 7, 3) := by decide +kernel
theorem dX3_wantBehind_66 : decode cX3_wantBehind 66 = .ok (.iconst 3, 1) := by decide +kernel
theorem dX3_wantBehind_67 : decode cX3_wantBehind 67 = .ok (.goto 4, 3) := by decide +kernel
theorem dX3_wantBehind_70 : decode cX3_wantBehind 70 = .ok (.iconst (-1), 1) := by decide +kernel
theorem dX3_wantBehind_71 : decode cX3_wantBehind 71 = .ok (.ireturn, 1) := by decide +kernel
theorem dX3_wantBehind_72 : decode cX3_wantBehind 72 = .ok (.iload_n 1, 1) := by decide +kernel
theorem dX3_wantBehind_73 : decode cX3_wantBehind 73 = .ok (.bipush 44, 2) := by decide +kernel
theorem dX3_wantBehind_75 : decode cX3_wantBehind 75 = .ok (.if_icmp .ne 7, 3) := by decide +kernel
theorem dX3_wantBehind_78 : decode cX3_wantBehind 78 = .ok (.iconst 4, 1) := by decide +kernel
theorem dX3_wantBehind_79 : decode cX3_wantBehind 79 = .ok (.goto 4, 3) := by decide +kernel
theorem dX3_wantBehind_82 : decode cX3_wantBehind 82 = .ok (.iconst (-1), 1) := by decide +kernel
theorem dX3_wantBehind_83 : decode cX3_wantBehind 83 = .ok (.ireturn, 1) := by decide +kernel
theorem dX3_wantBehind_84 : decode cX3_wantBehind 84 = .ok (.iload_n 1, 1) := by decide +kernel
theorem dX3_wantBehind_85 : decode cX3_wantBehind 85 = .ok (.invokestatic 52, 3) := by decide +kernel
theorem dX3_wantBehind_88 : decode cX3_wantBehind 88 = .ok (.ifCond .eq 7, 3) := by decide +kernel
theorem dX3_wantBehind_91 : decode cX3_wantBehind 91 = .ok (.iconst 5, 1) := by decide +kernel
theorem dX3_wantBehind_92 : decode cX3_wantBehind 92 = .ok (.goto 4, 3) := by decide +kernel
theorem dX3_wantBehind_95 : decode cX3_wantBehind 95 = .ok (.iconst (-1), 1) := by decide +kernel
theorem dX3_wantBehind_96 : decode cX3_wantBehind 96 = .ok (.ireturn, 1) := by decide +kernel
theorem dX3_wantBehind_97 : decode cX3_wantBehind 97 = .ok (.iload_n 1, 1) := by decide +kernel
theorem dX3_wantBehind_98 : decode cX3_wantBehind 98 = .ok (.invokestatic 52, 3) := by decide +kernel
theorem dX3_wantBehind_101 : decode cX3_wantBehind 101 = .ok (.ifCond .eq 8, 3) := by decide +kernel
theorem dX3_wantBehind_104 : decode cX3_wantBehind 104 = .ok (.bipush 6, 2) := by decide +kernel
theorem dX3_wantBehind_106 : decode cX3_wantBehind 106 = .ok (.goto 7, 3) := by decide +kernel
theorem dX3_wantBehind_109 : decode cX3_wantBehind 109 = .ok (.iload_n 1, 1) := by decide +kernel
theorem dX3_wantBehind_110 : decode cX3_wantBehind 110 = .ok (.invokestatic 56, 3) := by decide +kernel
theorem dX3_wantBehind_113 : decode cX3_wantBehind 113 = .ok (.ireturn, 1) := by decide +kernel
theorem dX3_wantBehind_114 : decode cX3_wantBehind 114 = .ok (.iload_n 1, 1) := by decide +kernel
theorem dX3_wantBehind_115 : decode cX3_wantBehind 115 = .ok (.invokestatic 56, 3) := by decide +kernel
theorem dX3_wantBehind_118 : decode cX3_wantBehind 118 = .ok (.ireturn, 1) := by decide +kernel
theorem dX3_wantBehindLetter_0 : decode cX3_wantBehindLetter 0 = .ok (.iload_n 0, 1) := by decide +kernel
theorem dX3_wantBehindLetter_1 : decode cX3_wantBehindLetter 1 = .ok (.tableswitch 90 99 115 #[86, 83, 83, 90, 90, 88, 90, 90, 90, 90, 90, 83, 90, 90, 90, 83, 88], 83) := by decide +kernel
theorem dX3_wantBehindLetter_84 : decode cX3_wantBehindLetter 84 = .ok (.bipush 6, 2) := by decide +kernel
theorem dX3_wantBehindLetter_86 : decode cX3_wantBehindLetter 86 = .ok (.ireturn, 1) := by decide +kernel
theorem dX3_wantBehindLetter_87 : decode cX3_wantBehindLetter 87 = .ok (.iconst 1, 1) := by decide +kernel
theorem dX3_wantBehindLetter_88 : decode cX3_wantBehindLetter 88 = .ok (.ireturn, 1) := by decide +kernel
theorem dX3_wantBehindLetter_89 : decode cX3_wantBehindLetter 89 = .ok (.iconst 2, 1) := by decide +kernel
theorem dX3_wantBehindLetter_90 : decode cX3_wantBehindLetter 90 = .ok (.ireturn, 1) := by decide +kernel
theorem dX3_wantBehindLetter_91 : decode cX3_wantBehindLetter 91 = .ok (.iconst (-1), 1) := by decide +kernel
theorem dX3_wantBehindLetter_92 : decode cX3_wantBehindLetter 92 = .ok (.ireturn, 1) := by decide +kernel
theorem dX3_wantBehindEnd_0 : decode cX3_wantBehindEnd 0 = .ok (.iload_n 0, 1) := by decide +kernel
theorem dX3_wantBehindEnd_1 : decode cX3_wantBehindEnd 1 = .ok (.bipush 59, 2) := by decide +kernel
theorem dX3_wantBehindEnd_3 : decode cX3_wantBehindEnd 3 = .ok (.if_icmp .ne 7, 3) := by decide +kernel
theorem dX3_wantBehindEnd_6 : decode cX3_wantBehindEnd 6 = .ok (.iconst 0, 1) := by decide +kernel
theorem dX3_wantBehindEnd_7 : decode cX3_wantBehindEnd 7 = .ok (.goto 4, 3) := by decide +kernel
theorem dX3_wantBehindEnd_10 : decode cX3_wantBehindEnd 10 = .ok (.iconst (-1), 1) := by decide +kernel
theorem dX3_wantBehindEnd_11 : decode cX3_wantBehindEnd 11 = .ok (.ireturn, 1) := by decide +kernel
theorem dX3_isDigit_0 : decode cX3_isDigit 0 = .ok (.iload_n 0, 1) := by decide +kernel
theorem dX3_isDigit_1 : decode cX3_isDigit 1 = .ok (.bipush 48, 2) := by decide +kernel
theorem dX3_isDigit_3 : decode cX3_isDigit 3 = .ok (.if_icmp .lt 13, 3) := by decide +kernel
theorem dX3_isDigit_6 : decode cX3_isDigit 6 = .ok (.iload_n 0, 1) := by decide +kernel
theorem dX3_isDigit_7 : decode cX3_isDigit 7 = .ok (.bipush 57, 2) := by decide +kernel
theorem dX3_isDigit_9 : decode cX3_isDigit 9 = .ok (.if_icmp .gt 7, 3) := by decide +kernel
theorem dX3_isDigit_12 : decode cX3_isDigit 12 = .ok (.iconst 1, 1) := by decide +kernel
theorem dX3_isDigit_13 : decode cX3_isDigit 13 = .ok (.goto 4, 3) := by decide +kernel
theorem dX3_isDigit_16 : decode cX3_isDigit 16 = .ok (.iconst 0, 1) := by decide +kernel
theorem dX3_isDigit_17 : decode cX3_isDigit 17 = .ok (.ireturn, 1) := by decide +kernel
set_option maxRecDepth 20000 in
theorem ggX3_note_X4_count : GoodIn wsX3_note wsX4_count := goodIn_r _ [6, 7, 45, 46, 47] (by decide +kernel) (by decide +kernel)
set_option maxRecDepth 20000 in
theorem gX3_note_X4_count : GoodIn wsX3_note (wsV RX3 23 RX4 yX4_count wsX4_count) := goodIn_app (goodIn_of _ (by decide +kernel)) ggX3_note_X4_count
set_option maxRecDepth 20000 in
theorem ggX3_note_X4_insert : GoodIn wsX3_note wsX4_insert := goodIn_r _ [11, 7, 12, 13, 14, 15, 16, 17, 18, 19, 20, 21, 22, 23, 24, 25, 26, 27, 28, 29, 30, 45, 46, 47, 48, 49, 50, 51, 52, 53, 54, 55, 56, 57] (by decide +kernel) (by decide +kernel)
set_option maxRecDepth 20000 in
theorem gX3_note_X4_insert : GoodIn wsX3_note (wsV RX3 27 RX4 yX4_insert wsX4_insert) := goodIn_app (goodIn_of _ (by decide +kernel)) ggX3_note_X4_insert
set_option maxRecDepth 20000 in
theorem ggX3_note_X4_put : GoodIn wsX3_note wsX4_put := goodIn_ca (goodIn_r _ [34, 7, 12, 13, 45, 46, 47] (by decide +kernel) (by decide +kernel)) (goodIn_sub (fun _ h => List.mem_cons_of_mem _ (List.mem_append_right _ h)) (by decide +kernel))
set_option maxRecDepth 20000 in
theorem gX3_note_X4_put : GoodIn wsX3_note (wsV RX3 31 RX4 yX4_put wsX4_put) := goodIn_app (goodIn_of _ (by decide +kernel)) ggX3_note_X4_put
set_option maxRecDepth 20000 in
theorem ggX3_note_X3_isDigit : GoodIn wsX3_note wsX3_isDigit := goodIn_r _ [38] (by decide +kernel) (by decide +kernel)
set_option maxRecDepth 20000 in
theorem gX3_note_X3_isDigit : GoodIn wsX3_note (va_wsS RX3 52 yX3_isDigit wsX3_isDigit) := goodIn_app (goodIn_of _ (by decide +kernel)) ggX3_note_X3_isDigit
set_option maxRecDepth 20000 in
theorem ggX3_note_X4_at : GoodIn wsX3_note wsX4_at := goodIn_ca (goodIn_r _ [42, 7, 12, 13, 45, 46, 47] (by decide +kernel) (by decide +kernel)) (goodIn_sub (fun _ h => List.mem_cons_of_mem _ (List.mem_append_right _ h)) (by decide +kernel))
set_option maxRecDepth 20000 in
theorem gX3_note_X4_at : GoodIn wsX3_note (wsV RX3 38 RX4 yX4_at wsX4_at) := goodIn_app (goodIn_of _ (by decide +kernel)) ggX3_note_X4_at
theorem dX3_note_0 : decode cX3_note 0 = .ok (.iload_n 1, 1) := by decide +kernel
theorem dX3_note_1 : decode cX3_note 1 = .ok (.ifCond .ne 17, 3) := by decide +kernel
theorem dX3_note_4 : decode cX3_note 4 = .ok (.aload_n 0, 1) := by decide +kernel
theorem dX3_note_5 : decode cX3_note 5 = .ok (.getfield 20, 3) := by decide +kernel
theorem dX3_note_8 : decode cX3_note 8 = .ok (.aload_n 0, 1) := by decide +kernel
theorem dX3_note_9 : decode cX3_note 9 = .ok (.getfield 20, 3) := by decide +kernel
theorem dX3_note_12 : decode cX3_note 12 = .ok (.invokevirtual 23, 3) := by decide +kernel
theorem dX3_note_15 : decode cX3_note 15 = .ok (.invokevirtual 27, 3) := by decide +kernel
theorem dX3_note_18 : decode cX3_note 18 = .ok (.aload_n 0, 1) := by decide +kernel
theorem dX3_note_19 : decode cX3_note 19 = .ok (.getfield 20, 3) := by decide +kernel
theorem dX3_note_22 : decode cX3_note 22 = .ok (.invokevirtual 23, 3) := by decide +kernel
theorem dX3_note_25 : decode cX3_note 25 = .ok (.iconst 1, 1) := by decide +kernel
theorem dX3_note_26 : decode cX3_note 26 = .ok (.isub, 1) := by decide +kernel
theorem dX3_note_27 : decode cX3_note 27 = .ok (.istore_n 3, 1) := by decide +kernel
theorem dX3_note_28 : decode cX3_note 28 = .ok (.iload_n 1, 1) := by decide +kernel
theorem dX3_note_29 : decode cX3_note 29 = .ok (.ifCond .ne 16, 3) := by decide +kernel
theorem dX3_note_32 : decode cX3_note 32 = .ok (.aload_n 0, 1) := by decide +kernel
theorem dX3_note_33 : decode cX3_note 33 = .ok (.getfield 20, 3) := by decide +kernel
theorem dX3_note_36 : decode cX3_note 36 = .ok (.iload_n 3, 1) := by decide +kernel
theorem dX3_note_37 : decode cX3_note 37 = .ok (.iconst 0, 1) := by decide +kernel
theorem dX3_note_38 : decode cX3_note 38 = .ok (.iload_n 2, 1) := by decide +kernel
theorem dX3_note_39 : decode cX3_note 39 = .ok (.invokevirtual 31, 3) := by decide +kernel
theorem dX3_note_42 : decode cX3_note 42 = .ok (.goto 62, 3) := by decide +kernel
theorem dX3_note_45 : decode cX3_note 45 = .ok (.iload_n 1, 1) := by decide +kernel
theorem dX3_note_46 : decode cX3_note 46 = .ok (.iconst 1, 1) := by decide +kernel
theorem dX3_note_47 : decode cX3_note 47 = .ok (.if_icmp .eq 8, 3) := by decide +kernel
theorem dX3_note_50 : decode cX3_note 50 = .ok (.iload_n 1, 1) := by decide +kernel
theorem dX3_note_51 : decode cX3_note 51 = .ok (.iconst 2, 1) := by decide +kernel
theorem dX3_note_52 : decode cX3_note 52 = .ok (.if_icmp .ne 19, 3) := by decide +kernel
theorem dX3_note_55 : decode cX3_note 55 = .ok (.aload_n 0, 1) := by decide +kernel
theorem dX3_note_56 : decode cX3_note 56 = .ok (.getfield 20, 3) := by decide +kernel
theorem dX3_note_59 : decode cX3_note 59 = .ok (.iload_n 3, 1) := by decide +kernel
theorem dX3_note_60 : decode cX3_note 60 = .ok (.iconst 1, 1) := by decide +kernel
theorem dX3_note_61 : decode cX3_note 61 = .ok (.iload_n 2, 1) := by decide +kernel
theorem dX3_note_62 : decode cX3_note 62 = .ok (.bipush 48, 2) := by decide +kernel
theorem dX3_note_64 : decode cX3_note 64 = .ok (.isub, 1) := by decide +kernel
theorem dX3_note_65 : decode cX3_note 65 = .ok (.invokevirtual 31, 3) := by decide +kernel
theorem dX3_note_68 : decode cX3_note 68 = .ok (.goto 36, 3) := by decide +kernel
theorem dX3_note_71 : decode cX3_note 71 = .ok (.iload_n 2, 1) := by decide +kernel
theorem dX3_note_72 : decode cX3_note 72 = .ok (.invokestatic 52, 3) := by decide +kernel
theorem dX3_note_75 : decode cX3_note 75 = .ok (.ifCond .eq 29, 3) := by decide +kernel
theorem dX3_note_78 : decode cX3_note 78 = .ok (.aload_n 0, 1) := by decide +kernel
theorem dX3_note_79 : decode cX3_note 79 = .ok (.getfield 20, 3) := by decide +kernel
theorem dX3_note_82 : decode cX3_note 82 = .ok (.iload_n 3, 1) := by decide +kernel
theorem dX3_note_83 : decode cX3_note 83 = .ok (.iconst 2, 1) := by decide +kernel
theorem dX3_note_84 : decode cX3_note 84 = .ok (.bipush 10, 2) := by decide +kernel
theorem dX3_note_86 : decode cX3_note 86 = .ok (.aload_n 0, 1) := by decide +kernel
theorem dX3_note_87 : decode cX3_note 87 = .ok (.getfield 20, 3) := by decide +kernel
theorem dX3_note_90 : decode cX3_note 90 = .ok (.iload_n 3, 1) := by decide +kernel
theorem dX3_note_91 : decode cX3_note 91 = .ok (.iconst 2, 1) := by decide +kernel
theorem dX3_note_92 : decode cX3_note 92 = .ok (.invokevirtual 38, 3) := by decide +kernel
theorem dX3_note_95 : decode cX3_note 95 = .ok (.imul, 1) := by decide +kernel
theorem dX3_note_96 : decode cX3_note 96 = .ok (.iload_n 2, 1) := by decide +kernel
theorem dX3_note_97 : decode cX3_note 97 = .ok (.iadd, 1) := by decide +kernel
theorem dX3_note_98 : decode cX3_note 98 = .ok (.bipush 48, 2) := by decide +kernel
theorem dX3_note_100 : decode cX3_note 100 = .ok (.isub, 1) := by decide +kernel
theorem dX3_note_101 : decode cX3_note 101 = .ok (.invokevirtual 31, 3) := by decide +kernel
theorem dX3_note_104 : decode cX3_note 104 = .ok (.return_, 1) := by decide +kernel
set_option maxRecDepth 20000 in
theorem ggX3_perform_X4_at : GoodIn wsX3_perform wsX4_at := goodIn_ca (goodIn_r _ [6, 7, 8, 9, 245, 246, 247] (by decide +kernel) (by decide +kernel)) (goodIn_sub (fun _ h => List.mem_cons_of_mem _ (List.mem_append_right _ h)) (by decide +kernel))
set_option maxRecDepth 20000 in
theorem gX3_perform_X4_at : GoodIn wsX3_perform (wsV RX3 38 RX4 yX4_at wsX4_at) := goodIn_app (goodIn_of _ (by decide +kernel)) ggX3_perform_X4_at
set_option maxRecDepth 20000 in
theorem ggX3_perform_X3_isPossible : GoodIn wsX3_perform wsX3_isPossible := goodIn_ca (goodIn_r _ [13, 14, 15, 16, 17, 18, 19, 20, 21, 22, 23, 24, 25, 26, 27, 5, 28, 7, 29, 30, 31, 32, 33, 34, 35, 36, 37, 38, 39, 40, 41, 42, 43, 44, 45, 46, 47, 48, 49, 50, 51, 52, 3, 4, 6, 8, 9, 53, 54, 55, 56, 57, 58, 59, 60, 61, 62, 63, 64, 65, 66, 67, 68, 69, 12, 70, 71, 72, 73, 74, 75, 76, 77, 78, 79, 80, 81, 82, 83, 84, 85, 86, 248, 249, 250, 251, 252, 253, 254, 255, 256, 257, 245, 246, 247] (by decide +kernel) (by decide +kernel)) (goodIn_sub (fun _ h => List.mem_cons_of_mem _ (List.mem_append_right _ h)) (by decide +kernel))
set_option maxRecDepth 20000 in
theorem gX3_perform_X3_isPossible : GoodIn wsX3_perform (va_wsS RX3 59 yX3_isPossible wsX3_isPossible) := goodIn_app (goodIn_of _ (by decide +kernel)) ggX3_perform_X3_isPossible
set_option maxRecDepth 20000 in
theorem ggX3_perform_X1_beginTurn : GoodIn wsX3_perform wsX1_beginTurn := goodIn_ca (goodIn_r _ [90, 33, 91, 38, 19, 92, 93, 94, 95, 17, 96, 47, 25, 26, 27, 5, 28, 7, 52, 3, 4, 6, 8, 9, 53, 54, 55, 56, 97, 98, 99, 100, 101, 102, 103, 104, 105, 106, 107, 108, 109, 110, 111, 112, 113, 114, 115, 116, 117, 118, 119, 120, 121, 122, 123, 124, 125, 126, 127, 128, 129, 130, 131, 132, 133, 134, 135, 136, 137, 138, 139, 140, 141, 142, 143, 144, 145, 146, 147, 148, 149, 150, 151, 152, 153, 154, 155, 48, 49, 50, 51, 156, 157, 158, 159, 160, 161, 162, 163, 164, 165, 166, 167, 168, 169, 170, 171, 172, 173, 174, 175, 176, 177, 178, 179, 180, 181, 182, 183, 184, 185, 186, 187, 188, 189, 190, 191, 192, 193, 194, 195, 196, 197, 198, 199, 200, 201, 202, 203, 204, 248, 249, 250, 251, 252, 253, 254, 255, 256, 257, 245, 246, 247, 258, 259, 260, 261, 262, 263, 264, 265, 266, 267, 268, 269] (by decide +kernel) (by decide +kernel)) (goodIn_sub (fun _ h => List.mem_cons_of_mem _ (List.mem_append_right _ h)) (by decide +kernel))
set_option maxRecDepth 20000 in
theorem gX3_perform_X1_beginTurn : GoodIn wsX3_perform (wsV RX3 63 RX1 yX1_beginTurn wsX1_beginTurn) := goodIn_app (goodIn_of _ (by decide +kernel)) ggX3_perform_X1_beginTurn
set_option maxRecDepth 20000 in
theorem ggX3_perform_X1_endTurn : GoodIn wsX3_perform wsX1_endTurn := goodIn_ca (goodIn_r _ [199, 92, 19, 200, 201, 202, 121, 203, 123, 124, 26, 27, 5, 28, 7, 125, 3, 4, 6, 8, 9, 204, 148, 149, 150, 184, 185, 186, 187, 130, 131, 132, 133, 248, 249, 250, 251, 252, 253, 254, 255, 256, 257, 258, 259, 245, 246, 247] (by decide +kernel) (by decide +kernel)) (goodIn_sub (fun _ h => List.mem_cons_of_mem _ (List.mem_append_right _ h)) (by decide +kernel))
set_option maxRecDepth 20000 in
theorem gX3_perform_X1_endTurn : GoodIn wsX3_perform (wsV RX3 68 RX1 yX1_endTurn wsX1_endTurn) := goodIn_app (goodIn_of _ (by decide +kernel)) ggX3_perform_X1_endTurn
set_option maxRecDepth 20000 in
theorem ggX3_perform_X1_delayTurn : GoodIn wsX3_perform wsX1_delayTurn := goodIn_ca (goodIn_r _ [209, 19, 47, 48, 49, 50, 17, 51, 25, 26, 27, 5, 28, 7, 52, 3, 4, 6, 8, 9, 147, 148, 149, 150, 248, 249, 250, 251, 252, 253, 254, 255, 256, 257, 245, 246, 247] (by decide +kernel) (by decide +kernel)) (goodIn_sub (fun _ h => List.mem_cons_of_mem _ (List.mem_append_right _ h)) (by decide +kernel))
set_option maxRecDepth 20000 in
theorem gX3_perform_X1_delayTurn : GoodIn wsX3_perform (wsV RX3 71 RX1 yX1_delayTurn wsX1_delayTurn) := goodIn_app (goodIn_of _ (by decide +kernel)) ggX3_perform_X1_delayTurn
set_option maxRecDepth 20000 in
theorem ggX3_perform_X1_resumeTurn : GoodIn wsX3_perform wsX1_resumeTurn := goodIn_ca (goodIn_r _ [213, 155, 47, 33, 48, 49, 50, 17, 51, 25, 26, 27, 5, 28, 7, 52, 3, 4, 6, 8, 9, 214, 185, 186, 187, 130, 131, 132, 133, 126, 127, 128, 129, 134, 135, 136, 137, 138, 139, 140, 141, 142, 143, 144, 145, 146, 147, 148, 149, 150, 151, 152, 153, 154, 19, 248, 249, 250, 251, 252, 253, 254, 255, 256, 257, 245, 246, 247, 260, 261, 262, 263, 264, 265, 266, 267, 268, 269] (by decide +kernel) (by decide +kernel)) (goodIn_sub (fun _ h => List.mem_cons_of_mem _ (List.mem_append_right _ h)) (by decide +kernel))
set_option maxRecDepth 20000 in
theorem gX3_perform_X1_resumeTurn : GoodIn wsX3_perform (wsV RX3 74 RX1 yX1_resumeTurn wsX1_resumeTurn) := goodIn_app (goodIn_of _ (by decide +kernel)) ggX3_perform_X1_resumeTurn
set_option maxRecDepth 20000 in
theorem ggX3_perform_X1_settleStack : GoodIn wsX3_perform wsX1_settleStack := goodIn_ca (goodIn_r _ [218, 24, 19, 25, 26, 27, 5, 28, 7, 219, 220, 221, 17, 222, 92, 114, 115, 116, 117, 83, 84, 85, 86, 52, 3, 4, 6, 8, 9, 223, 224, 225, 226, 214, 185, 186, 187, 130, 131, 132, 133, 53, 54, 55, 56, 38, 118, 119, 120, 121, 122, 123, 124, 125, 172, 173, 174, 175, 176, 177, 178, 179, 147, 148, 149, 150, 180, 181, 182, 183, 184, 188, 189, 190, 191, 192, 193, 194, 195, 227, 228, 229, 230, 231, 232, 233, 234, 235, 236, 237, 80, 81, 82, 238, 127, 128, 129, 134, 135, 136, 137, 138, 139, 140, 141, 142, 143, 144, 145, 146, 204, 248, 249, 250, 251, 252, 253, 254, 255, 256, 257, 245, 246, 247, 258, 259, 260, 261, 262, 263, 264, 265, 266, 267, 268, 269] (by decide +kernel) (by decide +kernel)) (goodIn_sub (fun _ h => List.mem_cons_of_mem _ (List.mem_append_right _ h)) (by decide +kernel))
set_option maxRecDepth 20000 in
theorem gX3_perform_X1_settleStack : GoodIn wsX3_perform (wsV RX3 77 RX1 yX1_settleStack wsX1_settleStack) := goodIn_app (goodIn_of _ (by decide +kernel)) ggX3_perform_X1_settleStack
set_option maxRecDepth 20000 in
theorem ggX3_perform_X3_kindOf : GoodIn wsX3_perform wsX3_kindOf := goodIn_r _ [70] (by decide +kernel) (by decide +kernel)
set_option maxRecDepth 20000 in
theorem gX3_perform_X3_kindOf : GoodIn wsX3_perform (va_wsS RX3 80 yX3_kindOf wsX3_kindOf) := goodIn_app (goodIn_of _ (by decide +kernel)) ggX3_perform_X3_kindOf
set_option maxRecDepth 20000 in
theorem ggX3_perform_X1_presentTurn : GoodIn wsX3_perform wsX1_presentTurn := goodIn_r _ [67, 19, 248, 249, 250, 251, 252, 253, 254, 255, 256, 257] (by decide +kernel) (by decide +kernel)
set_option maxRecDepth 20000 in
theorem gX3_perform_X1_presentTurn : GoodIn wsX3_perform (wsV RX3 83 RX1 yX1_presentTurn wsX1_presentTurn) := goodIn_app (goodIn_of _ (by decide +kernel)) ggX3_perform_X1_presentTurn
set_option maxRecDepth 20000 in
theorem ggX3_perform_X1_beginAct : GoodIn wsX3_perform wsX1_beginAct := goodIn_ca (goodIn_r _ [242, 24, 38, 33, 25, 26, 27, 5, 28, 7, 147, 148, 149, 150, 8, 9, 126, 127, 128, 129, 130, 131, 132, 133, 134, 135, 136, 137, 138, 139, 140, 141, 142, 143, 144, 145, 146, 248, 249, 250, 251, 252, 253, 254, 255, 256, 257, 245, 246, 247, 260, 261, 262, 263, 264, 265, 266, 267, 268, 269] (by decide +kernel) (by decide +kernel)) (goodIn_sub (fun _ h => List.mem_cons_of_mem _ (List.mem_append_right _ h)) (by decide +kernel))
set_option maxRecDepth 20000 in
theorem gX3_perform_X1_beginAct : GoodIn wsX3_perform (wsV RX3 86 RX1 yX1_beginAct wsX1_beginAct) := goodIn_app (goodIn_of _ (by decide +kernel)) ggX3_perform_X1_beginAct
theorem dX3_perform_0 : decode cX3_perform 0 = .ok (.aload_n 0, 1) := by decide +kernel
theorem dX3_perform_1 : decode cX3_perform 1 = .ok (.getfield 20, 3) := by decide +kernel
theorem dX3_perform_4 : decode cX3_perform 4 = .ok (.iload_n 1, 1) := by decide +kernel
theorem dX3_perform_5 : decode cX3_perform 5 = .ok (.iconst 0, 1) := by decide +kernel
theorem dX3_perform_6 : decode cX3_perform 6 = .ok (.invokevirtual 38, 3) := by decide +kernel
theorem dX3_perform_9 : decode cX3_perform 9 = .ok (.istore_n 3, 1) := by decide +kernel
theorem dX3_perform_10 : decode cX3_perform 10 = .ok (.aload_n 0, 1) := by decide +kernel
theorem dX3_perform_11 : decode cX3_perform 11 = .ok (.getfield 20, 3) := by decide +kernel
theorem dX3_perform_14 : decode cX3_perform 14 = .ok (.iload_n 1, 1) := by decide +kernel
theorem dX3_perform_15 : decode cX3_perform 15 = .ok (.iconst 1, 1) := by decide +kernel
theorem dX3_perform_16 : decode cX3_perform 16 = .ok (.invokevirtual 38, 3) := by decide +kernel
theorem dX3_perform_19 : decode cX3_perform 19 = .ok (.istore 4, 2) := by decide +kernel
theorem dX3_perform_21 : decode cX3_perform 21 = .ok (.aload_n 0, 1) := by decide +kernel
theorem dX3_perform_22 : decode cX3_perform 22 = .ok (.getfield 20, 3) := by decide +kernel
theorem dX3_perform_25 : decode cX3_perform 25 = .ok (.iload_n 1, 1) := by decide +kernel
theorem dX3_perform_26 : decode cX3_perform 26 = .ok (.iconst 2, 1) := by decide +kernel
theorem dX3_perform_27 : decode cX3_perform 27 = .ok (.invokevirtual 38, 3) := by decide +kernel
theorem dX3_perform_30 : decode cX3_perform 30 = .ok (.istore 5, 2) := by decide +kernel
theorem dX3_perform_32 : decode cX3_perform 32 = .ok (.iload_n 3, 1) := by decide +kernel
theorem dX3_perform_33 : decode cX3_perform 33 = .ok (.iload 4, 2) := by decide +kernel
theorem dX3_perform_35 : decode cX3_perform 35 = .ok (.iload 5, 2) := by decide +kernel
theorem dX3_perform_37 : decode cX3_perform 37 = .ok (.aload_n 2, 1) := by decide +kernel
theorem dX3_perform_38 : decode cX3_perform 38 = .ok (.invokestatic 59, 3) := by decide +kernel
theorem dX3_perform_41 : decode cX3_perform 41 = .ok (.ifCond .ne 5, 3) := by decide +kernel
theorem dX3_perform_44 : decode cX3_perform 44 = .ok (.iconst 0, 1) := by decide +kernel
theorem dX3_perform_45 : decode cX3_perform 45 = .ok (.ireturn, 1) := by decide +kernel
theorem dX3_perform_46 : decode cX3_perform 46 = .ok (.iload_n 3, 1) := by decide +kernel
theorem dX3_perform_47 : decode cX3_perform 47 = .ok (.lookupswitch 91 #[(99, 73), (100, 65), (101, 57), (110, 49), (114, 83)], 49) := by decide +kernel
theorem dX3_perform_96 : decode cX3_perform 96 = .ok (.aload_n 2, 1) := by decide +kernel
theorem dX3_perform_97 : decode cX3_perform 97 = .ok (.invokevirtual 63, 3) := by decide +kernel
theorem dX3_perform_100 : decode cX3_perform 100 = .ok (.pop, 1) := by decide +kernel
theorem dX3_perform_101 : decode cX3_perform 101 = .ok (.goto 57, 3) := by decide +kernel
theorem dX3_perform_104 : decode cX3_perform 104 = .ok (.aload_n 2, 1) := by decide +kernel
theorem dX3_perform_105 : decode cX3_perform 105 = .ok (.invokevirtual 68, 3) := by decide +kernel
theorem dX3_perform_108 : decode cX3_perform 108 = .ok (.pop, 1) := by decide +kernel
theorem dX3_perform_109 : decode cX3_perform 109 = .ok (.goto 49, 3) := by decide +kernel
theorem dX3_perform_112 : decode cX3_perform 112 = .ok (.aload_n 2, 1) := by decide +kernel
theorem dX3_perform_113 : decode cX3_perform 113 = .ok (.invokevirtual 71, 3) := by decide +kernel
theorem dX3_perform_116 : decode cX3_perform 116 = .ok (.pop, 1) := by decide +kernel
theorem dX3_perform_117 : decode cX3_perform 117 = .ok (.goto 41, 3) := by decide +kernel
theorem dX3_perform_120 : decode cX3_perform 120 = .ok (.aload_n 2, 1) := by decide +kernel
theorem dX3_perform_121 : decode cX3_perform 121 = .ok (.iload 4, 2) := by decide +kernel
theorem dX3_perform_123 : decode cX3_perform 123 = .ok (.invokevirtual 74, 3) := by decide +kernel
theorem dX3_perform_126 : decode cX3_perform 126 = .ok (.pop, 1) := by decide +kernel
theorem dX3_perform_127 : decode cX3_perform 127 = .ok (.goto 31, 3) := by decide +kernel
theorem dX3_perform_130 : decode cX3_perform 130 = .ok (.aload_n 2, 1) := by decide +kernel
theorem dX3_perform_131 : decode cX3_perform 131 = .ok (.invokevirtual 77, 3) := by decide +kernel
theorem dX3_perform_134 : decode cX3_perform 134 = .ok (.pop, 1) := by decide +kernel
theorem dX3_perform_135 : decode cX3_perform 135 = .ok (.goto 23, 3) := by decide +kernel
theorem dX3_perform_138 : decode cX3_perform 138 = .ok (.aload_n 2, 1) := by decide +kernel
theorem dX3_perform_139 : decode cX3_perform 139 = .ok (.iload_n 3, 1) := by decide +kernel
theorem dX3_perform_140 : decode cX3_perform 140 = .ok (.invokestatic 80, 3) := by decide +kernel
theorem dX3_perform_143 : decode cX3_perform 143 = .ok (.aload_n 2, 1) := by decide +kernel
theorem dX3_perform_144 : decode cX3_perform 144 = .ok (.invokevirtual 83, 3) := by decide +kernel
theorem dX3_perform_147 : decode cX3_perform 147 = .ok (.iload 4, 2) := by decide +kernel
theorem dX3_perform_149 : decode cX3_perform 149 = .ok (.iload 5, 2) := by decide +kernel
theorem dX3_perform_151 : decode cX3_perform 151 = .ok (.iconst 0, 1) := by decide +kernel
theorem dX3_perform_152 : decode cX3_perform 152 = .ok (.iconst 0, 1) := by decide +kernel
theorem dX3_perform_153 : decode cX3_perform 153 = .ok (.iconst 0, 1) := by decide +kernel
theorem dX3_perform_154 : decode cX3_perform 154 = .ok (.invokevirtual 86, 3) := by decide +kernel
theorem dX3_perform_157 : decode cX3_perform 157 = .ok (.pop, 1) := by decide +kernel
theorem dX3_perform_158 : decode cX3_perform 158 = .ok (.iconst 1, 1) := by decide +kernel
theorem dX3_perform_159 : decode cX3_perform 159 = .ok (.ireturn, 1) := by decide +kernel
set_option maxRecDepth 20000 in
theorem ggX3_isPossible_X1_mayBeginTurn : GoodIn wsX3_isPossible wsX1_mayBeginTurn := goodIn_r _ [5, 6, 82, 83, 84, 85, 86, 87, 88, 89, 90, 91] (by decide +kernel) (by decide +kernel)
set_option maxRecDepth 20000 in
theorem gX3_isPossible_X1_mayBeginTurn : GoodIn wsX3_isPossible (wsV RX3 90 RX1 yX1_mayBeginTurn wsX1_mayBeginTurn) := goodIn_app (goodIn_of _ (by decide +kernel)) ggX3_isPossible_X1_mayBeginTurn
set_option maxRecDepth 20000 in
theorem ggX3_isPossible_X1_mayEndTurn : GoodIn wsX3_isPossible wsX1_mayEndTurn := goodIn_r _ [10, 6, 11, 12, 13, 14, 15, 16, 17, 82, 83, 84, 85, 86, 87, 88, 89, 90, 91, 92, 93, 94] (by decide +kernel) (by decide +kernel)
set_option maxRecDepth 20000 in
theorem gX3_isPossible_X1_mayEndTurn : GoodIn wsX3_isPossible (wsV RX3 94 RX1 yX1_mayEndTurn wsX1_mayEndTurn) := goodIn_app (goodIn_of _ (by decide +kernel)) ggX3_isPossible_X1_mayEndTurn
set_option maxRecDepth 20000 in
theorem ggX3_isPossible_X1_mayDelayTurn : GoodIn wsX3_isPossible wsX1_mayDelayTurn := goodIn_r _ [21, 6, 22, 82, 83, 84, 85, 86, 87, 88, 89, 90, 91] (by decide +kernel) (by decide +kernel)
set_option maxRecDepth 20000 in
theorem gX3_isPossible_X1_mayDelayTurn : GoodIn wsX3_isPossible (wsV RX3 97 RX1 yX1_mayDelayTurn wsX1_mayDelayTurn) := goodIn_app (goodIn_of _ (by decide +kernel)) ggX3_isPossible_X1_mayDelayTurn
set_option maxRecDepth 20000 in
theorem ggX3_isPossible_X1_isFighter : GoodIn wsX3_isPossible wsX1_isFighter := goodIn_r _ [26, 27, 12, 13, 14, 15, 16, 17, 82, 83, 84, 85, 86, 87, 88, 89, 90, 91, 92, 93, 94] (by decide +kernel) (by decide +kernel)
set_option maxRecDepth 20000 in
theorem gX3_isPossible_X1_isFighter : GoodIn wsX3_isPossible (wsV RX3 100 RX1 yX1_isFighter wsX1_isFighter) := goodIn_app (goodIn_of _ (by decide +kernel)) ggX3_isPossible_X1_isFighter
set_option maxRecDepth 20000 in
theorem ggX3_isPossible_X1_mayResumeTurn : GoodIn wsX3_isPossible wsX1_mayResumeTurn := goodIn_ca (goodIn_r _ [31, 6, 32, 33, 34, 4, 35, 36, 37, 38, 39, 40, 12, 13, 14, 15, 16, 17, 41, 42, 43, 44, 45, 46, 47, 48, 49, 50, 27, 82, 83, 84, 85, 86, 87, 88, 89, 90, 91, 92, 93, 94] (by decide +kernel) (by decide +kernel)) (goodIn_sub (fun _ h => List.mem_cons_of_mem _ (List.mem_append_right _ h)) (by decide +kernel))
set_option maxRecDepth 20000 in
theorem gX3_isPossible_X1_mayResumeTurn : GoodIn wsX3_isPossible (wsV RX3 103 RX1 yX1_mayResumeTurn wsX1_mayResumeTurn) := goodIn_app (goodIn_of _ (by decide +kernel)) ggX3_isPossible_X1_mayResumeTurn
set_option maxRecDepth 20000 in
theorem ggX3_isPossible_X1_maySettle : GoodIn wsX3_isPossible wsX1_maySettle := goodIn_r _ [54, 11, 12, 13, 14, 15, 16, 17, 82, 83, 84, 85, 86, 87, 88, 89, 90, 91, 92, 93, 94] (by decide +kernel) (by decide +kernel)
set_option maxRecDepth 20000 in
theorem gX3_isPossible_X1_maySettle : GoodIn wsX3_isPossible (wsV RX3 106 RX1 yX1_maySettle wsX1_maySettle) := goodIn_app (goodIn_of _ (by decide +kernel)) ggX3_isPossible_X1_maySettle
set_option maxRecDepth 20000 in
theorem ggX3_isPossible_X5_within : GoodIn wsX3_isPossible wsX5_within := goodIn_r _ [57] (by decide +kernel) (by decide +kernel)
set_option maxRecDepth 20000 in
theorem gX3_isPossible_X5_within_n109 : GoodIn wsX3_isPossible (wsX5_within) := ggX3_isPossible_X5_within
set_option maxRecDepth 20000 in
theorem ggX3_isPossible_X1_presentTurn : GoodIn wsX3_isPossible wsX1_presentTurn := goodIn_r _ [61, 6, 82, 83, 84, 85, 86, 87, 88, 89, 90, 91] (by decide +kernel) (by decide +kernel)
set_option maxRecDepth 20000 in
theorem gX3_isPossible_X1_presentTurn : GoodIn wsX3_isPossible (wsV RX3 83 RX1 yX1_presentTurn wsX1_presentTurn) := goodIn_app (goodIn_of _ (by decide +kernel)) ggX3_isPossible_X1_presentTurn
set_option maxRecDepth 20000 in
theorem ggX3_isPossible_X3_kindOf : GoodIn wsX3_isPossible wsX3_kindOf := goodIn_r _ [65] (by decide +kernel) (by decide +kernel)
set_option maxRecDepth 20000 in
theorem gX3_isPossible_X3_kindOf : GoodIn wsX3_isPossible (va_wsS RX3 80 yX3_kindOf wsX3_kindOf) := goodIn_app (goodIn_of _ (by decide +kernel)) ggX3_isPossible_X3_kindOf
set_option maxRecDepth 20000 in
theorem ggX3_isPossible_X1_mayAct : GoodIn wsX3_isPossible wsX1_mayAct := goodIn_ca (goodIn_r _ [69, 11, 6, 12, 13, 14, 15, 16, 17, 70, 71, 72, 4, 73, 27, 74, 75, 76, 77, 45, 46, 47, 48, 49, 50, 41, 42, 43, 44, 78, 79, 80, 81, 82, 83, 84, 85, 86, 87, 88, 89, 90, 91, 92, 93, 94] (by decide +kernel) (by decide +kernel)) (goodIn_sub (fun _ h => List.mem_cons_of_mem _ (List.mem_append_right _ h)) (by decide +kernel))
set_option maxRecDepth 20000 in
theorem gX3_isPossible_X1_mayAct : GoodIn wsX3_isPossible (wsV RX3 113 RX1 yX1_mayAct wsX1_mayAct) := goodIn_app (goodIn_of _ (by decide +kernel)) ggX3_isPossible_X1_mayAct
theorem dX3_isPossible_0 : decode cX3_isPossible 0 = .ok (.iload_n 0, 1) := by decide +kernel
theorem dX3_isPossible_1 : decode cX3_isPossible 1 = .ok (.lookupswitch 93 #[(99, 66), (100, 61), (101, 56), (110, 51), (114, 88)], 51) := by decide +kernel
theorem dX3_isPossible_52 : decode cX3_isPossible 52 = .ok (.aload_n 3, 1) := by decide +kernel
theorem dX3_isPossible_53 : decode cX3_isPossible 53 = .ok (.invokevirtual 90, 3) := by decide +kernel
theorem dX3_isPossible_56 : decode cX3_isPossible 56 = .ok (.ireturn, 1) := by decide +kernel
theorem dX3_isPossible_57 : decode cX3_isPossible 57 = .ok (.aload_n 3, 1) := by decide +kernel
theorem dX3_isPossible_58 : decode cX3_isPossible 58 = .ok (.invokevirtual 94, 3) := by decide +kernel
theorem dX3_isPossible_61 : decode cX3_isPossible 61 = .ok (.ireturn, 1) := by decide +kernel
theorem dX3_isPossible_62 : decode cX3_isPossible 62 = .ok (.aload_n 3, 1) := by decide +kernel
theorem dX3_isPossible_63 : decode cX3_isPossible 63 = .ok (.invokevirtual 97, 3) := by decide +kernel
theorem dX3_isPossible_66 : decode cX3_isPossible 66 = .ok (.ireturn, 1) := by decide +kernel
theorem dX3_isPossible_67 : decode cX3_isPossible 67 = .ok (.aload_n 3, 1) := by decide +kernel
theorem dX3_isPossible_68 : decode cX3_isPossible 68 = .ok (.iload_n 1, 1) := by decide +kernel
theorem dX3_isPossible_69 : decode cX3_isPossible 69 = .ok (.invokevirtual 100, 3) := by decide +kernel
theorem dX3_isPossible_72 : decode cX3_isPossible 72 = .ok (.ifCond .eq 15, 3) := by decide +kernel
theorem dX3_isPossible_75 : decode cX3_isPossible 75 = .ok (.aload_n 3, 1) := by decide +kernel
theorem dX3_isPossible_76 : decode cX3_isPossible 76 = .ok (.iload_n 1, 1) := by decide +kernel
theorem dX3_isPossible_77 : decode cX3_isPossible 77 = .ok (.invokevirtual 103, 3) := by decide +kernel
theorem dX3_isPossible_80 : decode cX3_isPossible 80 = .ok (.ifCond .eq 7, 3) := by decide +kernel
theorem dX3_isPossible_83 : decode cX3_isPossible 83 = .ok (.iconst 1, 1) := by decide +kernel
theorem dX3_isPossible_84 : decode cX3_isPossible 84 = .ok (.goto 4, 3) := by decide +kernel
theorem dX3_isPossible_87 : decode cX3_isPossible 87 = .ok (.iconst 0, 1) := by decide +kernel
theorem dX3_isPossible_88 : decode cX3_isPossible 88 = .ok (.ireturn, 1) := by decide +kernel
theorem dX3_isPossible_89 : decode cX3_isPossible 89 = .ok (.aload_n 3, 1) := by decide +kernel
theorem dX3_isPossible_90 : decode cX3_isPossible 90 = .ok (.invokevirtual 106, 3) := by decide +kernel
theorem dX3_isPossible_93 : decode cX3_isPossible 93 = .ok (.ireturn, 1) := by decide +kernel
theorem dX3_isPossible_94 : decode cX3_isPossible 94 = .ok (.aload_n 3, 1) := by decide +kernel
theorem dX3_isPossible_95 : decode cX3_isPossible 95 = .ok (.iload_n 1, 1) := by decide +kernel
theorem dX3_isPossible_96 : decode cX3_isPossible 96 = .ok (.invokevirtual 100, 3) := by decide +kernel
theorem dX3_isPossible_99 : decode cX3_isPossible 99 = .ok (.ifCond .eq 32, 3) := by decide +kernel
theorem dX3_isPossible_102 : decode cX3_isPossible 102 = .ok (.iload_n 2, 1) := by decide +kernel
theorem dX3_isPossible_103 : decode cX3_isPossible 103 = .ok (.iconst 1, 1) := by decide +kernel
theorem dX3_isPossible_104 : decode cX3_isPossible 104 = .ok (.bipush 60, 2) := by decide +kernel
theorem dX3_isPossible_106 : decode cX3_isPossible 106 = .ok (.invokestatic 109, 3) := by decide +kernel
theorem dX3_isPossible_109 : decode cX3_isPossible 109 = .ok (.ifCond .eq 22, 3) := by decide +kernel
theorem dX3_isPossible_112 : decode cX3_isPossible 112 = .ok (.aload_n 3, 1) := by decide +kernel
theorem dX3_isPossible_113 : decode cX3_isPossible 113 = .ok (.aload_n 3, 1) := by decide +kernel
theorem dX3_isPossible_114 : decode cX3_isPossible 114 = .ok (.invokevirtual 83, 3) := by decide +kernel
theorem dX3_isPossible_117 : decode cX3_isPossible 117 = .ok (.iload_n 0, 1) := by decide +kernel
theorem dX3_isPossible_118 : decode cX3_isPossible 118 = .ok (.invokestatic 80, 3) := by decide +kernel
theorem dX3_isPossible_121 : decode cX3_isPossible 121 = .ok (.invokevirtual 113, 3) := by decide +kernel
theorem dX3_isPossible_124 : decode cX3_isPossible 124 = .ok (.ifCond .eq 7, 3) := by decide +kernel
theorem dX3_isPossible_127 : decode cX3_isPossible 127 = .ok (.iconst 1, 1) := by decide +kernel
theorem dX3_isPossible_128 : decode cX3_isPossible 128 = .ok (.goto 4, 3) := by decide +kernel
theorem dX3_isPossible_131 : decode cX3_isPossible 131 = .ok (.iconst 0, 1) := by decide +kernel
theorem dX3_isPossible_132 : decode cX3_isPossible 132 = .ok (.ireturn, 1) := by decide +kernel
theorem dX3_kindOf_0 : decode cX3_kindOf 0 = .ok (.iload_n 0, 1) := by decide +kernel
theorem dX3_kindOf_1 : decode cX3_kindOf 1 = .ok (.bipush 104, 2) := by decide +kernel
theorem dX3_kindOf_3 : decode cX3_kindOf 3 = .ok (.if_icmp .ne 7, 3) := by decide +kernel
theorem dX3_kindOf_6 : decode cX3_kindOf 6 = .ok (.iconst 1, 1) := by decide +kernel
theorem dX3_kindOf_7 : decode cX3_kindOf 7 = .ok (.goto 4, 3) := by decide +kernel
theorem dX3_kindOf_10 : decode cX3_kindOf 10 = .ok (.iconst 0, 1) := by decide +kernel
theorem dX3_kindOf_11 : decode cX3_kindOf 11 = .ok (.ireturn, 1) := by decide +kernel
