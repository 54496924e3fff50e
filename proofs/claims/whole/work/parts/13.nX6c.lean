set_option maxRecDepth 20000 in
theorem ggX6_settle_X6_fails : GoodIn wsX6_settle wsX6_fails := goodIn_r _ [7, 1, 70, 71, 72, 73, 74, 75, 76, 77, 78, 79, 80, 81] (by decide +kernel) (by decide +kernel)
set_option maxRecDepth 20000 in
theorem gX6_settle_X6_fails : GoodIn wsX6_settle (wsV RX6 103 RX6 yX6_fails wsX6_fails) := goodIn_app (goodIn_of _ (by decide +kernel)) ggX6_settle_X6_fails
set_option maxRecDepth 20000 in
theorem ggX6_settle_X6_save : GoodIn wsX6_settle wsX6_save := goodIn_ca (goodIn_r _ [11, 12, 13, 2, 70, 71, 72, 73, 74, 75, 76, 77, 78, 79, 80, 81] (by decide +kernel) (by decide +kernel)) (goodIn_sub (fun _ h => List.mem_cons_of_mem _ (List.mem_append_right _ h)) (by decide +kernel))
set_option maxRecDepth 20000 in
theorem gX6_settle_X6_save : GoodIn wsX6_settle (wsV RX6 106 RX6 yX6_save wsX6_save) := goodIn_app (goodIn_of _ (by decide +kernel)) ggX6_settle_X6_save
set_option maxRecDepth 20000 in
theorem ggX6_settle_X6_settles : GoodIn wsX6_settle wsX6_settles := goodIn_ca (goodIn_r _ [17, 2, 18, 19, 20, 6, 21, 22, 23, 24, 25, 26, 27, 28, 29, 30, 31, 32, 33, 34, 35, 36, 37, 38, 39, 40, 41, 42, 43, 44, 45, 46, 47, 48, 49, 50, 51, 52, 53, 54, 55, 56, 57, 58, 59, 60, 61, 62, 63, 64, 65, 66, 67, 68, 69, 70, 71, 72, 73, 74, 75, 76, 77, 78, 79, 80, 81] (by decide +kernel) (by decide +kernel)) (goodIn_sub (fun _ h => List.mem_cons_of_mem _ (List.mem_append_right _ h)) (by decide +kernel))
set_option maxRecDepth 20000 in
theorem gX6_settle_X6_settles : GoodIn wsX6_settle (wsV RX6 151 RX6 yX6_settles wsX6_settles) := goodIn_app (goodIn_of _ (by decide +kernel)) ggX6_settle_X6_settles
theorem dX6_settle_0 : decode cX6_settle 0 = .ok (.aload_n 0, 1) := by decide +kernel
theorem dX6_settle_1 : decode cX6_settle 1 = .ok (.iconst 0, 1) := by decide +kernel
theorem dX6_settle_2 : decode cX6_settle 2 = .ok (.putfield 22, 3) := by decide +kernel
theorem dX6_settle_5 : decode cX6_settle 5 = .ok (.aload_n 0, 1) := by decide +kernel
theorem dX6_settle_6 : decode cX6_settle 6 = .ok (.getfield 7, 3) := by decide +kernel
theorem dX6_settle_9 : decode cX6_settle 9 = .ok (.bipush 8, 2) := by decide +kernel
theorem dX6_settle_11 : decode cX6_settle 11 = .ok (.iaload, 1) := by decide +kernel
theorem dX6_settle_12 : decode cX6_settle 12 = .ok (.ifCond .ne 9, 3) := by decide +kernel
theorem dX6_settle_15 : decode cX6_settle 15 = .ok (.aload_n 0, 1) := by decide +kernel
theorem dX6_settle_16 : decode cX6_settle 16 = .ok (.iconst 1, 1) := by decide +kernel
theorem dX6_settle_17 : decode cX6_settle 17 = .ok (.invokevirtual 103, 3) := by decide +kernel
theorem dX6_settle_20 : decode cX6_settle 20 = .ok (.ireturn, 1) := by decide +kernel
theorem dX6_settle_21 : decode cX6_settle 21 = .ok (.aload_n 0, 1) := by decide +kernel
theorem dX6_settle_22 : decode cX6_settle 22 = .ok (.invokevirtual 106, 3) := by decide +kernel
theorem dX6_settle_25 : decode cX6_settle 25 = .ok (.aload_n 0, 1) := by decide +kernel
theorem dX6_settle_26 : decode cX6_settle 26 = .ok (.invokevirtual 151, 3) := by decide +kernel
theorem dX6_settle_29 : decode cX6_settle 29 = .ok (.ireturn, 1) := by decide +kernel
set_option maxRecDepth 20000 in
theorem ggX6_stacked_X6_in : GoodIn wsX6_stacked wsX6_in := goodIn_r _ [6] (by decide +kernel) (by decide +kernel)
set_option maxRecDepth 20000 in
theorem gX6_stacked_X6_in : GoodIn wsX6_stacked (va_wsS RX6 29 yX6_in wsX6_in) := goodIn_app (goodIn_of _ (by decide +kernel)) ggX6_stacked_X6_in
set_option maxRecDepth 20000 in
theorem ggX6_stacked_X6_fails : GoodIn wsX6_stacked wsX6_fails := goodIn_r _ [10, 1, 15, 16, 17, 18, 19, 20, 21, 22, 23, 24, 25, 26] (by decide +kernel) (by decide +kernel)
set_option maxRecDepth 20000 in
theorem gX6_stacked_X6_fails : GoodIn wsX6_stacked (wsV RX6 103 RX6 yX6_fails wsX6_fails) := goodIn_app (goodIn_of _ (by decide +kernel)) ggX6_stacked_X6_fails
set_option maxRecDepth 20000 in
theorem ggX6_stacked_X6_ofAct : GoodIn wsX6_stacked wsX6_ofAct := goodIn_ca (goodIn_r _ [14, 2, 15, 16, 17, 18, 19, 20, 21, 22, 23, 24, 25, 26] (by decide +kernel) (by decide +kernel)) (goodIn_sub (fun _ h => List.mem_cons_of_mem _ (List.mem_append_right _ h)) (by decide +kernel))
set_option maxRecDepth 20000 in
theorem gX6_stacked_X6_ofAct : GoodIn wsX6_stacked (wsV RX6 91 RX6 yX6_ofAct wsX6_ofAct) := goodIn_app (goodIn_of _ (by decide +kernel)) ggX6_stacked_X6_ofAct
theorem dX6_stacked_0 : decode cX6_stacked 0 = .ok (.aload_n 0, 1) := by decide +kernel
theorem dX6_stacked_1 : decode cX6_stacked 1 = .ok (.iconst 0, 1) := by decide +kernel
theorem dX6_stacked_2 : decode cX6_stacked 2 = .ok (.putfield 22, 3) := by decide +kernel
theorem dX6_stacked_5 : decode cX6_stacked 5 = .ok (.iload_n 1, 1) := by decide +kernel
theorem dX6_stacked_6 : decode cX6_stacked 6 = .ok (.iconst 0, 1) := by decide +kernel
theorem dX6_stacked_7 : decode cX6_stacked 7 = .ok (.aload_n 0, 1) := by decide +kernel
theorem dX6_stacked_8 : decode cX6_stacked 8 = .ok (.getfield 7, 3) := by decide +kernel
theorem dX6_stacked_11 : decode cX6_stacked 11 = .ok (.bipush 8, 2) := by decide +kernel
theorem dX6_stacked_13 : decode cX6_stacked 13 = .ok (.iaload, 1) := by decide +kernel
theorem dX6_stacked_14 : decode cX6_stacked 14 = .ok (.iconst 1, 1) := by decide +kernel
theorem dX6_stacked_15 : decode cX6_stacked 15 = .ok (.isub, 1) := by decide +kernel
theorem dX6_stacked_16 : decode cX6_stacked 16 = .ok (.invokestatic 29, 3) := by decide +kernel
theorem dX6_stacked_19 : decode cX6_stacked 19 = .ok (.ifCond .ne 9, 3) := by decide +kernel
theorem dX6_stacked_22 : decode cX6_stacked 22 = .ok (.aload_n 0, 1) := by decide +kernel
theorem dX6_stacked_23 : decode cX6_stacked 23 = .ok (.iconst 1, 1) := by decide +kernel
theorem dX6_stacked_24 : decode cX6_stacked 24 = .ok (.invokevirtual 103, 3) := by decide +kernel
theorem dX6_stacked_27 : decode cX6_stacked 27 = .ok (.ireturn, 1) := by decide +kernel
theorem dX6_stacked_28 : decode cX6_stacked 28 = .ok (.iload_n 2, 1) := by decide +kernel
theorem dX6_stacked_29 : decode cX6_stacked 29 = .ok (.iconst 0, 1) := by decide +kernel
theorem dX6_stacked_30 : decode cX6_stacked 30 = .ok (.iconst 3, 1) := by decide +kernel
theorem dX6_stacked_31 : decode cX6_stacked 31 = .ok (.invokestatic 29, 3) := by decide +kernel
theorem dX6_stacked_34 : decode cX6_stacked 34 = .ok (.ifCond .eq 22, 3) := by decide +kernel
theorem dX6_stacked_37 : decode cX6_stacked 37 = .ok (.aload_n 0, 1) := by decide +kernel
theorem dX6_stacked_38 : decode cX6_stacked 38 = .ok (.aload_n 0, 1) := by decide +kernel
theorem dX6_stacked_39 : decode cX6_stacked 39 = .ok (.getfield 7, 3) := by decide +kernel
theorem dX6_stacked_42 : decode cX6_stacked 42 = .ok (.bipush 8, 2) := by decide +kernel
theorem dX6_stacked_44 : decode cX6_stacked 44 = .ok (.iaload, 1) := by decide +kernel
theorem dX6_stacked_45 : decode cX6_stacked 45 = .ok (.iconst 1, 1) := by decide +kernel
theorem dX6_stacked_46 : decode cX6_stacked 46 = .ok (.isub, 1) := by decide +kernel
theorem dX6_stacked_47 : decode cX6_stacked 47 = .ok (.iload_n 1, 1) := by decide +kernel
theorem dX6_stacked_48 : decode cX6_stacked 48 = .ok (.isub, 1) := by decide +kernel
theorem dX6_stacked_49 : decode cX6_stacked 49 = .ok (.iload_n 2, 1) := by decide +kernel
theorem dX6_stacked_50 : decode cX6_stacked 50 = .ok (.invokevirtual 91, 3) := by decide +kernel
theorem dX6_stacked_53 : decode cX6_stacked 53 = .ok (.goto 8, 3) := by decide +kernel
theorem dX6_stacked_56 : decode cX6_stacked 56 = .ok (.aload_n 0, 1) := by decide +kernel
theorem dX6_stacked_57 : decode cX6_stacked 57 = .ok (.iconst 2, 1) := by decide +kernel
theorem dX6_stacked_58 : decode cX6_stacked 58 = .ok (.invokevirtual 103, 3) := by decide +kernel
theorem dX6_stacked_61 : decode cX6_stacked 61 = .ok (.ireturn, 1) := by decide +kernel
set_option maxRecDepth 20000 in
theorem ggX6_mayAnswer_X6_isFighter : GoodIn wsX6_mayAnswer wsX6_isFighter := goodIn_ca (goodIn_r _ [6, 7, 8, 9, 5, 10, 27, 28, 29, 30, 31, 32, 33, 34, 35, 36, 37, 38] (by decide +kernel) (by decide +kernel)) (goodIn_sub (fun _ h => List.mem_cons_of_mem _ (List.mem_append_right _ h)) (by decide +kernel))
set_option maxRecDepth 20000 in
theorem gX6_mayAnswer_X6_isFighter : GoodIn wsX6_mayAnswer (wsV RX6 109 RX6 yX6_isFighter wsX6_isFighter) := goodIn_app (goodIn_of _ (by decide +kernel)) ggX6_mayAnswer_X6_isFighter
set_option maxRecDepth 20000 in
theorem ggX6_mayAnswer_X6_canAnswer : GoodIn wsX6_mayAnswer wsX6_canAnswer := goodIn_ca (goodIn_r _ [14, 7, 8, 9, 5, 10, 15, 16, 17, 18, 19, 20, 21, 22, 23, 24, 25, 26, 27, 28, 29, 30, 31, 32, 33, 34, 35, 36, 37, 38] (by decide +kernel) (by decide +kernel)) (goodIn_sub (fun _ h => List.mem_cons_of_mem _ (List.mem_append_right _ h)) (by decide +kernel))
set_option maxRecDepth 20000 in
theorem gX6_mayAnswer_X6_canAnswer : GoodIn wsX6_mayAnswer (wsV RX6 94 RX6 yX6_canAnswer wsX6_canAnswer) := goodIn_app (goodIn_of _ (by decide +kernel)) ggX6_mayAnswer_X6_canAnswer
theorem dX6_mayAnswer_0 : decode cX6_mayAnswer 0 = .ok (.aload_n 0, 1) := by decide +kernel
theorem dX6_mayAnswer_1 : decode cX6_mayAnswer 1 = .ok (.iconst 0, 1) := by decide +kernel
theorem dX6_mayAnswer_2 : decode cX6_mayAnswer 2 = .ok (.putfield 22, 3) := by decide +kernel
theorem dX6_mayAnswer_5 : decode cX6_mayAnswer 5 = .ok (.aload_n 0, 1) := by decide +kernel
theorem dX6_mayAnswer_6 : decode cX6_mayAnswer 6 = .ok (.iload_n 1, 1) := by decide +kernel
theorem dX6_mayAnswer_7 : decode cX6_mayAnswer 7 = .ok (.invokevirtual 109, 3) := by decide +kernel
theorem dX6_mayAnswer_10 : decode cX6_mayAnswer 10 = .ok (.ifCond .ne 10, 3) := by decide +kernel
theorem dX6_mayAnswer_13 : decode cX6_mayAnswer 13 = .ok (.aload_n 0, 1) := by decide +kernel
theorem dX6_mayAnswer_14 : decode cX6_mayAnswer 14 = .ok (.iconst 1, 1) := by decide +kernel
theorem dX6_mayAnswer_15 : decode cX6_mayAnswer 15 = .ok (.putfield 22, 3) := by decide +kernel
theorem dX6_mayAnswer_18 : decode cX6_mayAnswer 18 = .ok (.iconst 0, 1) := by decide +kernel
theorem dX6_mayAnswer_19 : decode cX6_mayAnswer 19 = .ok (.ireturn, 1) := by decide +kernel
theorem dX6_mayAnswer_20 : decode cX6_mayAnswer 20 = .ok (.aload_n 0, 1) := by decide +kernel
theorem dX6_mayAnswer_21 : decode cX6_mayAnswer 21 = .ok (.iload_n 1, 1) := by decide +kernel
theorem dX6_mayAnswer_22 : decode cX6_mayAnswer 22 = .ok (.invokevirtual 94, 3) := by decide +kernel
theorem dX6_mayAnswer_25 : decode cX6_mayAnswer 25 = .ok (.ireturn, 1) := by decide +kernel
set_option maxRecDepth 20000 in
theorem ggX6_clearTurn_X6_ends : GoodIn wsX6_clearTurn wsX6_ends := goodIn_ca (goodIn_r _ [6, 1, 7, 8, 9, 5, 10, 11, 12, 13, 14, 15, 16, 17, 18, 19, 20, 21, 22] (by decide +kernel) (by decide +kernel)) (goodIn_sub (fun _ h => List.mem_cons_of_mem _ (List.mem_append_right _ h)) (by decide +kernel))
set_option maxRecDepth 20000 in
theorem gX6_clearTurn_X6_ends : GoodIn wsX6_clearTurn (wsV RX6 82 RX6 yX6_ends wsX6_ends) := goodIn_app (goodIn_of _ (by decide +kernel)) ggX6_clearTurn_X6_ends
theorem dX6_clearTurn_0 : decode cX6_clearTurn 0 = .ok (.aload_n 0, 1) := by decide +kernel
theorem dX6_clearTurn_1 : decode cX6_clearTurn 1 = .ok (.getfield 7, 3) := by decide +kernel
theorem dX6_clearTurn_4 : decode cX6_clearTurn 4 = .ok (.bipush 8, 2) := by decide +kernel
theorem dX6_clearTurn_6 : decode cX6_clearTurn 6 = .ok (.iconst 0, 1) := by decide +kernel
theorem dX6_clearTurn_7 : decode cX6_clearTurn 7 = .ok (.iastore, 1) := by decide +kernel
theorem dX6_clearTurn_8 : decode cX6_clearTurn 8 = .ok (.aload_n 0, 1) := by decide +kernel
theorem dX6_clearTurn_9 : decode cX6_clearTurn 9 = .ok (.getfield 7, 3) := by decide +kernel
theorem dX6_clearTurn_12 : decode cX6_clearTurn 12 = .ok (.iconst 4, 1) := by decide +kernel
theorem dX6_clearTurn_13 : decode cX6_clearTurn 13 = .ok (.iaload, 1) := by decide +kernel
theorem dX6_clearTurn_14 : decode cX6_clearTurn 14 = .ok (.iconst (-1), 1) := by decide +kernel
theorem dX6_clearTurn_15 : decode cX6_clearTurn 15 = .ok (.if_icmp .eq 28, 3) := by decide +kernel
theorem dX6_clearTurn_18 : decode cX6_clearTurn 18 = .ok (.aload_n 0, 1) := by decide +kernel
theorem dX6_clearTurn_19 : decode cX6_clearTurn 19 = .ok (.invokevirtual 82, 3) := by decide +kernel
theorem dX6_clearTurn_22 : decode cX6_clearTurn 22 = .ok (.istore_n 1, 1) := by decide +kernel
theorem dX6_clearTurn_23 : decode cX6_clearTurn 23 = .ok (.aload_n 0, 1) := by decide +kernel
theorem dX6_clearTurn_24 : decode cX6_clearTurn 24 = .ok (.getfield 7, 3) := by decide +kernel
theorem dX6_clearTurn_27 : decode cX6_clearTurn 27 = .ok (.iconst 4, 1) := by decide +kernel
theorem dX6_clearTurn_28 : decode cX6_clearTurn 28 = .ok (.iload_n 1, 1) := by decide +kernel
theorem dX6_clearTurn_29 : decode cX6_clearTurn 29 = .ok (.ifCond .ge 12, 3) := by decide +kernel
theorem dX6_clearTurn_32 : decode cX6_clearTurn 32 = .ok (.aload_n 0, 1) := by decide +kernel
theorem dX6_clearTurn_33 : decode cX6_clearTurn 33 = .ok (.getfield 7, 3) := by decide +kernel
theorem dX6_clearTurn_36 : decode cX6_clearTurn 36 = .ok (.iconst 4, 1) := by decide +kernel
theorem dX6_clearTurn_37 : decode cX6_clearTurn 37 = .ok (.iaload, 1) := by decide +kernel
theorem dX6_clearTurn_38 : decode cX6_clearTurn 38 = .ok (.goto 4, 3) := by decide +kernel
theorem dX6_clearTurn_41 : decode cX6_clearTurn 41 = .ok (.iconst (-1), 1) := by decide +kernel
theorem dX6_clearTurn_42 : decode cX6_clearTurn 42 = .ok (.iastore, 1) := by decide +kernel
theorem dX6_clearTurn_43 : decode cX6_clearTurn 43 = .ok (.return_, 1) := by decide +kernel
set_option maxRecDepth 20000 in
theorem ggX6_passesTurn_X6_begins : GoodIn wsX6_passesTurn wsX6_begins := goodIn_ca (goodIn_r _ [6, 1, 7, 8, 9, 5, 10, 11, 12, 13, 14, 15, 16, 17, 18, 19, 20, 21, 22, 23, 24, 25, 26, 27, 28, 29, 30, 31, 32, 33, 34, 35, 36, 37, 38, 39, 40, 41, 42, 43, 44, 45, 46, 47, 48, 49, 50, 51, 52, 53, 54, 55, 56, 57, 58, 59, 60, 61, 62, 63, 64, 65, 66, 67, 68, 69, 70, 71, 72, 73, 74, 75, 76, 77, 78] (by decide +kernel) (by decide +kernel)) (goodIn_sub (fun _ h => List.mem_cons_of_mem _ (List.mem_append_right _ h)) (by decide +kernel))
set_option maxRecDepth 20000 in
theorem gX6_passesTurn_X6_begins : GoodIn wsX6_passesTurn (wsV RX6 124 RX6 yX6_begins wsX6_begins) := goodIn_app (goodIn_of _ (by decide +kernel)) ggX6_passesTurn_X6_begins
set_option maxRecDepth 20000 in
theorem ggX6_passesTurn_X6_ends : GoodIn wsX6_passesTurn wsX6_ends := goodIn_ca (goodIn_r _ [66, 1, 51, 52, 53, 5, 54, 67, 68, 69, 70, 71, 72, 73, 74, 75, 76, 77, 78] (by decide +kernel) (by decide +kernel)) (goodIn_sub (fun _ h => List.mem_cons_of_mem _ (List.mem_append_right _ h)) (by decide +kernel))
set_option maxRecDepth 20000 in
theorem gX6_passesTurn_X6_ends : GoodIn wsX6_passesTurn (wsV RX6 82 RX6 yX6_ends wsX6_ends) := goodIn_app (goodIn_of _ (by decide +kernel)) ggX6_passesTurn_X6_ends
theorem dX6_passesTurn_0 : decode cX6_passesTurn 0 = .ok (.aload_n 0, 1) := by decide +kernel
theorem dX6_passesTurn_1 : decode cX6_passesTurn 1 = .ok (.invokevirtual 124, 3) := by decide +kernel
theorem dX6_passesTurn_4 : decode cX6_passesTurn 4 = .ok (.istore_n 1, 1) := by decide +kernel
theorem dX6_passesTurn_5 : decode cX6_passesTurn 5 = .ok (.aload_n 0, 1) := by decide +kernel
theorem dX6_passesTurn_6 : decode cX6_passesTurn 6 = .ok (.getfield 7, 3) := by decide +kernel
theorem dX6_passesTurn_9 : decode cX6_passesTurn 9 = .ok (.iconst 4, 1) := by decide +kernel
theorem dX6_passesTurn_10 : decode cX6_passesTurn 10 = .ok (.iaload, 1) := by decide +kernel
theorem dX6_passesTurn_11 : decode cX6_passesTurn 11 = .ok (.iconst (-1), 1) := by decide +kernel
theorem dX6_passesTurn_12 : decode cX6_passesTurn 12 = .ok (.if_icmp .eq 28, 3) := by decide +kernel
theorem dX6_passesTurn_15 : decode cX6_passesTurn 15 = .ok (.aload_n 0, 1) := by decide +kernel
theorem dX6_passesTurn_16 : decode cX6_passesTurn 16 = .ok (.invokevirtual 82, 3) := by decide +kernel
theorem dX6_passesTurn_19 : decode cX6_passesTurn 19 = .ok (.istore_n 2, 1) := by decide +kernel
theorem dX6_passesTurn_20 : decode cX6_passesTurn 20 = .ok (.aload_n 0, 1) := by decide +kernel
theorem dX6_passesTurn_21 : decode cX6_passesTurn 21 = .ok (.getfield 7, 3) := by decide +kernel
theorem dX6_passesTurn_24 : decode cX6_passesTurn 24 = .ok (.iconst 4, 1) := by decide +kernel
theorem dX6_passesTurn_25 : decode cX6_passesTurn 25 = .ok (.iload_n 2, 1) := by decide +kernel
theorem dX6_passesTurn_26 : decode cX6_passesTurn 26 = .ok (.ifCond .ge 12, 3) := by decide +kernel
theorem dX6_passesTurn_29 : decode cX6_passesTurn 29 = .ok (.aload_n 0, 1) := by decide +kernel
theorem dX6_passesTurn_30 : decode cX6_passesTurn 30 = .ok (.getfield 7, 3) := by decide +kernel
theorem dX6_passesTurn_33 : decode cX6_passesTurn 33 = .ok (.iconst 4, 1) := by decide +kernel
theorem dX6_passesTurn_34 : decode cX6_passesTurn 34 = .ok (.iaload, 1) := by decide +kernel
theorem dX6_passesTurn_35 : decode cX6_passesTurn 35 = .ok (.goto 4, 3) := by decide +kernel
theorem dX6_passesTurn_38 : decode cX6_passesTurn 38 = .ok (.iconst (-1), 1) := by decide +kernel
theorem dX6_passesTurn_39 : decode cX6_passesTurn 39 = .ok (.iastore, 1) := by decide +kernel
theorem dX6_passesTurn_40 : decode cX6_passesTurn 40 = .ok (.iload_n 1, 1) := by decide +kernel
theorem dX6_passesTurn_41 : decode cX6_passesTurn 41 = .ok (.ireturn, 1) := by decide +kernel
set_option maxRecDepth 20000 in
theorem ggX6_upcoming_X6_in : GoodIn wsX6_upcoming wsX6_in := goodIn_r _ [5] (by decide +kernel) (by decide +kernel)
set_option maxRecDepth 20000 in
theorem gX6_upcoming_X6_in : GoodIn wsX6_upcoming (va_wsS RX6 29 yX6_in wsX6_in) := goodIn_app (goodIn_of _ (by decide +kernel)) ggX6_upcoming_X6_in
set_option maxRecDepth 20000 in
theorem ggX6_upcoming_X6_fails : GoodIn wsX6_upcoming wsX6_fails := goodIn_r _ [9, 1, 92, 93, 94, 95, 96, 97, 98, 99, 100, 101, 102, 103] (by decide +kernel) (by decide +kernel)
set_option maxRecDepth 20000 in
theorem gX6_upcoming_X6_fails : GoodIn wsX6_upcoming (wsV RX6 103 RX6 yX6_fails wsX6_fails) := goodIn_app (goodIn_of _ (by decide +kernel)) ggX6_upcoming_X6_fails
set_option maxRecDepth 20000 in
theorem ggX6_upcoming_X6_hold : GoodIn wsX6_upcoming wsX6_hold := goodIn_ca (goodIn_r _ [13, 14, 15, 92, 93, 94, 95, 96, 97, 98, 99, 100, 101, 102, 103] (by decide +kernel) (by decide +kernel)) (goodIn_sub (fun _ h => List.mem_cons_of_mem _ (List.mem_append_right _ h)) (by decide +kernel))
set_option maxRecDepth 20000 in
theorem gX6_upcoming_X6_hold : GoodIn wsX6_upcoming (wsV RX6 154 RX6 yX6_hold wsX6_hold) := goodIn_app (goodIn_of _ (by decide +kernel)) ggX6_upcoming_X6_hold
set_option maxRecDepth 20000 in
theorem ggX6_upcoming_X6_clearTurn : GoodIn wsX6_upcoming wsX6_clearTurn := goodIn_ca (goodIn_r _ [19, 15, 20, 21, 22, 4, 23, 24, 25, 26, 27, 92, 93, 94, 95, 96, 97, 98, 99, 100, 101, 102, 103] (by decide +kernel) (by decide +kernel)) (goodIn_sub (fun _ h => List.mem_cons_of_mem _ (List.mem_append_right _ h)) (by decide +kernel))
set_option maxRecDepth 20000 in
theorem gX6_upcoming_X6_clearTurn : GoodIn wsX6_upcoming (wsV RX6 157 RX6 yX6_clearTurn wsX6_clearTurn) := goodIn_app (goodIn_of _ (by decide +kernel)) ggX6_upcoming_X6_clearTurn
set_option maxRecDepth 20000 in
theorem ggX6_upcoming_X6_passesTurn : GoodIn wsX6_upcoming wsX6_passesTurn := goodIn_ca (goodIn_r _ [31, 15, 32, 33, 34, 4, 35, 36, 37, 38, 39, 40, 41, 42, 43, 44, 45, 46, 47, 48, 49, 50, 51, 52, 53, 54, 55, 56, 57, 58, 59, 60, 61, 62, 63, 64, 65, 66, 67, 68, 69, 70, 71, 72, 73, 74, 75, 76, 77, 78, 79, 24, 25, 26, 27, 80, 81, 82, 83, 84, 85, 86, 87, 20, 21, 22, 23, 92, 93, 94, 95, 96, 97, 98, 99, 100, 101, 102, 103] (by decide +kernel) (by decide +kernel)) (goodIn_sub (fun _ h => List.mem_cons_of_mem _ (List.mem_append_right _ h)) (by decide +kernel))
set_option maxRecDepth 20000 in
theorem gX6_upcoming_X6_passesTurn : GoodIn wsX6_upcoming (wsV RX6 160 RX6 yX6_passesTurn wsX6_passesTurn) := goodIn_app (goodIn_of _ (by decide +kernel)) ggX6_upcoming_X6_passesTurn
set_option maxRecDepth 20000 in
theorem ggX6_upcoming_X6_release : GoodIn wsX6_upcoming wsX6_release := goodIn_ca (goodIn_r _ [91, 15, 14, 92, 93, 94, 95, 96, 97, 98, 99, 100, 101, 102, 103] (by decide +kernel) (by decide +kernel)) (goodIn_sub (fun _ h => List.mem_cons_of_mem _ (List.mem_append_right _ h)) (by decide +kernel))
set_option maxRecDepth 20000 in
theorem gX6_upcoming_X6_release : GoodIn wsX6_upcoming (wsV RX6 163 RX6 yX6_release wsX6_release) := goodIn_app (goodIn_of _ (by decide +kernel)) ggX6_upcoming_X6_release
theorem dX6_upcoming_0 : decode cX6_upcoming 0 = .ok (.aload_n 0, 1) := by decide +kernel
theorem dX6_upcoming_1 : decode cX6_upcoming 1 = .ok (.iconst 0, 1) := by decide +kernel
theorem dX6_upcoming_2 : decode cX6_upcoming 2 = .ok (.putfield 22, 3) := by decide +kernel
theorem dX6_upcoming_5 : decode cX6_upcoming 5 = .ok (.iload_n 1, 1) := by decide +kernel
theorem dX6_upcoming_6 : decode cX6_upcoming 6 = .ok (.iconst 0, 1) := by decide +kernel
theorem dX6_upcoming_7 : decode cX6_upcoming 7 = .ok (.bipush 40, 2) := by decide +kernel
theorem dX6_upcoming_9 : decode cX6_upcoming 9 = .ok (.invokestatic 29, 3) := by decide +kernel
theorem dX6_upcoming_12 : decode cX6_upcoming 12 = .ok (.ifCond .ne 9, 3) := by decide +kernel
theorem dX6_upcoming_15 : decode cX6_upcoming 15 = .ok (.aload_n 0, 1) := by decide +kernel
theorem dX6_upcoming_16 : decode cX6_upcoming 16 = .ok (.iconst 1, 1) := by decide +kernel
theorem dX6_upcoming_17 : decode cX6_upcoming 17 = .ok (.invokevirtual 103, 3) := by decide +kernel
theorem dX6_upcoming_20 : decode cX6_upcoming 20 = .ok (.ireturn, 1) := by decide +kernel
theorem dX6_upcoming_21 : decode cX6_upcoming 21 = .ok (.aload_n 0, 1) := by decide +kernel
theorem dX6_upcoming_22 : decode cX6_upcoming 22 = .ok (.invokevirtual 154, 3) := by decide +kernel
theorem dX6_upcoming_25 : decode cX6_upcoming 25 = .ok (.aload_n 0, 1) := by decide +kernel
theorem dX6_upcoming_26 : decode cX6_upcoming 26 = .ok (.invokevirtual 157, 3) := by decide +kernel
theorem dX6_upcoming_29 : decode cX6_upcoming 29 = .ok (.aload_n 0, 1) := by decide +kernel
theorem dX6_upcoming_30 : decode cX6_upcoming 30 = .ok (.invokevirtual 160, 3) := by decide +kernel
theorem dX6_upcoming_33 : decode cX6_upcoming 33 = .ok (.istore_n 2, 1) := by decide +kernel
theorem dX6_upcoming_34 : decode cX6_upcoming 34 = .ok (.iconst 0, 1) := by decide +kernel
theorem dX6_upcoming_35 : decode cX6_upcoming 35 = .ok (.istore_n 3, 1) := by decide +kernel
theorem dX6_upcoming_36 : decode cX6_upcoming 36 = .ok (.iload_n 3, 1) := by decide +kernel
theorem dX6_upcoming_37 : decode cX6_upcoming 37 = .ok (.iload_n 1, 1) := by decide +kernel
theorem dX6_upcoming_38 : decode cX6_upcoming 38 = .ok (.if_icmp .ge 19, 3) := by decide +kernel
theorem dX6_upcoming_41 : decode cX6_upcoming 41 = .ok (.iload_n 2, 1) := by decide +kernel
theorem dX6_upcoming_42 : decode cX6_upcoming 42 = .ok (.iconst (-1), 1) := by decide +kernel
theorem dX6_upcoming_43 : decode cX6_upcoming 43 = .ok (.if_icmp .eq 14, 3) := by decide +kernel
theorem dX6_upcoming_46 : decode cX6_upcoming 46 = .ok (.aload_n 0, 1) := by decide +kernel
theorem dX6_upcoming_47 : decode cX6_upcoming 47 = .ok (.invokevirtual 160, 3) := by decide +kernel
theorem dX6_upcoming_50 : decode cX6_upcoming 50 = .ok (.istore_n 2, 1) := by decide +kernel
theorem dX6_upcoming_51 : decode cX6_upcoming 51 = .ok (.iinc 3 1, 3) := by decide +kernel
theorem dX6_upcoming_54 : decode cX6_upcoming 54 = .ok (.goto (-18), 3) := by decide +kernel
theorem dX6_upcoming_57 : decode cX6_upcoming 57 = .ok (.aload_n 0, 1) := by decide +kernel
theorem dX6_upcoming_58 : decode cX6_upcoming 58 = .ok (.invokevirtual 163, 3) := by decide +kernel
theorem dX6_upcoming_61 : decode cX6_upcoming 61 = .ok (.iload_n 2, 1) := by decide +kernel
theorem dX6_upcoming_62 : decode cX6_upcoming 62 = .ok (.ireturn, 1) := by decide +kernel
set_option maxRecDepth 20000 in
theorem ggX6_isThere_X6_ofEffect : GoodIn wsX6_isThere wsX6_ofEffect := goodIn_ca (goodIn_r _ [6, 1, 7, 8, 9, 10, 11, 12, 13, 14, 15, 16, 17, 18] (by decide +kernel) (by decide +kernel)) (goodIn_sub (fun _ h => List.mem_cons_of_mem _ (List.mem_append_right _ h)) (by decide +kernel))
set_option maxRecDepth 20000 in
theorem gX6_isThere_X6_ofEffect : GoodIn wsX6_isThere (wsV RX6 37 RX6 yX6_ofEffect wsX6_ofEffect) := goodIn_app (goodIn_of _ (by decide +kernel)) ggX6_isThere_X6_ofEffect
theorem dX6_isThere_0 : decode cX6_isThere 0 = .ok (.iconst 0, 1) := by decide +kernel
theorem dX6_isThere_1 : decode cX6_isThere 1 = .ok (.istore_n 2, 1) := by decide +kernel
theorem dX6_isThere_2 : decode cX6_isThere 2 = .ok (.iconst 0, 1) := by decide +kernel
theorem dX6_isThere_3 : decode cX6_isThere 3 = .ok (.istore_n 3, 1) := by decide +kernel
theorem dX6_isThere_4 : decode cX6_isThere 4 = .ok (.iload_n 3, 1) := by decide +kernel
theorem dX6_isThere_5 : decode cX6_isThere 5 = .ok (.aload_n 0, 1) := by decide +kernel
theorem dX6_isThere_6 : decode cX6_isThere 6 = .ok (.getfield 7, 3) := by decide +kernel
theorem dX6_isThere_9 : decode cX6_isThere 9 = .ok (.iconst 1, 1) := by decide +kernel
theorem dX6_isThere_10 : decode cX6_isThere 10 = .ok (.iaload, 1) := by decide +kernel
theorem dX6_isThere_11 : decode cX6_isThere 11 = .ok (.if_icmp .ge 30, 3) := by decide +kernel
theorem dX6_isThere_14 : decode cX6_isThere 14 = .ok (.iload_n 2, 1) := by decide +kernel
theorem dX6_isThere_15 : decode cX6_isThere 15 = .ok (.ifCond .ne 14, 3) := by decide +kernel
theorem dX6_isThere_18 : decode cX6_isThere 18 = .ok (.aload_n 0, 1) := by decide +kernel
theorem dX6_isThere_19 : decode cX6_isThere 19 = .ok (.iload_n 3, 1) := by decide +kernel
theorem dX6_isThere_20 : decode cX6_isThere 20 = .ok (.bipush 7, 2) := by decide +kernel
theorem dX6_isThere_22 : decode cX6_isThere 22 = .ok (.invokevirtual 37, 3) := by decide +kernel
theorem dX6_isThere_25 : decode cX6_isThere 25 = .ok (.iload_n 1, 1) := by decide +kernel
theorem dX6_isThere_26 : decode cX6_isThere 26 = .ok (.if_icmp .ne 7, 3) := by decide +kernel
theorem dX6_isThere_29 : decode cX6_isThere 29 = .ok (.iconst 1, 1) := by decide +kernel
theorem dX6_isThere_30 : decode cX6_isThere 30 = .ok (.goto 4, 3) := by decide +kernel
theorem dX6_isThere_33 : decode cX6_isThere 33 = .ok (.iconst 0, 1) := by decide +kernel
theorem dX6_isThere_34 : decode cX6_isThere 34 = .ok (.istore_n 2, 1) := by decide +kernel
theorem dX6_isThere_35 : decode cX6_isThere 35 = .ok (.iinc 3 1, 3) := by decide +kernel
theorem dX6_isThere_38 : decode cX6_isThere 38 = .ok (.goto (-34), 3) := by decide +kernel
theorem dX6_isThere_41 : decode cX6_isThere 41 = .ok (.iload_n 2, 1) := by decide +kernel
theorem dX6_isThere_42 : decode cX6_isThere 42 = .ok (.ireturn, 1) := by decide +kernel
set_option maxRecDepth 20000 in
theorem ggX6_goneAfter_X6_in : GoodIn wsX6_goneAfter wsX6_in := goodIn_r _ [6] (by decide +kernel) (by decide +kernel)
set_option maxRecDepth 20000 in
theorem gX6_goneAfter_X6_in : GoodIn wsX6_goneAfter (va_wsS RX6 29 yX6_in wsX6_in) := goodIn_app (goodIn_of _ (by decide +kernel)) ggX6_goneAfter_X6_in
set_option maxRecDepth 20000 in
theorem ggX6_goneAfter_X6_fails : GoodIn wsX6_goneAfter wsX6_fails := goodIn_r _ [10, 1, 96, 97, 98, 99, 100, 101, 102, 103, 104, 105, 106, 107] (by decide +kernel) (by decide +kernel)
set_option maxRecDepth 20000 in
theorem gX6_goneAfter_X6_fails : GoodIn wsX6_goneAfter (wsV RX6 103 RX6 yX6_fails wsX6_fails) := goodIn_app (goodIn_of _ (by decide +kernel)) ggX6_goneAfter_X6_fails
set_option maxRecDepth 20000 in
theorem ggX6_goneAfter_X6_ofEffect : GoodIn wsX6_goneAfter wsX6_ofEffect := goodIn_ca (goodIn_r _ [14, 2, 96, 97, 98, 99, 100, 101, 102, 103, 104, 105, 106, 107] (by decide +kernel) (by decide +kernel)) (goodIn_sub (fun _ h => List.mem_cons_of_mem _ (List.mem_append_right _ h)) (by decide +kernel))
set_option maxRecDepth 20000 in
theorem gX6_goneAfter_X6_ofEffect : GoodIn wsX6_goneAfter (wsV RX6 37 RX6 yX6_ofEffect wsX6_ofEffect) := goodIn_app (goodIn_of _ (by decide +kernel)) ggX6_goneAfter_X6_ofEffect
set_option maxRecDepth 20000 in
theorem ggX6_goneAfter_X6_hold : GoodIn wsX6_goneAfter wsX6_hold := goodIn_ca (goodIn_r _ [18, 19, 2, 96, 97, 98, 99, 100, 101, 102, 103, 104, 105, 106, 107] (by decide +kernel) (by decide +kernel)) (goodIn_sub (fun _ h => List.mem_cons_of_mem _ (List.mem_append_right _ h)) (by decide +kernel))
set_option maxRecDepth 20000 in
theorem gX6_goneAfter_X6_hold : GoodIn wsX6_goneAfter (wsV RX6 154 RX6 yX6_hold wsX6_hold) := goodIn_app (goodIn_of _ (by decide +kernel)) ggX6_goneAfter_X6_hold
set_option maxRecDepth 20000 in
theorem ggX6_goneAfter_X6_clearTurn : GoodIn wsX6_goneAfter wsX6_clearTurn := goodIn_ca (goodIn_r _ [23, 2, 24, 25, 26, 5, 27, 28, 29, 30, 31, 96, 97, 98, 99, 100, 101, 102, 103, 104, 105, 106, 107] (by decide +kernel) (by decide +kernel)) (goodIn_sub (fun _ h => List.mem_cons_of_mem _ (List.mem_append_right _ h)) (by decide +kernel))
set_option maxRecDepth 20000 in
theorem gX6_goneAfter_X6_clearTurn : GoodIn wsX6_goneAfter (wsV RX6 157 RX6 yX6_clearTurn wsX6_clearTurn) := goodIn_app (goodIn_of _ (by decide +kernel)) ggX6_goneAfter_X6_clearTurn
set_option maxRecDepth 20000 in
theorem ggX6_goneAfter_X6_isThere : GoodIn wsX6_goneAfter wsX6_isThere := goodIn_ca (goodIn_r _ [35, 2, 11, 12, 13, 5, 14, 96, 97, 98, 99, 100, 101, 102, 103, 104, 105, 106, 107] (by decide +kernel) (by decide +kernel)) (goodIn_sub (fun _ h => List.mem_cons_of_mem _ (List.mem_append_right _ h)) (by decide +kernel))
set_option maxRecDepth 20000 in
theorem gX6_goneAfter_X6_isThere : GoodIn wsX6_goneAfter (wsV RX6 166 RX6 yX6_isThere wsX6_isThere) := goodIn_app (goodIn_of _ (by decide +kernel)) ggX6_goneAfter_X6_isThere
set_option maxRecDepth 20000 in
theorem ggX6_goneAfter_X6_passesTurn : GoodIn wsX6_goneAfter wsX6_passesTurn := goodIn_ca (goodIn_r _ [39, 2, 40, 41, 42, 5, 43, 44, 45, 46, 47, 48, 49, 50, 51, 52, 53, 54, 55, 56, 57, 58, 59, 60, 61, 62, 63, 64, 65, 66, 67, 68, 69, 70, 71, 11, 12, 13, 14, 72, 73, 74, 75, 76, 77, 78, 79, 80, 81, 82, 83, 28, 29, 30, 31, 84, 85, 86, 87, 88, 89, 90, 91, 24, 25, 26, 27, 96, 97, 98, 99, 100, 101, 102, 103, 104, 105, 106, 107] (by decide +kernel) (by decide +kernel)) (goodIn_sub (fun _ h => List.mem_cons_of_mem _ (List.mem_append_right _ h)) (by decide +kernel))
set_option maxRecDepth 20000 in
theorem gX6_goneAfter_X6_passesTurn : GoodIn wsX6_goneAfter (wsV RX6 160 RX6 yX6_passesTurn wsX6_passesTurn) := goodIn_app (goodIn_of _ (by decide +kernel)) ggX6_goneAfter_X6_passesTurn
set_option maxRecDepth 20000 in
theorem ggX6_goneAfter_X6_release : GoodIn wsX6_goneAfter wsX6_release := goodIn_ca (goodIn_r _ [95, 2, 19, 96, 97, 98, 99, 100, 101, 102, 103, 104, 105, 106, 107] (by decide +kernel) (by decide +kernel)) (goodIn_sub (fun _ h => List.mem_cons_of_mem _ (List.mem_append_right _ h)) (by decide +kernel))
set_option maxRecDepth 20000 in
theorem gX6_goneAfter_X6_release : GoodIn wsX6_goneAfter (wsV RX6 163 RX6 yX6_release wsX6_release) := goodIn_app (goodIn_of _ (by decide +kernel)) ggX6_goneAfter_X6_release
theorem dX6_goneAfter_0 : decode cX6_goneAfter 0 = .ok (.aload_n 0, 1) := by decide +kernel
theorem dX6_goneAfter_1 : decode cX6_goneAfter 1 = .ok (.iconst 0, 1) := by decide +kernel
theorem dX6_goneAfter_2 : decode cX6_goneAfter 2 = .ok (.putfield 22, 3) := by decide +kernel
theorem dX6_goneAfter_5 : decode cX6_goneAfter 5 = .ok (.iload_n 1, 1) := by decide +kernel
theorem dX6_goneAfter_6 : decode cX6_goneAfter 6 = .ok (.iconst 0, 1) := by decide +kernel
theorem dX6_goneAfter_7 : decode cX6_goneAfter 7 = .ok (.aload_n 0, 1) := by decide +kernel
theorem dX6_goneAfter_8 : decode cX6_goneAfter 8 = .ok (.getfield 7, 3) := by decide +kernel
theorem dX6_goneAfter_11 : decode cX6_goneAfter 11 = .ok (.iconst 1, 1) := by decide +kernel
theorem dX6_goneAfter_12 : decode cX6_goneAfter 12 = .ok (.iaload, 1) := by decide +kernel
theorem dX6_goneAfter_13 : decode cX6_goneAfter 13 = .ok (.iconst 1, 1) := by decide +kernel
theorem dX6_goneAfter_14 : decode cX6_goneAfter 14 = .ok (.isub, 1) := by decide +kernel
theorem dX6_goneAfter_15 : decode cX6_goneAfter 15 = .ok (.invokestatic 29, 3) := by decide +kernel
theorem dX6_goneAfter_18 : decode cX6_goneAfter 18 = .ok (.ifCond .ne 9, 3) := by decide +kernel
theorem dX6_goneAfter_21 : decode cX6_goneAfter 21 = .ok (.aload_n 0, 1) := by decide +kernel
theorem dX6_goneAfter_22 : decode cX6_goneAfter 22 = .ok (.iconst 1, 1) := by decide +kernel
theorem dX6_goneAfter_23 : decode cX6_goneAfter 23 = .ok (.invokevirtual 103, 3) := by decide +kernel
theorem dX6_goneAfter_26 : decode cX6_goneAfter 26 = .ok (.ireturn, 1) := by decide +kernel
theorem dX6_goneAfter_27 : decode cX6_goneAfter 27 = .ok (.aload_n 0, 1) := by decide +kernel
theorem dX6_goneAfter_28 : decode cX6_goneAfter 28 = .ok (.iload_n 1, 1) := by decide +kernel
theorem dX6_goneAfter_29 : decode cX6_goneAfter 29 = .ok (.bipush 7, 2) := by decide +kernel
theorem dX6_goneAfter_31 : decode cX6_goneAfter 31 = .ok (.invokevirtual 37, 3) := by decide +kernel
theorem dX6_goneAfter_34 : decode cX6_goneAfter 34 = .ok (.istore_n 2, 1) := by decide +kernel
theorem dX6_goneAfter_35 : decode cX6_goneAfter 35 = .ok (.aload_n 0, 1) := by decide +kernel
theorem dX6_goneAfter_36 : decode cX6_goneAfter 36 = .ok (.invokevirtual 154, 3) := by decide +kernel
theorem dX6_goneAfter_39 : decode cX6_goneAfter 39 = .ok (.aload_n 0, 1) := by decide +kernel
theorem dX6_goneAfter_40 : decode cX6_goneAfter 40 = .ok (.invokevirtual 157, 3) := by decide +kernel
theorem dX6_goneAfter_43 : decode cX6_goneAfter 43 = .ok (.iconst 0, 1) := by decide +kernel
theorem dX6_goneAfter_44 : decode cX6_goneAfter 44 = .ok (.istore_n 3, 1) := by decide +kernel
theorem dX6_goneAfter_45 : decode cX6_goneAfter 45 = .ok (.iconst 1, 1) := by decide +kernel
theorem dX6_goneAfter_46 : decode cX6_goneAfter 46 = .ok (.istore 4, 2) := by decide +kernel
theorem dX6_goneAfter_48 : decode cX6_goneAfter 48 = .ok (.iload 4, 2) := by decide +kernel
theorem dX6_goneAfter_50 : decode cX6_goneAfter 50 = .ok (.ifCond .eq 48, 3) := by decide +kernel
theorem dX6_goneAfter_53 : decode cX6_goneAfter 53 = .ok (.aload_n 0, 1) := by decide +kernel
theorem dX6_goneAfter_54 : decode cX6_goneAfter 54 = .ok (.iload_n 2, 1) := by decide +kernel
theorem dX6_goneAfter_55 : decode cX6_goneAfter 55 = .ok (.invokevirtual 166, 3) := by decide +kernel
theorem dX6_goneAfter_58 : decode cX6_goneAfter 58 = .ok (.ifCond .eq 40, 3) := by decide +kernel
theorem dX6_goneAfter_61 : decode cX6_goneAfter 61 = .ok (.iload_n 3, 1) := by decide +kernel
theorem dX6_goneAfter_62 : decode cX6_goneAfter 62 = .ok (.bipush 60, 2) := by decide +kernel
theorem dX6_goneAfter_64 : decode cX6_goneAfter 64 = .ok (.if_icmp .ge 34, 3) := by decide +kernel
theorem dX6_goneAfter_67 : decode cX6_goneAfter 67 = .ok (.aload_n 0, 1) := by decide +kernel
theorem dX6_goneAfter_68 : decode cX6_goneAfter 68 = .ok (.invokevirtual 160, 3) := by decide +kernel
theorem dX6_goneAfter_71 : decode cX6_goneAfter 71 = .ok (.iconst (-1), 1) := by decide +kernel
theorem dX6_goneAfter_72 : decode cX6_goneAfter 72 = .ok (.if_icmp .eq 7, 3) := by decide +kernel
theorem dX6_goneAfter_75 : decode cX6_goneAfter 75 = .ok (.iconst 1, 1) := by decide +kernel
theorem dX6_goneAfter_76 : decode cX6_goneAfter 76 = .ok (.goto 4, 3) := by decide +kernel
theorem dX6_goneAfter_79 : decode cX6_goneAfter 79 = .ok (.iconst 0, 1) := by decide +kernel
theorem dX6_goneAfter_80 : decode cX6_goneAfter 80 = .ok (.istore 4, 2) := by decide +kernel
theorem dX6_goneAfter_82 : decode cX6_goneAfter 82 = .ok (.iload_n 3, 1) := by decide +kernel
theorem dX6_goneAfter_83 : decode cX6_goneAfter 83 = .ok (.iload 4, 2) := by decide +kernel
theorem dX6_goneAfter_85 : decode cX6_goneAfter 85 = .ok (.ifCond .eq 7, 3) := by decide +kernel
theorem dX6_goneAfter_88 : decode cX6_goneAfter 88 = .ok (.iconst 1, 1) := by decide +kernel
theorem dX6_goneAfter_89 : decode cX6_goneAfter 89 = .ok (.goto 4, 3) := by decide +kernel
theorem dX6_goneAfter_92 : decode cX6_goneAfter 92 = .ok (.iconst 0, 1) := by decide +kernel
theorem dX6_goneAfter_93 : decode cX6_goneAfter 93 = .ok (.iadd, 1) := by decide +kernel
theorem dX6_goneAfter_94 : decode cX6_goneAfter 94 = .ok (.istore_n 3, 1) := by decide +kernel
theorem dX6_goneAfter_95 : decode cX6_goneAfter 95 = .ok (.goto (-47), 3) := by decide +kernel
theorem dX6_goneAfter_98 : decode cX6_goneAfter 98 = .ok (.aload_n 0, 1) := by decide +kernel
theorem dX6_goneAfter_99 : decode cX6_goneAfter 99 = .ok (.iload_n 2, 1) := by decide +kernel
theorem dX6_goneAfter_100 : decode cX6_goneAfter 100 = .ok (.invokevirtual 166, 3) := by decide +kernel
theorem dX6_goneAfter_103 : decode cX6_goneAfter 103 = .ok (.istore 5, 2) := by decide +kernel
theorem dX6_goneAfter_105 : decode cX6_goneAfter 105 = .ok (.aload_n 0, 1) := by decide +kernel
theorem dX6_goneAfter_106 : decode cX6_goneAfter 106 = .ok (.invokevirtual 163, 3) := by decide +kernel
theorem dX6_goneAfter_109 : decode cX6_goneAfter 109 = .ok (.iload 5, 2) := by decide +kernel
theorem dX6_goneAfter_111 : decode cX6_goneAfter 111 = .ok (.ifCond .eq 7, 3) := by decide +kernel
theorem dX6_goneAfter_114 : decode cX6_goneAfter 114 = .ok (.iconst (-1), 1) := by decide +kernel
theorem dX6_goneAfter_115 : decode cX6_goneAfter 115 = .ok (.goto 4, 3) := by decide +kernel
theorem dX6_goneAfter_118 : decode cX6_goneAfter 118 = .ok (.iload_n 3, 1) := by decide +kernel
theorem dX6_goneAfter_119 : decode cX6_goneAfter 119 = .ok (.ireturn, 1) := by decide +kernel
set_option maxRecDepth 20000 in
theorem ggX6_lives_X6_of : GoodIn wsX6_lives wsX6_of := goodIn_ca (goodIn_r _ [6, 1, 7, 8, 9, 10, 11, 12, 13, 14, 15, 16, 17, 18] (by decide +kernel) (by decide +kernel)) (goodIn_sub (fun _ h => List.mem_cons_of_mem _ (List.mem_append_right _ h)) (by decide +kernel))
set_option maxRecDepth 20000 in
theorem gX6_lives_X6_of : GoodIn wsX6_lives (wsV RX6 33 RX6 yX6_of wsX6_of) := goodIn_app (goodIn_of _ (by decide +kernel)) ggX6_lives_X6_of
theorem dX6_lives_0 : decode cX6_lives 0 = .ok (.iconst 0, 1) := by decide +kernel
theorem dX6_lives_1 : decode cX6_lives 1 = .ok (.istore_n 2, 1) := by decide +kernel
theorem dX6_lives_2 : decode cX6_lives 2 = .ok (.iconst 0, 1) := by decide +kernel
theorem dX6_lives_3 : decode cX6_lives 3 = .ok (.istore_n 3, 1) := by decide +kernel
theorem dX6_lives_4 : decode cX6_lives 4 = .ok (.iload_n 3, 1) := by decide +kernel
theorem dX6_lives_5 : decode cX6_lives 5 = .ok (.aload_n 0, 1) := by decide +kernel
theorem dX6_lives_6 : decode cX6_lives 6 = .ok (.getfield 7, 3) := by decide +kernel
theorem dX6_lives_9 : decode cX6_lives 9 = .ok (.iconst 0, 1) := by decide +kernel
theorem dX6_lives_10 : decode cX6_lives 10 = .ok (.iaload, 1) := by decide +kernel
theorem dX6_lives_11 : decode cX6_lives 11 = .ok (.if_icmp .ge 18, 3) := by decide +kernel
theorem dX6_lives_14 : decode cX6_lives 14 = .ok (.iload_n 2, 1) := by decide +kernel
theorem dX6_lives_15 : decode cX6_lives 15 = .ok (.aload_n 0, 1) := by decide +kernel
theorem dX6_lives_16 : decode cX6_lives 16 = .ok (.iload_n 3, 1) := by decide +kernel
theorem dX6_lives_17 : decode cX6_lives 17 = .ok (.iload_n 1, 1) := by decide +kernel
theorem dX6_lives_18 : decode cX6_lives 18 = .ok (.invokevirtual 33, 3) := by decide +kernel
theorem dX6_lives_21 : decode cX6_lives 21 = .ok (.iadd, 1) := by decide +kernel
theorem dX6_lives_22 : decode cX6_lives 22 = .ok (.istore_n 2, 1) := by decide +kernel
theorem dX6_lives_23 : decode cX6_lives 23 = .ok (.iinc 3 1, 3) := by decide +kernel
theorem dX6_lives_26 : decode cX6_lives 26 = .ok (.goto (-22), 3) := by decide +kernel
theorem dX6_lives_29 : decode cX6_lives 29 = .ok (.iload_n 2, 1) := by decide +kernel
theorem dX6_lives_30 : decode cX6_lives 30 = .ok (.ireturn, 1) := by decide +kernel
set_option maxRecDepth 20000 in
theorem ggX6_lifeSettled_X6_hold : GoodIn wsX6_lifeSettled wsX6_hold := goodIn_ca (goodIn_r _ [6, 7, 8, 73, 74, 75, 76, 77, 78, 79, 80, 81, 82, 83, 84] (by decide +kernel) (by decide +kernel)) (goodIn_sub (fun _ h => List.mem_cons_of_mem _ (List.mem_append_right _ h)) (by decide +kernel))
set_option maxRecDepth 20000 in
theorem gX6_lifeSettled_X6_hold : GoodIn wsX6_lifeSettled (wsV RX6 154 RX6 yX6_hold wsX6_hold) := goodIn_app (goodIn_of _ (by decide +kernel)) ggX6_lifeSettled_X6_hold
set_option maxRecDepth 20000 in
theorem ggX6_lifeSettled_X6_settles : GoodIn wsX6_lifeSettled wsX6_settles := goodIn_ca (goodIn_r _ [12, 8, 13, 14, 15, 5, 16, 17, 18, 19, 20, 21, 22, 23, 24, 25, 26, 27, 28, 29, 30, 31, 32, 33, 34, 35, 36, 37, 38, 39, 40, 41, 42, 43, 44, 45, 46, 47, 48, 49, 50, 51, 52, 53, 54, 55, 56, 57, 58, 59, 60, 61, 62, 63, 64, 73, 74, 75, 76, 77, 78, 79, 80, 81, 82, 83, 84] (by decide +kernel) (by decide +kernel)) (goodIn_sub (fun _ h => List.mem_cons_of_mem _ (List.mem_append_right _ h)) (by decide +kernel))
set_option maxRecDepth 20000 in
theorem gX6_lifeSettled_X6_settles : GoodIn wsX6_lifeSettled (wsV RX6 151 RX6 yX6_settles wsX6_settles) := goodIn_app (goodIn_of _ (by decide +kernel)) ggX6_lifeSettled_X6_settles
set_option maxRecDepth 20000 in
theorem ggX6_lifeSettled_X6_lives : GoodIn wsX6_lifeSettled wsX6_lives := goodIn_ca (goodIn_r _ [68, 8, 21, 22, 23, 5, 24, 73, 74, 75, 76, 77, 78, 79, 80, 81, 82, 83, 84] (by decide +kernel) (by decide +kernel)) (goodIn_sub (fun _ h => List.mem_cons_of_mem _ (List.mem_append_right _ h)) (by decide +kernel))
set_option maxRecDepth 20000 in
theorem gX6_lifeSettled_X6_lives : GoodIn wsX6_lifeSettled (wsV RX6 169 RX6 yX6_lives wsX6_lives) := goodIn_app (goodIn_of _ (by decide +kernel)) ggX6_lifeSettled_X6_lives
set_option maxRecDepth 20000 in
theorem ggX6_lifeSettled_X6_release : GoodIn wsX6_lifeSettled wsX6_release := goodIn_ca (goodIn_r _ [72, 8, 7, 73, 74, 75, 76, 77, 78, 79, 80, 81, 82, 83, 84] (by decide +kernel) (by decide +kernel)) (goodIn_sub (fun _ h => List.mem_cons_of_mem _ (List.mem_append_right _ h)) (by decide +kernel))
set_option maxRecDepth 20000 in
theorem gX6_lifeSettled_X6_release : GoodIn wsX6_lifeSettled (wsV RX6 163 RX6 yX6_release wsX6_release) := goodIn_app (goodIn_of _ (by decide +kernel)) ggX6_lifeSettled_X6_release
theorem dX6_lifeSettled_0 : decode cX6_lifeSettled 0 = .ok (.aload_n 0, 1) := by decide +kernel
theorem dX6_lifeSettled_1 : decode cX6_lifeSettled 1 = .ok (.iconst 0, 1) := by decide +kernel
theorem dX6_lifeSettled_2 : decode cX6_lifeSettled 2 = .ok (.putfield 22, 3) := by decide +kernel
theorem dX6_lifeSettled_5 : decode cX6_lifeSettled 5 = .ok (.aload_n 0, 1) := by decide +kernel
theorem dX6_lifeSettled_6 : decode cX6_lifeSettled 6 = .ok (.invokevirtual 154, 3) := by decide +kernel
theorem dX6_lifeSettled_9 : decode cX6_lifeSettled 9 = .ok (.aload_n 0, 1) := by decide +kernel
theorem dX6_lifeSettled_10 : decode cX6_lifeSettled 10 = .ok (.invokevirtual 151, 3) := by decide +kernel
theorem dX6_lifeSettled_13 : decode cX6_lifeSettled 13 = .ok (.istore_n 1, 1) := by decide +kernel
theorem dX6_lifeSettled_14 : decode cX6_lifeSettled 14 = .ok (.iload_n 1, 1) := by decide +kernel
theorem dX6_lifeSettled_15 : decode cX6_lifeSettled 15 = .ok (.ifCond .ge 7, 3) := by decide +kernel
theorem dX6_lifeSettled_18 : decode cX6_lifeSettled 18 = .ok (.iconst 0, 1) := by decide +kernel
theorem dX6_lifeSettled_19 : decode cX6_lifeSettled 19 = .ok (.goto 8, 3) := by decide +kernel
theorem dX6_lifeSettled_22 : decode cX6_lifeSettled 22 = .ok (.aload_n 0, 1) := by decide +kernel
theorem dX6_lifeSettled_23 : decode cX6_lifeSettled 23 = .ok (.iconst 2, 1) := by decide +kernel
theorem dX6_lifeSettled_24 : decode cX6_lifeSettled 24 = .ok (.invokevirtual 169, 3) := by decide +kernel
theorem dX6_lifeSettled_27 : decode cX6_lifeSettled 27 = .ok (.istore_n 2, 1) := by decide +kernel
theorem dX6_lifeSettled_28 : decode cX6_lifeSettled 28 = .ok (.aload_n 0, 1) := by decide +kernel
theorem dX6_lifeSettled_29 : decode cX6_lifeSettled 29 = .ok (.invokevirtual 163, 3) := by decide +kernel
theorem dX6_lifeSettled_32 : decode cX6_lifeSettled 32 = .ok (.iload_n 2, 1) := by decide +kernel
theorem dX6_lifeSettled_33 : decode cX6_lifeSettled 33 = .ok (.ireturn, 1) := by decide +kernel
set_option maxRecDepth 20000 in
theorem ggX6_vigor_X6_lives : GoodIn wsX6_vigor wsX6_lives := goodIn_ca (goodIn_r _ [7, 2, 8, 9, 10, 6, 11, 12, 13, 14, 15, 16, 17, 18, 19, 20, 21, 22, 23] (by decide +kernel) (by decide +kernel)) (goodIn_sub (fun _ h => List.mem_cons_of_mem _ (List.mem_append_right _ h)) (by decide +kernel))
set_option maxRecDepth 20000 in
theorem gX6_vigor_X6_lives : GoodIn wsX6_vigor (wsV RX6 169 RX6 yX6_lives wsX6_lives) := goodIn_app (goodIn_of _ (by decide +kernel)) ggX6_vigor_X6_lives
theorem dX6_vigor_0 : decode cX6_vigor 0 = .ok (.aload_n 0, 1) := by decide +kernel
theorem dX6_vigor_1 : decode cX6_vigor 1 = .ok (.iconst 0, 1) := by decide +kernel
theorem dX6_vigor_2 : decode cX6_vigor 2 = .ok (.putfield 22, 3) := by decide +kernel
theorem dX6_vigor_5 : decode cX6_vigor 5 = .ok (.aload_n 0, 1) := by decide +kernel
theorem dX6_vigor_6 : decode cX6_vigor 6 = .ok (.getfield 7, 3) := by decide +kernel
theorem dX6_vigor_9 : decode cX6_vigor 9 = .ok (.iconst 0, 1) := by decide +kernel
theorem dX6_vigor_10 : decode cX6_vigor 10 = .ok (.iaload, 1) := by decide +kernel
theorem dX6_vigor_11 : decode cX6_vigor 11 = .ok (.ifCond .ne 7, 3) := by decide +kernel
theorem dX6_vigor_14 : decode cX6_vigor 14 = .ok (.dconst 0, 1) := by decide +kernel
theorem dX6_vigor_15 : decode cX6_vigor 15 = .ok (.goto 16, 3) := by decide +kernel
theorem dX6_vigor_18 : decode cX6_vigor 18 = .ok (.aload_n 0, 1) := by decide +kernel
theorem dX6_vigor_19 : decode cX6_vigor 19 = .ok (.iconst 2, 1) := by decide +kernel
theorem dX6_vigor_20 : decode cX6_vigor 20 = .ok (.invokevirtual 169, 3) := by decide +kernel
theorem dX6_vigor_23 : decode cX6_vigor 23 = .ok (.i2d, 1) := by decide +kernel
theorem dX6_vigor_24 : decode cX6_vigor 24 = .ok (.aload_n 0, 1) := by decide +kernel
theorem dX6_vigor_25 : decode cX6_vigor 25 = .ok (.iconst 1, 1) := by decide +kernel
theorem dX6_vigor_26 : decode cX6_vigor 26 = .ok (.invokevirtual 169, 3) := by decide +kernel
theorem dX6_vigor_29 : decode cX6_vigor 29 = .ok (.i2d, 1) := by decide +kernel
theorem dX6_vigor_30 : decode cX6_vigor 30 = .ok (.ddiv, 1) := by decide +kernel
theorem dX6_vigor_31 : decode cX6_vigor 31 = .ok (.dreturn, 1) := by decide +kernel
set_option maxRecDepth 20000 in
theorem ggX6_append_X6_in : GoodIn wsX6_append wsX6_in := goodIn_r _ [7] (by decide +kernel) (by decide +kernel)
set_option maxRecDepth 20000 in
theorem gX6_append_X6_in : GoodIn wsX6_append (va_wsS RX6 29 yX6_in wsX6_in) := goodIn_app (goodIn_of _ (by decide +kernel)) ggX6_append_X6_in
set_option maxRecDepth 20000 in
theorem ggX6_append_X6_fails : GoodIn wsX6_append wsX6_fails := goodIn_r _ [11, 1, 12, 13, 14, 15, 16, 17, 18, 19, 20, 21, 22, 23] (by decide +kernel) (by decide +kernel)
set_option maxRecDepth 20000 in
theorem gX6_append_X6_fails : GoodIn wsX6_append (wsV RX6 103 RX6 yX6_fails wsX6_fails) := goodIn_app (goodIn_of _ (by decide +kernel)) ggX6_append_X6_fails
theorem dX6_append_0 : decode cX6_append 0 = .ok (.aload_n 0, 1) := by decide +kernel
theorem dX6_append_1 : decode cX6_append 1 = .ok (.iconst 0, 1) := by decide +kernel
theorem dX6_append_2 : decode cX6_append 2 = .ok (.putfield 22, 3) := by decide +kernel
theorem dX6_append_5 : decode cX6_append 5 = .ok (.iload_n 1, 1) := by decide +kernel
theorem dX6_append_6 : decode cX6_append 6 = .ok (.iconst 0, 1) := by decide +kernel
theorem dX6_append_7 : decode cX6_append 7 = .ok (.bipush 127, 2) := by decide +kernel
theorem dX6_append_9 : decode cX6_append 9 = .ok (.invokestatic 29, 3) := by decide +kernel
theorem dX6_append_12 : decode cX6_append 12 = .ok (.ifCond .ne 9, 3) := by decide +kernel
theorem dX6_append_15 : decode cX6_append 15 = .ok (.aload_n 0, 1) := by decide +kernel
theorem dX6_append_16 : decode cX6_append 16 = .ok (.iconst 1, 1) := by decide +kernel
theorem dX6_append_17 : decode cX6_append 17 = .ok (.invokevirtual 103, 3) := by decide +kernel
theorem dX6_append_20 : decode cX6_append 20 = .ok (.ireturn, 1) := by decide +kernel
theorem dX6_append_21 : decode cX6_append 21 = .ok (.aload_n 0, 1) := by decide +kernel
theorem dX6_append_22 : decode cX6_append 22 = .ok (.getfield 172, 3) := by decide +kernel
theorem dX6_append_25 : decode cX6_append 25 = .ok (.bipush 120, 2) := by decide +kernel
theorem dX6_append_27 : decode cX6_append 27 = .ok (.if_icmp .ne 9, 3) := by decide +kernel
theorem dX6_append_30 : decode cX6_append 30 = .ok (.aload_n 0, 1) := by decide +kernel
theorem dX6_append_31 : decode cX6_append 31 = .ok (.iconst 2, 1) := by decide +kernel
theorem dX6_append_32 : decode cX6_append 32 = .ok (.invokevirtual 103, 3) := by decide +kernel
theorem dX6_append_35 : decode cX6_append 35 = .ok (.ireturn, 1) := by decide +kernel
theorem dX6_append_36 : decode cX6_append 36 = .ok (.aload_n 0, 1) := by decide +kernel
theorem dX6_append_37 : decode cX6_append 37 = .ok (.getfield 19, 3) := by decide +kernel
theorem dX6_append_40 : decode cX6_append 40 = .ok (.aload_n 0, 1) := by decide +kernel
theorem dX6_append_41 : decode cX6_append 41 = .ok (.getfield 172, 3) := by decide +kernel
theorem dX6_append_44 : decode cX6_append 44 = .ok (.iload_n 1, 1) := by decide +kernel
theorem dX6_append_45 : decode cX6_append 45 = .ok (.iastore, 1) := by decide +kernel
theorem dX6_append_46 : decode cX6_append 46 = .ok (.aload_n 0, 1) := by decide +kernel
theorem dX6_append_47 : decode cX6_append 47 = .ok (.dup, 1) := by decide +kernel
theorem dX6_append_48 : decode cX6_append 48 = .ok (.getfield 172, 3) := by decide +kernel
theorem dX6_append_51 : decode cX6_append 51 = .ok (.iconst 1, 1) := by decide +kernel
theorem dX6_append_52 : decode cX6_append 52 = .ok (.iadd, 1) := by decide +kernel
theorem dX6_append_53 : decode cX6_append 53 = .ok (.putfield 172, 3) := by decide +kernel
theorem dX6_append_56 : decode cX6_append 56 = .ok (.aload_n 0, 1) := by decide +kernel
theorem dX6_append_57 : decode cX6_append 57 = .ok (.getfield 172, 3) := by decide +kernel
theorem dX6_append_60 : decode cX6_append 60 = .ok (.ireturn, 1) := by decide +kernel
theorem dX6_clearText_0 : decode cX6_clearText 0 = .ok (.aload_n 0, 1) := by decide +kernel
theorem dX6_clearText_1 : decode cX6_clearText 1 = .ok (.iconst 0, 1) := by decide +kernel
theorem dX6_clearText_2 : decode cX6_clearText 2 = .ok (.putfield 22, 3) := by decide +kernel
theorem dX6_clearText_5 : decode cX6_clearText 5 = .ok (.aload_n 0, 1) := by decide +kernel
theorem dX6_clearText_6 : decode cX6_clearText 6 = .ok (.getfield 172, 3) := by decide +kernel
theorem dX6_clearText_9 : decode cX6_clearText 9 = .ok (.istore_n 1, 1) := by decide +kernel
theorem dX6_clearText_10 : decode cX6_clearText 10 = .ok (.aload_n 0, 1) := by decide +kernel
theorem dX6_clearText_11 : decode cX6_clearText 11 = .ok (.iconst 0, 1) := by decide +kernel
theorem dX6_clearText_12 : decode cX6_clearText 12 = .ok (.putfield 172, 3) := by decide +kernel
theorem dX6_clearText_15 : decode cX6_clearText 15 = .ok (.iload_n 1, 1) := by decide +kernel
theorem dX6_clearText_16 : decode cX6_clearText 16 = .ok (.ireturn, 1) := by decide +kernel
theorem dX6_here_0 : decode cX6_here 0 = .ok (.aload_n 0, 1) := by decide +kernel
theorem dX6_here_1 : decode cX6_here 1 = .ok (.getfield 175, 3) := by decide +kernel
theorem dX6_here_4 : decode cX6_here 4 = .ok (.aload_n 0, 1) := by decide +kernel
theorem dX6_here_5 : decode cX6_here 5 = .ok (.getfield 172, 3) := by decide +kernel
theorem dX6_here_8 : decode cX6_here 8 = .ok (.if_icmp .ge 15, 3) := by decide +kernel
theorem dX6_here_11 : decode cX6_here 11 = .ok (.aload_n 0, 1) := by decide +kernel
theorem dX6_here_12 : decode cX6_here 12 = .ok (.getfield 19, 3) := by decide +kernel
theorem dX6_here_15 : decode cX6_here 15 = .ok (.aload_n 0, 1) := by decide +kernel
theorem dX6_here_16 : decode cX6_here 16 = .ok (.getfield 175, 3) := by decide +kernel
theorem dX6_here_19 : decode cX6_here 19 = .ok (.iaload, 1) := by decide +kernel
theorem dX6_here_20 : decode cX6_here 20 = .ok (.goto 4, 3) := by decide +kernel
theorem dX6_here_23 : decode cX6_here 23 = .ok (.iconst (-1), 1) := by decide +kernel
theorem dX6_here_24 : decode cX6_here 24 = .ok (.ireturn, 1) := by decide +kernel
set_option maxRecDepth 20000 in
theorem ggX6_isDigit_X6_here : GoodIn wsX6_isDigit wsX6_here := goodIn_ca (goodIn_r _ [5, 6, 7, 8, 12, 13, 14, 15, 16, 17, 18, 19, 20, 21, 22, 23] (by decide +kernel) (by decide +kernel)) (goodIn_sub (fun _ h => List.mem_cons_of_mem _ (List.mem_append_right _ h)) (by decide +kernel))
set_option maxRecDepth 20000 in
theorem gX6_isDigit_X6_here : GoodIn wsX6_isDigit (wsV RX6 178 RX6 yX6_here wsX6_here) := goodIn_app (goodIn_of _ (by decide +kernel)) ggX6_isDigit_X6_here
set_option maxRecDepth 20000 in
theorem ggX6_isDigit_X6_in : GoodIn wsX6_isDigit wsX6_in := goodIn_r _ [11] (by decide +kernel) (by decide +kernel)
set_option maxRecDepth 20000 in
theorem gX6_isDigit_X6_in : GoodIn wsX6_isDigit (va_wsS RX6 29 yX6_in wsX6_in) := goodIn_app (goodIn_of _ (by decide +kernel)) ggX6_isDigit_X6_in
theorem dX6_isDigit_0 : decode cX6_isDigit 0 = .ok (.aload_n 0, 1) := by decide +kernel
theorem dX6_isDigit_1 : decode cX6_isDigit 1 = .ok (.invokevirtual 178, 3) := by decide +kernel
theorem dX6_isDigit_4 : decode cX6_isDigit 4 = .ok (.bipush 48, 2) := by decide +kernel
theorem dX6_isDigit_6 : decode cX6_isDigit 6 = .ok (.bipush 57, 2) := by decide +kernel
theorem dX6_isDigit_8 : decode cX6_isDigit 8 = .ok (.invokestatic 29, 3) := by decide +kernel
theorem dX6_isDigit_11 : decode cX6_isDigit 11 = .ok (.ireturn, 1) := by decide +kernel
theorem dX6_takes_0 : decode cX6_takes 0 = .ok (.aload_n 0, 1) := by decide +kernel
theorem dX6_takes_1 : decode cX6_takes 1 = .ok (.dup, 1) := by decide +kernel
theorem dX6_takes_2 : decode cX6_takes 2 = .ok (.getfield 175, 3) := by decide +kernel
theorem dX6_takes_5 : decode cX6_takes 5 = .ok (.iload_n 1, 1) := by decide +kernel
theorem dX6_takes_6 : decode cX6_takes 6 = .ok (.ifCond .eq 7, 3) := by decide +kernel
theorem dX6_takes_9 : decode cX6_takes 9 = .ok (.iconst 1, 1) := by decide +kernel
theorem dX6_takes_10 : decode cX6_takes 10 = .ok (.goto 4, 3) := by decide +kernel
theorem dX6_takes_13 : decode cX6_takes 13 = .ok (.iconst 0, 1) := by decide +kernel
theorem dX6_takes_14 : decode cX6_takes 14 = .ok (.iadd, 1) := by decide +kernel
theorem dX6_takes_15 : decode cX6_takes 15 = .ok (.putfield 175, 3) := by decide +kernel
theorem dX6_takes_18 : decode cX6_takes 18 = .ok (.iload_n 1, 1) := by decide +kernel
theorem dX6_takes_19 : decode cX6_takes 19 = .ok (.ireturn, 1) := by decide +kernel
set_option maxRecDepth 20000 in
theorem ggX6_readsDigit_X6_here : GoodIn wsX6_readsDigit wsX6_here := goodIn_ca (goodIn_r _ [6, 7, 8, 9, 21, 22, 23, 24, 25, 26, 27, 28, 29, 30, 31, 32] (by decide +kernel) (by decide +kernel)) (goodIn_sub (fun _ h => List.mem_cons_of_mem _ (List.mem_append_right _ h)) (by decide +kernel))
set_option maxRecDepth 20000 in
theorem gX6_readsDigit_X6_here : GoodIn wsX6_readsDigit (wsV RX6 178 RX6 yX6_here wsX6_here) := goodIn_app (goodIn_of _ (by decide +kernel)) ggX6_readsDigit_X6_here
set_option maxRecDepth 20000 in
theorem ggX6_readsDigit_X6_isDigit : GoodIn wsX6_readsDigit wsX6_isDigit := goodIn_ca (goodIn_r _ [13, 2, 3, 4, 5, 6, 7, 8, 9, 14, 15, 16, 21, 22, 23, 24, 25, 26, 27, 28, 29, 30, 31, 32] (by decide +kernel) (by decide +kernel)) (goodIn_sub (fun _ h => List.mem_cons_of_mem _ (List.mem_append_right _ h)) (by decide +kernel))
set_option maxRecDepth 20000 in
theorem gX6_readsDigit_X6_isDigit : GoodIn wsX6_readsDigit (wsV RX6 184 RX6 yX6_isDigit wsX6_isDigit) := goodIn_app (goodIn_of _ (by decide +kernel)) ggX6_readsDigit_X6_isDigit
set_option maxRecDepth 20000 in
theorem ggX6_readsDigit_X6_takes : GoodIn wsX6_readsDigit wsX6_takes := goodIn_r _ [20, 7, 21, 22, 23, 24, 25, 26, 27, 28, 29, 30, 31, 32] (by decide +kernel) (by decide +kernel)
set_option maxRecDepth 20000 in
theorem gX6_readsDigit_X6_takes : GoodIn wsX6_readsDigit (wsV RX6 187 RX6 yX6_takes wsX6_takes) := goodIn_app (goodIn_of _ (by decide +kernel)) ggX6_readsDigit_X6_takes
theorem dX6_readsDigit_0 : decode cX6_readsDigit 0 = .ok (.aload_n 0, 1) := by decide +kernel
theorem dX6_readsDigit_1 : decode cX6_readsDigit 1 = .ok (.aload_n 0, 1) := by decide +kernel
theorem dX6_readsDigit_2 : decode cX6_readsDigit 2 = .ok (.invokevirtual 178, 3) := by decide +kernel
theorem dX6_readsDigit_5 : decode cX6_readsDigit 5 = .ok (.bipush 48, 2) := by decide +kernel
theorem dX6_readsDigit_7 : decode cX6_readsDigit 7 = .ok (.isub, 1) := by decide +kernel
theorem dX6_readsDigit_8 : decode cX6_readsDigit 8 = .ok (.putfield 181, 3) := by decide +kernel
theorem dX6_readsDigit_11 : decode cX6_readsDigit 11 = .ok (.aload_n 0, 1) := by decide +kernel
theorem dX6_readsDigit_12 : decode cX6_readsDigit 12 = .ok (.aload_n 0, 1) := by decide +kernel
theorem dX6_readsDigit_13 : decode cX6_readsDigit 13 = .ok (.invokevirtual 184, 3) := by decide +kernel
theorem dX6_readsDigit_16 : decode cX6_readsDigit 16 = .ok (.invokevirtual 187, 3) := by decide +kernel
theorem dX6_readsDigit_19 : decode cX6_readsDigit 19 = .ok (.ireturn, 1) := by decide +kernel
set_option maxRecDepth 20000 in
theorem ggX6_readsPower_X6_here : GoodIn wsX6_readsPower wsX6_here := goodIn_ca (goodIn_r _ [7, 2, 8, 9, 21, 22, 23, 24, 25, 26, 27, 28, 29, 30, 31, 32] (by decide +kernel) (by decide +kernel)) (goodIn_sub (fun _ h => List.mem_cons_of_mem _ (List.mem_append_right _ h)) (by decide +kernel))
set_option maxRecDepth 20000 in
theorem gX6_readsPower_X6_here : GoodIn wsX6_readsPower (wsV RX6 178 RX6 yX6_here wsX6_here) := goodIn_app (goodIn_of _ (by decide +kernel)) ggX6_readsPower_X6_here
set_option maxRecDepth 20000 in
theorem ggX6_readsPower_X6_takes : GoodIn wsX6_readsPower wsX6_takes := goodIn_r _ [13, 2, 21, 22, 23, 24, 25, 26, 27, 28, 29, 30, 31, 32] (by decide +kernel) (by decide +kernel)
set_option maxRecDepth 20000 in
theorem gX6_readsPower_X6_takes : GoodIn wsX6_readsPower (wsV RX6 187 RX6 yX6_takes wsX6_takes) := goodIn_app (goodIn_of _ (by decide +kernel)) ggX6_readsPower_X6_takes
set_option maxRecDepth 20000 in
theorem ggX6_readsPower_X6_isDigit : GoodIn wsX6_readsPower wsX6_isDigit := goodIn_ca (goodIn_r _ [17, 3, 4, 5, 6, 7, 2, 8, 9, 18, 19, 20, 21, 22, 23, 24, 25, 26, 27, 28, 29, 30, 31, 32] (by decide +kernel) (by decide +kernel)) (goodIn_sub (fun _ h => List.mem_cons_of_mem _ (List.mem_append_right _ h)) (by decide +kernel))
set_option maxRecDepth 20000 in
theorem gX6_readsPower_X6_isDigit : GoodIn wsX6_readsPower (wsV RX6 184 RX6 yX6_isDigit wsX6_isDigit) := goodIn_app (goodIn_of _ (by decide +kernel)) ggX6_readsPower_X6_isDigit
theorem dX6_readsPower_0 : decode cX6_readsPower 0 = .ok (.aload_n 0, 1) := by decide +kernel
theorem dX6_readsPower_1 : decode cX6_readsPower 1 = .ok (.aload_n 0, 1) := by decide +kernel
theorem dX6_readsPower_2 : decode cX6_readsPower 2 = .ok (.invokevirtual 178, 3) := by decide +kernel
theorem dX6_readsPower_5 : decode cX6_readsPower 5 = .ok (.bipush 48, 2) := by decide +kernel
theorem dX6_readsPower_7 : decode cX6_readsPower 7 = .ok (.isub, 1) := by decide +kernel
theorem dX6_readsPower_8 : decode cX6_readsPower 8 = .ok (.putfield 191, 3) := by decide +kernel
theorem dX6_readsPower_11 : decode cX6_readsPower 11 = .ok (.aload_n 0, 1) := by decide +kernel
theorem dX6_readsPower_12 : decode cX6_readsPower 12 = .ok (.aload_n 0, 1) := by decide +kernel
theorem dX6_readsPower_13 : decode cX6_readsPower 13 = .ok (.invokevirtual 178, 3) := by decide +kernel
theorem dX6_readsPower_16 : decode cX6_readsPower 16 = .ok (.bipush 44, 2) := by decide +kernel
theorem dX6_readsPower_18 : decode cX6_readsPower 18 = .ok (.if_icmp .ne 7, 3) := by decide +kernel
theorem dX6_readsPower_21 : decode cX6_readsPower 21 = .ok (.iconst 1, 1) := by decide +kernel
theorem dX6_readsPower_22 : decode cX6_readsPower 22 = .ok (.goto 4, 3) := by decide +kernel
theorem dX6_readsPower_25 : decode cX6_readsPower 25 = .ok (.iconst 0, 1) := by decide +kernel
theorem dX6_readsPower_26 : decode cX6_readsPower 26 = .ok (.invokevirtual 187, 3) := by decide +kernel
theorem dX6_readsPower_29 : decode cX6_readsPower 29 = .ok (.ifCond .ne 5, 3) := by decide +kernel
theorem dX6_readsPower_32 : decode cX6_readsPower 32 = .ok (.iconst 0, 1) := by decide +kernel
theorem dX6_readsPower_33 : decode cX6_readsPower 33 = .ok (.ireturn, 1) := by decide +kernel
theorem dX6_readsPower_34 : decode cX6_readsPower 34 = .ok (.aload_n 0, 1) := by decide +kernel
theorem dX6_readsPower_35 : decode cX6_readsPower 35 = .ok (.aload_n 0, 1) := by decide +kernel
theorem dX6_readsPower_36 : decode cX6_readsPower 36 = .ok (.invokevirtual 178, 3) := by decide +kernel
theorem dX6_readsPower_39 : decode cX6_readsPower 39 = .ok (.bipush 48, 2) := by decide +kernel
theorem dX6_readsPower_41 : decode cX6_readsPower 41 = .ok (.isub, 1) := by decide +kernel
theorem dX6_readsPower_42 : decode cX6_readsPower 42 = .ok (.putfield 191, 3) := by decide +kernel
theorem dX6_readsPower_45 : decode cX6_readsPower 45 = .ok (.aload_n 0, 1) := by decide +kernel
theorem dX6_readsPower_46 : decode cX6_readsPower 46 = .ok (.aload_n 0, 1) := by decide +kernel
theorem dX6_readsPower_47 : decode cX6_readsPower 47 = .ok (.invokevirtual 184, 3) := by decide +kernel
theorem dX6_readsPower_50 : decode cX6_readsPower 50 = .ok (.invokevirtual 187, 3) := by decide +kernel
theorem dX6_readsPower_53 : decode cX6_readsPower 53 = .ok (.ifCond .ne 5, 3) := by decide +kernel
theorem dX6_readsPower_56 : decode cX6_readsPower 56 = .ok (.iconst 0, 1) := by decide +kernel
theorem dX6_readsPower_57 : decode cX6_readsPower 57 = .ok (.ireturn, 1) := by decide +kernel
theorem dX6_readsPower_58 : decode cX6_readsPower 58 = .ok (.aload_n 0, 1) := by decide +kernel
theorem dX6_readsPower_59 : decode cX6_readsPower 59 = .ok (.invokevirtual 184, 3) := by decide +kernel
theorem dX6_readsPower_62 : decode cX6_readsPower 62 = .ok (.ifCond .eq 32, 3) := by decide +kernel
theorem dX6_readsPower_65 : decode cX6_readsPower 65 = .ok (.aload_n 0, 1) := by decide +kernel
theorem dX6_readsPower_66 : decode cX6_readsPower 66 = .ok (.bipush 10, 2) := by decide +kernel
theorem dX6_readsPower_68 : decode cX6_readsPower 68 = .ok (.aload_n 0, 1) := by decide +kernel
theorem dX6_readsPower_69 : decode cX6_readsPower 69 = .ok (.getfield 191, 3) := by decide +kernel
theorem dX6_readsPower_72 : decode cX6_readsPower 72 = .ok (.imul, 1) := by decide +kernel
theorem dX6_readsPower_73 : decode cX6_readsPower 73 = .ok (.aload_n 0, 1) := by decide +kernel
theorem dX6_readsPower_74 : decode cX6_readsPower 74 = .ok (.invokevirtual 178, 3) := by decide +kernel
theorem dX6_readsPower_77 : decode cX6_readsPower 77 = .ok (.iadd, 1) := by decide +kernel
theorem dX6_readsPower_78 : decode cX6_readsPower 78 = .ok (.bipush 48, 2) := by decide +kernel
theorem dX6_readsPower_80 : decode cX6_readsPower 80 = .ok (.isub, 1) := by decide +kernel
theorem dX6_readsPower_81 : decode cX6_readsPower 81 = .ok (.putfield 191, 3) := by decide +kernel
theorem dX6_readsPower_84 : decode cX6_readsPower 84 = .ok (.aload_n 0, 1) := by decide +kernel
theorem dX6_readsPower_85 : decode cX6_readsPower 85 = .ok (.dup, 1) := by decide +kernel
theorem dX6_readsPower_86 : decode cX6_readsPower 86 = .ok (.getfield 175, 3) := by decide +kernel
theorem dX6_readsPower_89 : decode cX6_readsPower 89 = .ok (.iconst 1, 1) := by decide +kernel
theorem dX6_readsPower_90 : decode cX6_readsPower 90 = .ok (.iadd, 1) := by decide +kernel
theorem dX6_readsPower_91 : decode cX6_readsPower 91 = .ok (.putfield 175, 3) := by decide +kernel
theorem dX6_readsPower_94 : decode cX6_readsPower 94 = .ok (.iconst 1, 1) := by decide +kernel
theorem dX6_readsPower_95 : decode cX6_readsPower 95 = .ok (.ireturn, 1) := by decide +kernel
set_option maxRecDepth 20000 in
theorem ggX6_readsCommand_X6_here : GoodIn wsX6_readsCommand wsX6_here := goodIn_ca (goodIn_r _ [6, 7, 8, 9, 31, 32, 33, 34, 35, 36, 37, 38, 39, 40, 41, 42] (by decide +kernel) (by decide +kernel)) (goodIn_sub (fun _ h => List.mem_cons_of_mem _ (List.mem_append_right _ h)) (by decide +kernel))
set_option maxRecDepth 20000 in
theorem gX6_readsCommand_X6_here : GoodIn wsX6_readsCommand (wsV RX6 178 RX6 yX6_here wsX6_here) := goodIn_app (goodIn_of _ (by decide +kernel)) ggX6_readsCommand_X6_here
set_option maxRecDepth 20000 in
theorem ggX6_readsCommand_X6_takes : GoodIn wsX6_readsCommand wsX6_takes := goodIn_r _ [13, 7, 31, 32, 33, 34, 35, 36, 37, 38, 39, 40, 41, 42] (by decide +kernel) (by decide +kernel)
set_option maxRecDepth 20000 in
theorem gX6_readsCommand_X6_takes : GoodIn wsX6_readsCommand (wsV RX6 187 RX6 yX6_takes wsX6_takes) := goodIn_app (goodIn_of _ (by decide +kernel)) ggX6_readsCommand_X6_takes
set_option maxRecDepth 20000 in
theorem ggX6_readsCommand_X6_readsDigit : GoodIn wsX6_readsCommand wsX6_readsDigit := goodIn_ca (goodIn_r _ [17, 18, 2, 3, 4, 5, 6, 7, 8, 9, 19, 20, 21, 22, 23, 24, 25, 10, 11, 12, 13, 31, 32, 33, 34, 35, 36, 37, 38, 39, 40, 41, 42] (by decide +kernel) (by decide +kernel)) (goodIn_sub (fun _ h => List.mem_cons_of_mem _ (List.mem_append_right _ h)) (by decide +kernel))
set_option maxRecDepth 20000 in
theorem gX6_readsCommand_X6_readsDigit : GoodIn wsX6_readsCommand (wsV RX6 197 RX6 yX6_readsDigit wsX6_readsDigit) := goodIn_app (goodIn_of _ (by decide +kernel)) ggX6_readsCommand_X6_readsDigit
set_option maxRecDepth 20000 in
theorem ggX6_readsCommand_X6_readsPower : GoodIn wsX6_readsCommand wsX6_readsPower := goodIn_ca (goodIn_r _ [29, 30, 7, 2, 3, 4, 5, 6, 8, 9, 10, 11, 12, 13, 19, 20, 21, 22, 23, 24, 25, 31, 32, 33, 34, 35, 36, 37, 38, 39, 40, 41, 42] (by decide +kernel) (by decide +kernel)) (goodIn_sub (fun _ h => List.mem_cons_of_mem _ (List.mem_append_right _ h)) (by decide +kernel))
set_option maxRecDepth 20000 in
theorem gX6_readsCommand_X6_readsPower : GoodIn wsX6_readsCommand (wsV RX6 200 RX6 yX6_readsPower wsX6_readsPower) := goodIn_app (goodIn_of _ (by decide +kernel)) ggX6_readsCommand_X6_readsPower
theorem dX6_readsCommand_0 : decode cX6_readsCommand 0 = .ok (.aload_n 0, 1) := by decide +kernel
theorem dX6_readsCommand_1 : decode cX6_readsCommand 1 = .ok (.aload_n 0, 1) := by decide +kernel
theorem dX6_readsCommand_2 : decode cX6_readsCommand 2 = .ok (.invokevirtual 178, 3) := by decide +kernel
theorem dX6_readsCommand_5 : decode cX6_readsCommand 5 = .ok (.putfield 194, 3) := by decide +kernel
theorem dX6_readsCommand_8 : decode cX6_readsCommand 8 = .ok (.aload_n 0, 1) := by decide +kernel
theorem dX6_readsCommand_9 : decode cX6_readsCommand 9 = .ok (.getfield 194, 3) := by decide +kernel
theorem dX6_readsCommand_12 : decode cX6_readsCommand 12 = .ok (.bipush 110, 2) := by decide +kernel
theorem dX6_readsCommand_14 : decode cX6_readsCommand 14 = .ok (.if_icmp .eq 30, 3) := by decide +kernel
theorem dX6_readsCommand_17 : decode cX6_readsCommand 17 = .ok (.aload_n 0, 1) := by decide +kernel
theorem dX6_readsCommand_18 : decode cX6_readsCommand 18 = .ok (.getfield 194, 3) := by decide +kernel
theorem dX6_readsCommand_21 : decode cX6_readsCommand 21 = .ok (.bipush 101, 2) := by decide +kernel
theorem dX6_readsCommand_23 : decode cX6_readsCommand 23 = .ok (.if_icmp .eq 21, 3) := by decide +kernel
theorem dX6_readsCommand_26 : decode cX6_readsCommand 26 = .ok (.aload_n 0, 1) := by decide +kernel
theorem dX6_readsCommand_27 : decode cX6_readsCommand 27 = .ok (.getfield 194, 3) := by decide +kernel
theorem dX6_readsCommand_30 : decode cX6_readsCommand 30 = .ok (.bipush 100, 2) := by decide +kernel
theorem dX6_readsCommand_32 : decode cX6_readsCommand 32 = .ok (.if_icmp .eq 12, 3) := by decide +kernel
theorem dX6_readsCommand_35 : decode cX6_readsCommand 35 = .ok (.aload_n 0, 1) := by decide +kernel
theorem dX6_readsCommand_36 : decode cX6_readsCommand 36 = .ok (.getfield 194, 3) := by decide +kernel
theorem dX6_readsCommand_39 : decode cX6_readsCommand 39 = .ok (.bipush 114, 2) := by decide +kernel
theorem dX6_readsCommand_41 : decode cX6_readsCommand 41 = .ok (.if_icmp .ne 7, 3) := by decide +kernel
theorem dX6_readsCommand_44 : decode cX6_readsCommand 44 = .ok (.iconst 1, 1) := by decide +kernel
theorem dX6_readsCommand_45 : decode cX6_readsCommand 45 = .ok (.goto 4, 3) := by decide +kernel
theorem dX6_readsCommand_48 : decode cX6_readsCommand 48 = .ok (.iconst 0, 1) := by decide +kernel
theorem dX6_readsCommand_49 : decode cX6_readsCommand 49 = .ok (.istore_n 1, 1) := by decide +kernel
theorem dX6_readsCommand_50 : decode cX6_readsCommand 50 = .ok (.aload_n 0, 1) := by decide +kernel
theorem dX6_readsCommand_51 : decode cX6_readsCommand 51 = .ok (.getfield 194, 3) := by decide +kernel
theorem dX6_readsCommand_54 : decode cX6_readsCommand 54 = .ok (.bipush 115, 2) := by decide +kernel
theorem dX6_readsCommand_56 : decode cX6_readsCommand 56 = .ok (.if_icmp .eq 12, 3) := by decide +kernel
theorem dX6_readsCommand_59 : decode cX6_readsCommand 59 = .ok (.aload_n 0, 1) := by decide +kernel
theorem dX6_readsCommand_60 : decode cX6_readsCommand 60 = .ok (.getfield 194, 3) := by decide +kernel
theorem dX6_readsCommand_63 : decode cX6_readsCommand 63 = .ok (.bipush 104, 2) := by decide +kernel
theorem dX6_readsCommand_65 : decode cX6_readsCommand 65 = .ok (.if_icmp .ne 7, 3) := by decide +kernel
theorem dX6_readsCommand_68 : decode cX6_readsCommand 68 = .ok (.iconst 1, 1) := by decide +kernel
theorem dX6_readsCommand_69 : decode cX6_readsCommand 69 = .ok (.goto 4, 3) := by decide +kernel
theorem dX6_readsCommand_72 : decode cX6_readsCommand 72 = .ok (.iconst 0, 1) := by decide +kernel
theorem dX6_readsCommand_73 : decode cX6_readsCommand 73 = .ok (.istore_n 2, 1) := by decide +kernel
theorem dX6_readsCommand_74 : decode cX6_readsCommand 74 = .ok (.aload_n 0, 1) := by decide +kernel
theorem dX6_readsCommand_75 : decode cX6_readsCommand 75 = .ok (.iload_n 1, 1) := by decide +kernel
theorem dX6_readsCommand_76 : decode cX6_readsCommand 76 = .ok (.ifCond .ne 16, 3) := by decide +kernel
theorem dX6_readsCommand_79 : decode cX6_readsCommand 79 = .ok (.iload_n 2, 1) := by decide +kernel
theorem dX6_readsCommand_80 : decode cX6_readsCommand 80 = .ok (.ifCond .ne 12, 3) := by decide +kernel
theorem dX6_readsCommand_83 : decode cX6_readsCommand 83 = .ok (.aload_n 0, 1) := by decide +kernel
theorem dX6_readsCommand_84 : decode cX6_readsCommand 84 = .ok (.getfield 194, 3) := by decide +kernel
theorem dX6_readsCommand_87 : decode cX6_readsCommand 87 = .ok (.bipush 99, 2) := by decide +kernel
theorem dX6_readsCommand_89 : decode cX6_readsCommand 89 = .ok (.if_icmp .ne 7, 3) := by decide +kernel
theorem dX6_readsCommand_92 : decode cX6_readsCommand 92 = .ok (.iconst 1, 1) := by decide +kernel
theorem dX6_readsCommand_93 : decode cX6_readsCommand 93 = .ok (.goto 4, 3) := by decide +kernel
theorem dX6_readsCommand_96 : decode cX6_readsCommand 96 = .ok (.iconst 0, 1) := by decide +kernel
theorem dX6_readsCommand_97 : decode cX6_readsCommand 97 = .ok (.invokevirtual 187, 3) := by decide +kernel
theorem dX6_readsCommand_100 : decode cX6_readsCommand 100 = .ok (.ifCond .ne 5, 3) := by decide +kernel
theorem dX6_readsCommand_103 : decode cX6_readsCommand 103 = .ok (.iconst 0, 1) := by decide +kernel
theorem dX6_readsCommand_104 : decode cX6_readsCommand 104 = .ok (.ireturn, 1) := by decide +kernel
theorem dX6_readsCommand_105 : decode cX6_readsCommand 105 = .ok (.iload_n 1, 1) := by decide +kernel
theorem dX6_readsCommand_106 : decode cX6_readsCommand 106 = .ok (.ifCond .ne 21, 3) := by decide +kernel
theorem dX6_readsCommand_109 : decode cX6_readsCommand 109 = .ok (.aload_n 0, 1) := by decide +kernel
theorem dX6_readsCommand_110 : decode cX6_readsCommand 110 = .ok (.invokevirtual 197, 3) := by decide +kernel
theorem dX6_readsCommand_113 : decode cX6_readsCommand 113 = .ok (.ifCond .eq 18, 3) := by decide +kernel
theorem dX6_readsCommand_116 : decode cX6_readsCommand 116 = .ok (.iload_n 2, 1) := by decide +kernel
theorem dX6_readsCommand_117 : decode cX6_readsCommand 117 = .ok (.ifCond .eq 10, 3) := by decide +kernel
theorem dX6_readsCommand_120 : decode cX6_readsCommand 120 = .ok (.aload_n 0, 1) := by decide +kernel
theorem dX6_readsCommand_121 : decode cX6_readsCommand 121 = .ok (.invokevirtual 200, 3) := by decide +kernel
theorem dX6_readsCommand_124 : decode cX6_readsCommand 124 = .ok (.ifCond .eq 7, 3) := by decide +kernel
theorem dX6_readsCommand_127 : decode cX6_readsCommand 127 = .ok (.iconst 1, 1) := by decide +kernel
theorem dX6_readsCommand_128 : decode cX6_readsCommand 128 = .ok (.goto 4, 3) := by decide +kernel
theorem dX6_readsCommand_131 : decode cX6_readsCommand 131 = .ok (.iconst 0, 1) := by decide +kernel
theorem dX6_readsCommand_132 : decode cX6_readsCommand 132 = .ok (.istore_n 3, 1) := by decide +kernel
theorem dX6_readsCommand_133 : decode cX6_readsCommand 133 = .ok (.iload_n 3, 1) := by decide +kernel
theorem dX6_readsCommand_134 : decode cX6_readsCommand 134 = .ok (.ifCond .eq 28, 3) := by decide +kernel
theorem dX6_readsCommand_137 : decode cX6_readsCommand 137 = .ok (.aload_n 0, 1) := by decide +kernel
theorem dX6_readsCommand_138 : decode cX6_readsCommand 138 = .ok (.aload_n 0, 1) := by decide +kernel
theorem dX6_readsCommand_139 : decode cX6_readsCommand 139 = .ok (.invokevirtual 178, 3) := by decide +kernel
theorem dX6_readsCommand_142 : decode cX6_readsCommand 142 = .ok (.bipush 59, 2) := by decide +kernel
theorem dX6_readsCommand_144 : decode cX6_readsCommand 144 = .ok (.if_icmp .ne 7, 3) := by decide +kernel
theorem dX6_readsCommand_147 : decode cX6_readsCommand 147 = .ok (.iconst 1, 1) := by decide +kernel
theorem dX6_readsCommand_148 : decode cX6_readsCommand 148 = .ok (.goto 4, 3) := by decide +kernel
theorem dX6_readsCommand_151 : decode cX6_readsCommand 151 = .ok (.iconst 0, 1) := by decide +kernel
theorem dX6_readsCommand_152 : decode cX6_readsCommand 152 = .ok (.invokevirtual 187, 3) := by decide +kernel
theorem dX6_readsCommand_155 : decode cX6_readsCommand 155 = .ok (.ifCond .eq 7, 3) := by decide +kernel
theorem dX6_readsCommand_158 : decode cX6_readsCommand 158 = .ok (.iconst 1, 1) := by decide +kernel
theorem dX6_readsCommand_159 : decode cX6_readsCommand 159 = .ok (.goto 4, 3) := by decide +kernel
theorem dX6_readsCommand_162 : decode cX6_readsCommand 162 = .ok (.iconst 0, 1) := by decide +kernel
theorem dX6_readsCommand_163 : decode cX6_readsCommand 163 = .ok (.ireturn, 1) := by decide +kernel
set_option maxRecDepth 20000 in
theorem ggX6_canDo_X6_canEnd : GoodIn wsX6_canDo wsX6_canEnd := goodIn_ca (goodIn_r _ [9, 2, 45, 46, 47, 48, 49, 50, 51, 52, 53, 54, 55, 56] (by decide +kernel) (by decide +kernel)) (goodIn_sub (fun _ h => List.mem_cons_of_mem _ (List.mem_append_right _ h)) (by decide +kernel))
set_option maxRecDepth 20000 in
theorem gX6_canDo_X6_canEnd : GoodIn wsX6_canDo (wsV RX6 127 RX6 yX6_canEnd wsX6_canEnd) := goodIn_app (goodIn_of _ (by decide +kernel)) ggX6_canDo_X6_canEnd
set_option maxRecDepth 20000 in
theorem ggX6_canDo_X6_canDelay : GoodIn wsX6_canDo wsX6_canDelay := goodIn_ca (goodIn_r _ [13, 2, 14, 15, 16, 8, 17, 45, 46, 47, 48, 49, 50, 51, 52, 53, 54, 55, 56] (by decide +kernel) (by decide +kernel)) (goodIn_sub (fun _ h => List.mem_cons_of_mem _ (List.mem_append_right _ h)) (by decide +kernel))
set_option maxRecDepth 20000 in
theorem gX6_canDo_X6_canDelay : GoodIn wsX6_canDo (wsV RX6 131 RX6 yX6_canDelay wsX6_canDelay) := goodIn_app (goodIn_of _ (by decide +kernel)) ggX6_canDo_X6_canDelay
set_option maxRecDepth 20000 in
theorem ggX6_canDo_X6_isFighter : GoodIn wsX6_canDo wsX6_isFighter := goodIn_ca (goodIn_r _ [21, 2, 22, 23, 8, 24, 45, 46, 47, 48, 49, 50, 51, 52, 53, 54, 55, 56] (by decide +kernel) (by decide +kernel)) (goodIn_sub (fun _ h => List.mem_cons_of_mem _ (List.mem_append_right _ h)) (by decide +kernel))
set_option maxRecDepth 20000 in
theorem gX6_canDo_X6_isFighter : GoodIn wsX6_canDo (wsV RX6 109 RX6 yX6_isFighter wsX6_isFighter) := goodIn_app (goodIn_of _ (by decide +kernel)) ggX6_canDo_X6_isFighter
set_option maxRecDepth 20000 in
theorem ggX6_canDo_X6_canComeIn : GoodIn wsX6_canDo wsX6_canComeIn := goodIn_ca (goodIn_r _ [28, 2, 14, 15, 16, 8, 17, 29, 30, 31, 32, 45, 46, 47, 48, 49, 50, 51, 52, 53, 54, 55, 56] (by decide +kernel) (by decide +kernel)) (goodIn_sub (fun _ h => List.mem_cons_of_mem _ (List.mem_append_right _ h)) (by decide +kernel))
set_option maxRecDepth 20000 in
theorem gX6_canDo_X6_canComeIn : GoodIn wsX6_canDo (wsV RX6 137 RX6 yX6_canComeIn wsX6_canComeIn) := goodIn_app (goodIn_of _ (by decide +kernel)) ggX6_canDo_X6_canComeIn
set_option maxRecDepth 20000 in
theorem ggX6_canDo_X6_in : GoodIn wsX6_canDo wsX6_in := goodIn_r _ [24] (by decide +kernel) (by decide +kernel)
set_option maxRecDepth 20000 in
theorem gX6_canDo_X6_in : GoodIn wsX6_canDo (va_wsS RX6 29 yX6_in wsX6_in) := goodIn_app (goodIn_of _ (by decide +kernel)) ggX6_canDo_X6_in
set_option maxRecDepth 20000 in
theorem ggX6_canDo_X6_canAct : GoodIn wsX6_canDo wsX6_canAct := goodIn_ca (goodIn_r _ [36, 2, 37, 38, 39, 8, 40, 22, 23, 24, 29, 30, 31, 32, 14, 15, 16, 17, 41, 42, 43, 44, 45, 46, 47, 48, 49, 50, 51, 52, 53, 54, 55, 56] (by decide +kernel) (by decide +kernel)) (goodIn_sub (fun _ h => List.mem_cons_of_mem _ (List.mem_append_right _ h)) (by decide +kernel))
set_option maxRecDepth 20000 in
theorem gX6_canDo_X6_canAct : GoodIn wsX6_canDo (wsV RX6 143 RX6 yX6_canAct wsX6_canAct) := goodIn_app (goodIn_of _ (by decide +kernel)) ggX6_canDo_X6_canAct
theorem dX6_canDo_0 : decode cX6_canDo 0 = .ok (.aload_n 0, 1) := by decide +kernel
theorem dX6_canDo_1 : decode cX6_canDo 1 = .ok (.getfield 194, 3) := by decide +kernel
theorem dX6_canDo_4 : decode cX6_canDo 4 = .ok (.lookupswitch 122 #[(99, 78), (100, 73), (101, 68), (110, 52), (114, 106)], 52) := by decide +kernel
theorem dX6_canDo_56 : decode cX6_canDo 56 = .ok (.aload_n 0, 1) := by decide +kernel
theorem dX6_canDo_57 : decode cX6_canDo 57 = .ok (.getfield 7, 3) := by decide +kernel
theorem dX6_canDo_60 : decode cX6_canDo 60 = .ok (.iconst 4, 1) := by decide +kernel
theorem dX6_canDo_61 : decode cX6_canDo 61 = .ok (.iaload, 1) := by decide +kernel
theorem dX6_canDo_62 : decode cX6_canDo 62 = .ok (.iconst (-1), 1) := by decide +kernel
theorem dX6_canDo_63 : decode cX6_canDo 63 = .ok (.if_icmp .ne 7, 3) := by decide +kernel
theorem dX6_canDo_66 : decode cX6_canDo 66 = .ok (.iconst 1, 1) := by decide +kernel
theorem dX6_canDo_67 : decode cX6_canDo 67 = .ok (.goto 4, 3) := by decide +kernel
theorem dX6_canDo_70 : decode cX6_canDo 70 = .ok (.iconst 0, 1) := by decide +kernel
theorem dX6_canDo_71 : decode cX6_canDo 71 = .ok (.ireturn, 1) := by decide +kernel
theorem dX6_canDo_72 : decode cX6_canDo 72 = .ok (.aload_n 0, 1) := by decide +kernel
theorem dX6_canDo_73 : decode cX6_canDo 73 = .ok (.invokevirtual 127, 3) := by decide +kernel
theorem dX6_canDo_76 : decode cX6_canDo 76 = .ok (.ireturn, 1) := by decide +kernel
theorem dX6_canDo_77 : decode cX6_canDo 77 = .ok (.aload_n 0, 1) := by decide +kernel
theorem dX6_canDo_78 : decode cX6_canDo 78 = .ok (.invokevirtual 131, 3) := by decide +kernel
theorem dX6_canDo_81 : decode cX6_canDo 81 = .ok (.ireturn, 1) := by decide +kernel
theorem dX6_canDo_82 : decode cX6_canDo 82 = .ok (.aload_n 0, 1) := by decide +kernel
theorem dX6_canDo_83 : decode cX6_canDo 83 = .ok (.aload_n 0, 1) := by decide +kernel
theorem dX6_canDo_84 : decode cX6_canDo 84 = .ok (.getfield 181, 3) := by decide +kernel
theorem dX6_canDo_87 : decode cX6_canDo 87 = .ok (.invokevirtual 109, 3) := by decide +kernel
theorem dX6_canDo_90 : decode cX6_canDo 90 = .ok (.ifCond .eq 18, 3) := by decide +kernel
theorem dX6_canDo_93 : decode cX6_canDo 93 = .ok (.aload_n 0, 1) := by decide +kernel
theorem dX6_canDo_94 : decode cX6_canDo 94 = .ok (.aload_n 0, 1) := by decide +kernel
theorem dX6_canDo_95 : decode cX6_canDo 95 = .ok (.getfield 181, 3) := by decide +kernel
theorem dX6_canDo_98 : decode cX6_canDo 98 = .ok (.invokevirtual 137, 3) := by decide +kernel
theorem dX6_canDo_101 : decode cX6_canDo 101 = .ok (.ifCond .eq 7, 3) := by decide +kernel
theorem dX6_canDo_104 : decode cX6_canDo 104 = .ok (.iconst 1, 1) := by decide +kernel
theorem dX6_canDo_105 : decode cX6_canDo 105 = .ok (.goto 4, 3) := by decide +kernel
theorem dX6_canDo_108 : decode cX6_canDo 108 = .ok (.iconst 0, 1) := by decide +kernel
theorem dX6_canDo_109 : decode cX6_canDo 109 = .ok (.ireturn, 1) := by decide +kernel
theorem dX6_canDo_110 : decode cX6_canDo 110 = .ok (.aload_n 0, 1) := by decide +kernel
theorem dX6_canDo_111 : decode cX6_canDo 111 = .ok (.getfield 7, 3) := by decide +kernel
theorem dX6_canDo_114 : decode cX6_canDo 114 = .ok (.bipush 8, 2) := by decide +kernel
theorem dX6_canDo_116 : decode cX6_canDo 116 = .ok (.iaload, 1) := by decide +kernel
theorem dX6_canDo_117 : decode cX6_canDo 117 = .ok (.ifCond .le 7, 3) := by decide +kernel
theorem dX6_canDo_120 : decode cX6_canDo 120 = .ok (.iconst 1, 1) := by decide +kernel
theorem dX6_canDo_121 : decode cX6_canDo 121 = .ok (.goto 4, 3) := by decide +kernel
theorem dX6_canDo_124 : decode cX6_canDo 124 = .ok (.iconst 0, 1) := by decide +kernel
theorem dX6_canDo_125 : decode cX6_canDo 125 = .ok (.ireturn, 1) := by decide +kernel
theorem dX6_canDo_126 : decode cX6_canDo 126 = .ok (.aload_n 0, 1) := by decide +kernel
theorem dX6_canDo_127 : decode cX6_canDo 127 = .ok (.getfield 7, 3) := by decide +kernel
theorem dX6_canDo_130 : decode cX6_canDo 130 = .ok (.iconst 4, 1) := by decide +kernel
theorem dX6_canDo_131 : decode cX6_canDo 131 = .ok (.iaload, 1) := by decide +kernel
theorem dX6_canDo_132 : decode cX6_canDo 132 = .ok (.iconst (-1), 1) := by decide +kernel
theorem dX6_canDo_133 : decode cX6_canDo 133 = .ok (.if_icmp .eq 45, 3) := by decide +kernel
theorem dX6_canDo_136 : decode cX6_canDo 136 = .ok (.aload_n 0, 1) := by decide +kernel
theorem dX6_canDo_137 : decode cX6_canDo 137 = .ok (.aload_n 0, 1) := by decide +kernel
theorem dX6_canDo_138 : decode cX6_canDo 138 = .ok (.getfield 181, 3) := by decide +kernel
theorem dX6_canDo_141 : decode cX6_canDo 141 = .ok (.invokevirtual 109, 3) := by decide +kernel
theorem dX6_canDo_144 : decode cX6_canDo 144 = .ok (.ifCond .eq 34, 3) := by decide +kernel
theorem dX6_canDo_147 : decode cX6_canDo 147 = .ok (.aload_n 0, 1) := by decide +kernel
theorem dX6_canDo_148 : decode cX6_canDo 148 = .ok (.getfield 191, 3) := by decide +kernel
theorem dX6_canDo_151 : decode cX6_canDo 151 = .ok (.iconst 1, 1) := by decide +kernel
theorem dX6_canDo_152 : decode cX6_canDo 152 = .ok (.bipush 60, 2) := by decide +kernel
theorem dX6_canDo_154 : decode cX6_canDo 154 = .ok (.invokestatic 29, 3) := by decide +kernel
theorem dX6_canDo_157 : decode cX6_canDo 157 = .ok (.ifCond .eq 21, 3) := by decide +kernel
theorem dX6_canDo_160 : decode cX6_canDo 160 = .ok (.aload_n 0, 1) := by decide +kernel
theorem dX6_canDo_161 : decode cX6_canDo 161 = .ok (.aload_n 0, 1) := by decide +kernel
theorem dX6_canDo_162 : decode cX6_canDo 162 = .ok (.getfield 7, 3) := by decide +kernel
theorem dX6_canDo_165 : decode cX6_canDo 165 = .ok (.iconst 4, 1) := by decide +kernel
theorem dX6_canDo_166 : decode cX6_canDo 166 = .ok (.iaload, 1) := by decide +kernel
theorem dX6_canDo_167 : decode cX6_canDo 167 = .ok (.iconst 0, 1) := by decide +kernel
theorem dX6_canDo_168 : decode cX6_canDo 168 = .ok (.invokevirtual 143, 3) := by decide +kernel
theorem dX6_canDo_171 : decode cX6_canDo 171 = .ok (.ifCond .eq 7, 3) := by decide +kernel
theorem dX6_canDo_174 : decode cX6_canDo 174 = .ok (.iconst 1, 1) := by decide +kernel
theorem dX6_canDo_175 : decode cX6_canDo 175 = .ok (.goto 4, 3) := by decide +kernel
theorem dX6_canDo_178 : decode cX6_canDo 178 = .ok (.iconst 0, 1) := by decide +kernel
theorem dX6_canDo_179 : decode cX6_canDo 179 = .ok (.ireturn, 1) := by decide +kernel
set_option maxRecDepth 20000 in
theorem ggX6_does_X6_begins : GoodIn wsX6_does wsX6_begins := goodIn_ca (goodIn_r _ [9, 3, 10, 11, 12, 8, 13, 14, 15, 16, 17, 18, 19, 20, 21, 22, 23, 24, 25, 26, 27, 28, 29, 30, 31, 32, 33, 34, 35, 36, 37, 38, 39, 40, 41, 42, 43, 44, 45, 46, 47, 48, 49, 50, 51, 52, 53, 54, 55, 56, 57, 58, 59, 60, 61, 62, 63, 64, 65, 66, 67, 68, 69, 106, 107, 108, 109, 110, 111, 112, 113, 114, 115, 116, 117] (by decide +kernel) (by decide +kernel)) (goodIn_sub (fun _ h => List.mem_cons_of_mem _ (List.mem_append_right _ h)) (by decide +kernel))
set_option maxRecDepth 20000 in
theorem gX6_does_X6_begins : GoodIn wsX6_does (wsV RX6 124 RX6 yX6_begins wsX6_begins) := goodIn_app (goodIn_of _ (by decide +kernel)) ggX6_does_X6_begins
set_option maxRecDepth 20000 in
theorem ggX6_does_X6_ends : GoodIn wsX6_does wsX6_ends := goodIn_ca (goodIn_r _ [69, 3, 54, 55, 56, 8, 57, 106, 107, 108, 109, 110, 111, 112, 113, 114, 115, 116, 117] (by decide +kernel) (by decide +kernel)) (goodIn_sub (fun _ h => List.mem_cons_of_mem _ (List.mem_append_right _ h)) (by decide +kernel))
set_option maxRecDepth 20000 in
theorem gX6_does_X6_ends : GoodIn wsX6_does (wsV RX6 82 RX6 yX6_ends wsX6_ends) := goodIn_app (goodIn_of _ (by decide +kernel)) ggX6_does_X6_ends
set_option maxRecDepth 20000 in
theorem ggX6_does_X6_delays : GoodIn wsX6_does wsX6_delays := goodIn_ca (goodIn_r _ [73, 3, 26, 27, 28, 8, 29, 106, 107, 108, 109, 110, 111, 112, 113, 114, 115, 116, 117] (by decide +kernel) (by decide +kernel)) (goodIn_sub (fun _ h => List.mem_cons_of_mem _ (List.mem_append_right _ h)) (by decide +kernel))
set_option maxRecDepth 20000 in
theorem gX6_does_X6_delays : GoodIn wsX6_does (wsV RX6 134 RX6 yX6_delays wsX6_delays) := goodIn_app (goodIn_of _ (by decide +kernel)) ggX6_does_X6_delays
set_option maxRecDepth 20000 in
theorem ggX6_does_X6_comesIn : GoodIn wsX6_does wsX6_comesIn := goodIn_ca (goodIn_r _ [77, 3, 78, 79, 80, 8, 81, 82, 83, 84, 85, 26, 27, 28, 29, 106, 107, 108, 109, 110, 111, 112, 113, 114, 115, 116, 117] (by decide +kernel) (by decide +kernel)) (goodIn_sub (fun _ h => List.mem_cons_of_mem _ (List.mem_append_right _ h)) (by decide +kernel))
set_option maxRecDepth 20000 in
theorem gX6_does_X6_comesIn : GoodIn wsX6_does (wsV RX6 140 RX6 yX6_comesIn wsX6_comesIn) := goodIn_app (goodIn_of _ (by decide +kernel)) ggX6_does_X6_comesIn
set_option maxRecDepth 20000 in
theorem ggX6_does_X6_settles : GoodIn wsX6_does wsX6_settles := goodIn_ca (goodIn_r _ [89, 3, 90, 91, 92, 8, 93, 18, 19, 20, 21, 14, 15, 16, 17, 94, 95, 96, 97, 46, 47, 48, 49, 34, 35, 36, 37, 38, 39, 40, 41, 26, 27, 28, 29, 50, 51, 52, 53, 54, 55, 56, 57, 58, 59, 60, 61, 62, 63, 64, 65, 98, 99, 100, 101, 106, 107, 108, 109, 110, 111, 112, 113, 114, 115, 116, 117] (by decide +kernel) (by decide +kernel)) (goodIn_sub (fun _ h => List.mem_cons_of_mem _ (List.mem_append_right _ h)) (by decide +kernel))
set_option maxRecDepth 20000 in
theorem gX6_does_X6_settles : GoodIn wsX6_does (wsV RX6 151 RX6 yX6_settles wsX6_settles) := goodIn_app (goodIn_of _ (by decide +kernel)) ggX6_does_X6_settles
set_option maxRecDepth 20000 in
theorem ggX6_does_X6_pushes : GoodIn wsX6_does wsX6_pushes := goodIn_ca (goodIn_r _ [105, 3, 26, 27, 28, 8, 29, 106, 107, 108, 109, 110, 111, 112, 113, 114, 115, 116, 117] (by decide +kernel) (by decide +kernel)) (goodIn_sub (fun _ h => List.mem_cons_of_mem _ (List.mem_append_right _ h)) (by decide +kernel))
set_option maxRecDepth 20000 in
theorem gX6_does_X6_pushes : GoodIn wsX6_does (wsV RX6 147 RX6 yX6_pushes wsX6_pushes) := goodIn_app (goodIn_of _ (by decide +kernel)) ggX6_does_X6_pushes
theorem dX6_does_0 : decode cX6_does 0 = .ok (.aload_n 0, 1) := by decide +kernel
theorem dX6_does_1 : decode cX6_does 1 = .ok (.getfield 194, 3) := by decide +kernel
theorem dX6_does_4 : decode cX6_does 4 = .ok (.lookupswitch 81 #[(99, 67), (100, 62), (101, 57), (110, 52), (114, 76)], 52) := by decide +kernel
theorem dX6_does_56 : decode cX6_does 56 = .ok (.aload_n 0, 1) := by decide +kernel
theorem dX6_does_57 : decode cX6_does 57 = .ok (.invokevirtual 124, 3) := by decide +kernel
theorem dX6_does_60 : decode cX6_does 60 = .ok (.ireturn, 1) := by decide +kernel
theorem dX6_does_61 : decode cX6_does 61 = .ok (.aload_n 0, 1) := by decide +kernel
theorem dX6_does_62 : decode cX6_does 62 = .ok (.invokevirtual 82, 3) := by decide +kernel
theorem dX6_does_65 : decode cX6_does 65 = .ok (.ireturn, 1) := by decide +kernel
theorem dX6_does_66 : decode cX6_does 66 = .ok (.aload_n 0, 1) := by decide +kernel
theorem dX6_does_67 : decode cX6_does 67 = .ok (.invokevirtual 134, 3) := by decide +kernel
theorem dX6_does_70 : decode cX6_does 70 = .ok (.ireturn, 1) := by decide +kernel
theorem dX6_does_71 : decode cX6_does 71 = .ok (.aload_n 0, 1) := by decide +kernel
theorem dX6_does_72 : decode cX6_does 72 = .ok (.aload_n 0, 1) := by decide +kernel
theorem dX6_does_73 : decode cX6_does 73 = .ok (.getfield 181, 3) := by decide +kernel
theorem dX6_does_76 : decode cX6_does 76 = .ok (.invokevirtual 140, 3) := by decide +kernel
theorem dX6_does_79 : decode cX6_does 79 = .ok (.ireturn, 1) := by decide +kernel
theorem dX6_does_80 : decode cX6_does 80 = .ok (.aload_n 0, 1) := by decide +kernel
theorem dX6_does_81 : decode cX6_does 81 = .ok (.invokevirtual 151, 3) := by decide +kernel
theorem dX6_does_84 : decode cX6_does 84 = .ok (.ireturn, 1) := by decide +kernel
theorem dX6_does_85 : decode cX6_does 85 = .ok (.aload_n 0, 1) := by decide +kernel
theorem dX6_does_86 : decode cX6_does 86 = .ok (.aload_n 0, 1) := by decide +kernel
theorem dX6_does_87 : decode cX6_does 87 = .ok (.getfield 194, 3) := by decide +kernel
theorem dX6_does_90 : decode cX6_does 90 = .ok (.bipush 115, 2) := by decide +kernel
theorem dX6_does_92 : decode cX6_does 92 = .ok (.if_icmp .ne 7, 3) := by decide +kernel
theorem dX6_does_95 : decode cX6_does 95 = .ok (.iconst 0, 1) := by decide +kernel
theorem dX6_does_96 : decode cX6_does 96 = .ok (.goto 4, 3) := by decide +kernel
theorem dX6_does_99 : decode cX6_does 99 = .ok (.iconst 1, 1) := by decide +kernel
theorem dX6_does_100 : decode cX6_does 100 = .ok (.aload_n 0, 1) := by decide +kernel
theorem dX6_does_101 : decode cX6_does 101 = .ok (.getfield 7, 3) := by decide +kernel
theorem dX6_does_104 : decode cX6_does 104 = .ok (.iconst 4, 1) := by decide +kernel
theorem dX6_does_105 : decode cX6_does 105 = .ok (.iaload, 1) := by decide +kernel
theorem dX6_does_106 : decode cX6_does 106 = .ok (.aload_n 0, 1) := by decide +kernel
theorem dX6_does_107 : decode cX6_does 107 = .ok (.getfield 181, 3) := by decide +kernel
theorem dX6_does_110 : decode cX6_does 110 = .ok (.aload_n 0, 1) := by decide +kernel
theorem dX6_does_111 : decode cX6_does 111 = .ok (.getfield 191, 3) := by decide +kernel
theorem dX6_does_114 : decode cX6_does 114 = .ok (.iconst 0, 1) := by decide +kernel
theorem dX6_does_115 : decode cX6_does 115 = .ok (.iconst 0, 1) := by decide +kernel
theorem dX6_does_116 : decode cX6_does 116 = .ok (.iconst 0, 1) := by decide +kernel
theorem dX6_does_117 : decode cX6_does 117 = .ok (.invokevirtual 147, 3) := by decide +kernel
theorem dX6_does_120 : decode cX6_does 120 = .ok (.ireturn, 1) := by decide +kernel
theorem dX6_exchange_0 : decode cX6_exchange 0 = .ok (.iconst 0, 1) := by decide +kernel
theorem dX6_exchange_1 : decode cX6_exchange 1 = .ok (.istore_n 1, 1) := by decide +kernel
theorem dX6_exchange_2 : decode cX6_exchange 2 = .ok (.iload_n 1, 1) := by decide +kernel
theorem dX6_exchange_3 : decode cX6_exchange 3 = .ok (.sipush 378, 3) := by decide +kernel
theorem dX6_exchange_6 : decode cX6_exchange 6 = .ok (.if_icmp .ge 35, 3) := by decide +kernel
theorem dX6_exchange_9 : decode cX6_exchange 9 = .ok (.aload_n 0, 1) := by decide +kernel
theorem dX6_exchange_10 : decode cX6_exchange 10 = .ok (.getfield 7, 3) := by decide +kernel
theorem dX6_exchange_13 : decode cX6_exchange 13 = .ok (.iload_n 1, 1) := by decide +kernel
theorem dX6_exchange_14 : decode cX6_exchange 14 = .ok (.iaload, 1) := by decide +kernel
theorem dX6_exchange_15 : decode cX6_exchange 15 = .ok (.istore_n 2, 1) := by decide +kernel
theorem dX6_exchange_16 : decode cX6_exchange 16 = .ok (.aload_n 0, 1) := by decide +kernel
theorem dX6_exchange_17 : decode cX6_exchange 17 = .ok (.getfield 7, 3) := by decide +kernel
theorem dX6_exchange_20 : decode cX6_exchange 20 = .ok (.iload_n 1, 1) := by decide +kernel
theorem dX6_exchange_21 : decode cX6_exchange 21 = .ok (.aload_n 0, 1) := by decide +kernel
theorem dX6_exchange_22 : decode cX6_exchange 22 = .ok (.getfield 13, 3) := by decide +kernel
theorem dX6_exchange_25 : decode cX6_exchange 25 = .ok (.iload_n 1, 1) := by decide +kernel
theorem dX6_exchange_26 : decode cX6_exchange 26 = .ok (.iaload, 1) := by decide +kernel
theorem dX6_exchange_27 : decode cX6_exchange 27 = .ok (.iastore, 1) := by decide +kernel
theorem dX6_exchange_28 : decode cX6_exchange 28 = .ok (.aload_n 0, 1) := by decide +kernel
theorem dX6_exchange_29 : decode cX6_exchange 29 = .ok (.getfield 13, 3) := by decide +kernel
theorem dX6_exchange_32 : decode cX6_exchange 32 = .ok (.iload_n 1, 1) := by decide +kernel
theorem dX6_exchange_33 : decode cX6_exchange 33 = .ok (.iload_n 2, 1) := by decide +kernel
theorem dX6_exchange_34 : decode cX6_exchange 34 = .ok (.iastore, 1) := by decide +kernel
theorem dX6_exchange_35 : decode cX6_exchange 35 = .ok (.iinc 1 1, 3) := by decide +kernel
theorem dX6_exchange_38 : decode cX6_exchange 38 = .ok (.goto (-36), 3) := by decide +kernel
theorem dX6_exchange_41 : decode cX6_exchange 41 = .ok (.return_, 1) := by decide +kernel
set_option maxRecDepth 20000 in
theorem ggX6_carryOut_X6_readsCommand : GoodIn wsX6_carryOut wsX6_readsCommand := goodIn_ca (goodIn_r _ [8, 9, 10, 11, 12, 7, 13, 2, 3, 14, 15, 16, 17, 18, 19, 20, 21, 22, 23, 24, 25, 26, 27, 28, 29, 30, 31, 32, 33, 34, 35, 188, 189, 190, 191, 192, 193, 194, 195, 196, 197, 198, 199] (by decide +kernel) (by decide +kernel)) (goodIn_sub (fun _ h => List.mem_cons_of_mem _ (List.mem_append_right _ h)) (by decide +kernel))
set_option maxRecDepth 20000 in
theorem gX6_carryOut_X6_readsCommand : GoodIn wsX6_carryOut (wsV RX6 203 RX6 yX6_readsCommand wsX6_readsCommand) := goodIn_app (goodIn_of _ (by decide +kernel)) ggX6_carryOut_X6_readsCommand
set_option maxRecDepth 20000 in
theorem ggX6_carryOut_X6_hold : GoodIn wsX6_carryOut wsX6_hold := goodIn_ca (goodIn_r _ [39, 40, 41, 188, 189, 190, 191, 192, 193, 194, 195, 196, 197, 198, 199] (by decide +kernel) (by decide +kernel)) (goodIn_sub (fun _ h => List.mem_cons_of_mem _ (List.mem_append_right _ h)) (by decide +kernel))
set_option maxRecDepth 20000 in
theorem gX6_carryOut_X6_hold : GoodIn wsX6_carryOut (wsV RX6 154 RX6 yX6_hold wsX6_hold) := goodIn_app (goodIn_of _ (by decide +kernel)) ggX6_carryOut_X6_hold
set_option maxRecDepth 20000 in
theorem ggX6_carryOut_X6_canDo : GoodIn wsX6_carryOut wsX6_canDo := goodIn_ca (goodIn_r _ [45, 9, 41, 23, 35, 46, 47, 48, 7, 49, 50, 51, 52, 53, 54, 55, 56, 57, 58, 59, 60, 61, 28, 29, 30, 62, 63, 64, 65, 66, 67, 68, 69, 70, 71, 72, 73, 74, 75, 76, 77, 78, 79, 80, 81, 188, 189, 190, 191, 192, 193, 194, 195, 196, 197, 198, 199] (by decide +kernel) (by decide +kernel)) (goodIn_sub (fun _ h => List.mem_cons_of_mem _ (List.mem_append_right _ h)) (by decide +kernel))
set_option maxRecDepth 20000 in
theorem gX6_carryOut_X6_canDo : GoodIn wsX6_carryOut (wsV RX6 206 RX6 yX6_canDo wsX6_canDo) := goodIn_app (goodIn_of _ (by decide +kernel)) ggX6_carryOut_X6_canDo
set_option maxRecDepth 20000 in
theorem ggX6_carryOut_X6_release : GoodIn wsX6_carryOut wsX6_release := goodIn_ca (goodIn_r _ [85, 41, 40, 188, 189, 190, 191, 192, 193, 194, 195, 196, 197, 198, 199] (by decide +kernel) (by decide +kernel)) (goodIn_sub (fun _ h => List.mem_cons_of_mem _ (List.mem_append_right _ h)) (by decide +kernel))
set_option maxRecDepth 20000 in
theorem gX6_carryOut_X6_release : GoodIn wsX6_carryOut (wsV RX6 163 RX6 yX6_release wsX6_release) := goodIn_app (goodIn_of _ (by decide +kernel)) ggX6_carryOut_X6_release
set_option maxRecDepth 20000 in
theorem ggX6_carryOut_X6_does : GoodIn wsX6_carryOut wsX6_does := goodIn_ca (goodIn_r _ [89, 9, 23, 41, 35, 90, 91, 92, 7, 93, 94, 95, 96, 97, 54, 55, 56, 57, 66, 67, 68, 69, 98, 99, 100, 101, 102, 103, 104, 105, 106, 107, 108, 109, 110, 111, 112, 113, 114, 115, 116, 117, 118, 119, 120, 121, 122, 123, 124, 125, 126, 127, 128, 129, 130, 131, 132, 133, 134, 135, 136, 137, 138, 139, 140, 141, 142, 143, 144, 145, 146, 147, 148, 149, 150, 151, 152, 153, 154, 155, 156, 157, 158, 159, 160, 161, 162, 163, 164, 165, 78, 79, 80, 81, 166, 167, 168, 169, 170, 171, 172, 173, 174, 175, 176, 177, 188, 189, 190, 191, 192, 193, 194, 195, 196, 197, 198, 199] (by decide +kernel) (by decide +kernel)) (goodIn_sub (fun _ h => List.mem_cons_of_mem _ (List.mem_append_right _ h)) (by decide +kernel))
set_option maxRecDepth 20000 in
theorem gX6_carryOut_X6_does : GoodIn wsX6_carryOut (wsV RX6 209 RX6 yX6_does wsX6_does) := goodIn_app (goodIn_of _ (by decide +kernel)) ggX6_carryOut_X6_does
set_option maxRecDepth 20000 in
theorem ggX6_carryOut_X6_exchange : GoodIn wsX6_carryOut wsX6_exchange := goodIn_ca (goodIn_r _ [181, 41, 40, 188, 189, 190, 191, 192, 193, 194, 195, 196, 197, 198, 199] (by decide +kernel) (by decide +kernel)) (goodIn_sub (fun _ h => List.mem_cons_of_mem _ (List.mem_append_right _ h)) (by decide +kernel))
set_option maxRecDepth 20000 in
theorem gX6_carryOut_X6_exchange : GoodIn wsX6_carryOut (wsV RX6 212 RX6 yX6_exchange wsX6_exchange) := goodIn_app (goodIn_of _ (by decide +kernel)) ggX6_carryOut_X6_exchange
set_option maxRecDepth 20000 in
theorem ggX6_carryOut_X6_save : GoodIn wsX6_carryOut wsX6_save := goodIn_ca (goodIn_r _ [185, 186, 187, 41, 188, 189, 190, 191, 192, 193, 194, 195, 196, 197, 198, 199] (by decide +kernel) (by decide +kernel)) (goodIn_sub (fun _ h => List.mem_cons_of_mem _ (List.mem_append_right _ h)) (by decide +kernel))
set_option maxRecDepth 20000 in
theorem gX6_carryOut_X6_save : GoodIn wsX6_carryOut (wsV RX6 106 RX6 yX6_save wsX6_save) := goodIn_app (goodIn_of _ (by decide +kernel)) ggX6_carryOut_X6_save
theorem dX6_carryOut_0 : decode cX6_carryOut 0 = .ok (.aload_n 0, 1) := by decide +kernel
theorem dX6_carryOut_1 : decode cX6_carryOut 1 = .ok (.iconst 0, 1) := by decide +kernel
theorem dX6_carryOut_2 : decode cX6_carryOut 2 = .ok (.putfield 22, 3) := by decide +kernel
theorem dX6_carryOut_5 : decode cX6_carryOut 5 = .ok (.aload_n 0, 1) := by decide +kernel
theorem dX6_carryOut_6 : decode cX6_carryOut 6 = .ok (.iconst 0, 1) := by decide +kernel
theorem dX6_carryOut_7 : decode cX6_carryOut 7 = .ok (.putfield 175, 3) := by decide +kernel
theorem dX6_carryOut_10 : decode cX6_carryOut 10 = .ok (.iconst 1, 1) := by decide +kernel
theorem dX6_carryOut_11 : decode cX6_carryOut 11 = .ok (.istore_n 1, 1) := by decide +kernel
theorem dX6_carryOut_12 : decode cX6_carryOut 12 = .ok (.iload_n 1, 1) := by decide +kernel
theorem dX6_carryOut_13 : decode cX6_carryOut 13 = .ok (.ifCond .eq 22, 3) := by decide +kernel
theorem dX6_carryOut_16 : decode cX6_carryOut 16 = .ok (.aload_n 0, 1) := by decide +kernel
theorem dX6_carryOut_17 : decode cX6_carryOut 17 = .ok (.getfield 175, 3) := by decide +kernel
theorem dX6_carryOut_20 : decode cX6_carryOut 20 = .ok (.aload_n 0, 1) := by decide +kernel
theorem dX6_carryOut_21 : decode cX6_carryOut 21 = .ok (.getfield 172, 3) := by decide +kernel
theorem dX6_carryOut_24 : decode cX6_carryOut 24 = .ok (.if_icmp .ge 11, 3) := by decide +kernel
theorem dX6_carryOut_27 : decode cX6_carryOut 27 = .ok (.aload_n 0, 1) := by decide +kernel
theorem dX6_carryOut_28 : decode cX6_carryOut 28 = .ok (.invokevirtual 203, 3) := by decide +kernel
theorem dX6_carryOut_31 : decode cX6_carryOut 31 = .ok (.istore_n 1, 1) := by decide +kernel
theorem dX6_carryOut_32 : decode cX6_carryOut 32 = .ok (.goto (-20), 3) := by decide +kernel
theorem dX6_carryOut_35 : decode cX6_carryOut 35 = .ok (.iload_n 1, 1) := by decide +kernel
theorem dX6_carryOut_36 : decode cX6_carryOut 36 = .ok (.ifCond .ne 11, 3) := by decide +kernel
theorem dX6_carryOut_39 : decode cX6_carryOut 39 = .ok (.bipush (-10), 2) := by decide +kernel
theorem dX6_carryOut_41 : decode cX6_carryOut 41 = .ok (.aload_n 0, 1) := by decide +kernel
theorem dX6_carryOut_42 : decode cX6_carryOut 42 = .ok (.getfield 175, 3) := by decide +kernel
theorem dX6_carryOut_45 : decode cX6_carryOut 45 = .ok (.isub, 1) := by decide +kernel
theorem dX6_carryOut_46 : decode cX6_carryOut 46 = .ok (.ireturn, 1) := by decide +kernel
theorem dX6_carryOut_47 : decode cX6_carryOut 47 = .ok (.aload_n 0, 1) := by decide +kernel
theorem dX6_carryOut_48 : decode cX6_carryOut 48 = .ok (.invokevirtual 154, 3) := by decide +kernel
theorem dX6_carryOut_51 : decode cX6_carryOut 51 = .ok (.aload_n 0, 1) := by decide +kernel
theorem dX6_carryOut_52 : decode cX6_carryOut 52 = .ok (.iconst 0, 1) := by decide +kernel
theorem dX6_carryOut_53 : decode cX6_carryOut 53 = .ok (.putfield 175, 3) := by decide +kernel
theorem dX6_carryOut_56 : decode cX6_carryOut 56 = .ok (.iconst 0, 1) := by decide +kernel
theorem dX6_carryOut_57 : decode cX6_carryOut 57 = .ok (.istore_n 2, 1) := by decide +kernel
theorem dX6_carryOut_58 : decode cX6_carryOut 58 = .ok (.aload_n 0, 1) := by decide +kernel
theorem dX6_carryOut_59 : decode cX6_carryOut 59 = .ok (.getfield 175, 3) := by decide +kernel
theorem dX6_carryOut_62 : decode cX6_carryOut 62 = .ok (.aload_n 0, 1) := by decide +kernel
theorem dX6_carryOut_63 : decode cX6_carryOut 63 = .ok (.getfield 172, 3) := by decide +kernel
theorem dX6_carryOut_66 : decode cX6_carryOut 66 = .ok (.if_icmp .ge 58, 3) := by decide +kernel
theorem dX6_carryOut_69 : decode cX6_carryOut 69 = .ok (.aload_n 0, 1) := by decide +kernel
theorem dX6_carryOut_70 : decode cX6_carryOut 70 = .ok (.invokevirtual 203, 3) := by decide +kernel
theorem dX6_carryOut_73 : decode cX6_carryOut 73 = .ok (.ifCond .eq 14, 3) := by decide +kernel
theorem dX6_carryOut_76 : decode cX6_carryOut 76 = .ok (.aload_n 0, 1) := by decide +kernel
theorem dX6_carryOut_77 : decode cX6_carryOut 77 = .ok (.invokevirtual 206, 3) := by decide +kernel
theorem dX6_carryOut_80 : decode cX6_carryOut 80 = .ok (.ifCond .eq 7, 3) := by decide +kernel
theorem dX6_carryOut_83 : decode cX6_carryOut 83 = .ok (.iconst 1, 1) := by decide +kernel
theorem dX6_carryOut_84 : decode cX6_carryOut 84 = .ok (.goto 4, 3) := by decide +kernel
theorem dX6_carryOut_87 : decode cX6_carryOut 87 = .ok (.iconst 0, 1) := by decide +kernel
theorem dX6_carryOut_88 : decode cX6_carryOut 88 = .ok (.istore_n 1, 1) := by decide +kernel
theorem dX6_carryOut_89 : decode cX6_carryOut 89 = .ok (.iload_n 1, 1) := by decide +kernel
theorem dX6_carryOut_90 : decode cX6_carryOut 90 = .ok (.ifCond .ne 13, 3) := by decide +kernel
theorem dX6_carryOut_93 : decode cX6_carryOut 93 = .ok (.aload_n 0, 1) := by decide +kernel
theorem dX6_carryOut_94 : decode cX6_carryOut 94 = .ok (.invokevirtual 163, 3) := by decide +kernel
theorem dX6_carryOut_97 : decode cX6_carryOut 97 = .ok (.sipush (-1000), 3) := by decide +kernel
theorem dX6_carryOut_100 : decode cX6_carryOut 100 = .ok (.iload_n 2, 1) := by decide +kernel
theorem dX6_carryOut_101 : decode cX6_carryOut 101 = .ok (.isub, 1) := by decide +kernel
theorem dX6_carryOut_102 : decode cX6_carryOut 102 = .ok (.ireturn, 1) := by decide +kernel
theorem dX6_carryOut_103 : decode cX6_carryOut 103 = .ok (.aload_n 0, 1) := by decide +kernel
theorem dX6_carryOut_104 : decode cX6_carryOut 104 = .ok (.invokevirtual 209, 3) := by decide +kernel
theorem dX6_carryOut_107 : decode cX6_carryOut 107 = .ok (.istore_n 3, 1) := by decide +kernel
theorem dX6_carryOut_108 : decode cX6_carryOut 108 = .ok (.iload_n 2, 1) := by decide +kernel
theorem dX6_carryOut_109 : decode cX6_carryOut 109 = .ok (.iload_n 3, 1) := by decide +kernel
theorem dX6_carryOut_110 : decode cX6_carryOut 110 = .ok (.iconst (-1), 1) := by decide +kernel
theorem dX6_carryOut_111 : decode cX6_carryOut 111 = .ok (.if_icmp .ge 7, 3) := by decide +kernel
theorem dX6_carryOut_114 : decode cX6_carryOut 114 = .ok (.iconst 0, 1) := by decide +kernel
theorem dX6_carryOut_115 : decode cX6_carryOut 115 = .ok (.goto 4, 3) := by decide +kernel
theorem dX6_carryOut_118 : decode cX6_carryOut 118 = .ok (.iconst 1, 1) := by decide +kernel
theorem dX6_carryOut_119 : decode cX6_carryOut 119 = .ok (.iadd, 1) := by decide +kernel
theorem dX6_carryOut_120 : decode cX6_carryOut 120 = .ok (.istore_n 2, 1) := by decide +kernel
theorem dX6_carryOut_121 : decode cX6_carryOut 121 = .ok (.goto (-63), 3) := by decide +kernel
theorem dX6_carryOut_124 : decode cX6_carryOut 124 = .ok (.aload_n 0, 1) := by decide +kernel
theorem dX6_carryOut_125 : decode cX6_carryOut 125 = .ok (.invokevirtual 212, 3) := by decide +kernel
theorem dX6_carryOut_128 : decode cX6_carryOut 128 = .ok (.aload_n 0, 1) := by decide +kernel
theorem dX6_carryOut_129 : decode cX6_carryOut 129 = .ok (.invokevirtual 106, 3) := by decide +kernel
theorem dX6_carryOut_132 : decode cX6_carryOut 132 = .ok (.aload_n 0, 1) := by decide +kernel
theorem dX6_carryOut_133 : decode cX6_carryOut 133 = .ok (.invokevirtual 212, 3) := by decide +kernel
theorem dX6_carryOut_136 : decode cX6_carryOut 136 = .ok (.iload_n 2, 1) := by decide +kernel
theorem dX6_carryOut_137 : decode cX6_carryOut 137 = .ok (.ireturn, 1) := by decide +kernel
set_option maxRecDepth 20000 in
theorem ggX6_undo_X6_fails : GoodIn wsX6_undo wsX6_fails := goodIn_r _ [9, 1, 10, 11, 12, 13, 14, 15, 16, 17, 18, 19, 20, 21] (by decide +kernel) (by decide +kernel)
set_option maxRecDepth 20000 in
theorem gX6_undo_X6_fails : GoodIn wsX6_undo (wsV RX6 103 RX6 yX6_fails wsX6_fails) := goodIn_app (goodIn_of _ (by decide +kernel)) ggX6_undo_X6_fails
theorem dX6_undo_0 : decode cX6_undo 0 = .ok (.aload_n 0, 1) := by decide +kernel
theorem dX6_undo_1 : decode cX6_undo 1 = .ok (.iconst 0, 1) := by decide +kernel
theorem dX6_undo_2 : decode cX6_undo 2 = .ok (.putfield 22, 3) := by decide +kernel
theorem dX6_undo_5 : decode cX6_undo 5 = .ok (.aload_n 0, 1) := by decide +kernel
theorem dX6_undo_6 : decode cX6_undo 6 = .ok (.getfield 26, 3) := by decide +kernel
theorem dX6_undo_9 : decode cX6_undo 9 = .ok (.ifCond .ne 9, 3) := by decide +kernel
theorem dX6_undo_12 : decode cX6_undo 12 = .ok (.aload_n 0, 1) := by decide +kernel
theorem dX6_undo_13 : decode cX6_undo 13 = .ok (.iconst 1, 1) := by decide +kernel
theorem dX6_undo_14 : decode cX6_undo 14 = .ok (.invokevirtual 103, 3) := by decide +kernel
theorem dX6_undo_17 : decode cX6_undo 17 = .ok (.ireturn, 1) := by decide +kernel
theorem dX6_undo_18 : decode cX6_undo 18 = .ok (.aload_n 0, 1) := by decide +kernel
theorem dX6_undo_19 : decode cX6_undo 19 = .ok (.dup, 1) := by decide +kernel
theorem dX6_undo_20 : decode cX6_undo 20 = .ok (.getfield 26, 3) := by decide +kernel
theorem dX6_undo_23 : decode cX6_undo 23 = .ok (.iconst 1, 1) := by decide +kernel
theorem dX6_undo_24 : decode cX6_undo 24 = .ok (.isub, 1) := by decide +kernel
theorem dX6_undo_25 : decode cX6_undo 25 = .ok (.putfield 26, 3) := by decide +kernel
theorem dX6_undo_28 : decode cX6_undo 28 = .ok (.iconst 0, 1) := by decide +kernel
theorem dX6_undo_29 : decode cX6_undo 29 = .ok (.istore_n 1, 1) := by decide +kernel
theorem dX6_undo_30 : decode cX6_undo 30 = .ok (.iload_n 1, 1) := by decide +kernel
theorem dX6_undo_31 : decode cX6_undo 31 = .ok (.sipush 378, 3) := by decide +kernel
theorem dX6_undo_34 : decode cX6_undo 34 = .ok (.if_icmp .ge 30, 3) := by decide +kernel
theorem dX6_undo_37 : decode cX6_undo 37 = .ok (.aload_n 0, 1) := by decide +kernel
theorem dX6_undo_38 : decode cX6_undo 38 = .ok (.getfield 7, 3) := by decide +kernel
theorem dX6_undo_41 : decode cX6_undo 41 = .ok (.iload_n 1, 1) := by decide +kernel
theorem dX6_undo_42 : decode cX6_undo 42 = .ok (.aload_n 0, 1) := by decide +kernel
theorem dX6_undo_43 : decode cX6_undo 43 = .ok (.getfield 16, 3) := by decide +kernel
theorem dX6_undo_46 : decode cX6_undo 46 = .ok (.sipush 378, 3) := by decide +kernel
theorem dX6_undo_49 : decode cX6_undo 49 = .ok (.aload_n 0, 1) := by decide +kernel
theorem dX6_undo_50 : decode cX6_undo 50 = .ok (.getfield 26, 3) := by decide +kernel
theorem dX6_undo_53 : decode cX6_undo 53 = .ok (.imul, 1) := by decide +kernel
theorem dX6_undo_54 : decode cX6_undo 54 = .ok (.iload_n 1, 1) := by decide +kernel
theorem dX6_undo_55 : decode cX6_undo 55 = .ok (.iadd, 1) := by decide +kernel
theorem dX6_undo_56 : decode cX6_undo 56 = .ok (.iaload, 1) := by decide +kernel
theorem dX6_undo_57 : decode cX6_undo 57 = .ok (.iastore, 1) := by decide +kernel
theorem dX6_undo_58 : decode cX6_undo 58 = .ok (.iinc 1 1, 3) := by decide +kernel
theorem dX6_undo_61 : decode cX6_undo 61 = .ok (.goto (-31), 3) := by decide +kernel
theorem dX6_undo_64 : decode cX6_undo 64 = .ok (.aload_n 0, 1) := by decide +kernel
theorem dX6_undo_65 : decode cX6_undo 65 = .ok (.getfield 26, 3) := by decide +kernel
theorem dX6_undo_68 : decode cX6_undo 68 = .ok (.ireturn, 1) := by decide +kernel
theorem dX6_take_0 : decode cX6_take 0 = .ok (.aload_n 0, 1) := by decide +kernel
theorem dX6_take_1 : decode cX6_take 1 = .ok (.ldc2_w 215, 3) := by decide +kernel
theorem dX6_take_4 : decode cX6_take 4 = .ok (.aload_n 0, 1) := by decide +kernel
theorem dX6_take_5 : decode cX6_take 5 = .ok (.getfield 217, 3) := by decide +kernel
theorem dX6_take_8 : decode cX6_take 8 = .ok (.lmul, 1) := by decide +kernel
theorem dX6_take_9 : decode cX6_take 9 = .ok (.iload_n 1, 1) := by decide +kernel
theorem dX6_take_10 : decode cX6_take 10 = .ok (.i2l, 1) := by decide +kernel
theorem dX6_take_11 : decode cX6_take 11 = .ok (.ladd, 1) := by decide +kernel
theorem dX6_take_12 : decode cX6_take 12 = .ok (.putfield 217, 3) := by decide +kernel
theorem dX6_take_15 : decode cX6_take 15 = .ok (.return_, 1) := by decide +kernel
set_option maxRecDepth 20000 in
theorem ggX6_digest_X6_take : GoodIn wsX6_digest wsX6_take := goodIn_r _ [11, 12, 3, 61, 62, 63, 64, 65, 66, 67, 68, 69, 70, 71, 72] (by decide +kernel) (by decide +kernel)
set_option maxRecDepth 20000 in
theorem gX6_digest_X6_take : GoodIn wsX6_digest (wsV RX6 223 RX6 yX6_take wsX6_take) := goodIn_app (goodIn_of _ (by decide +kernel)) ggX6_digest_X6_take
set_option maxRecDepth 20000 in
theorem ggX6_digest_X6_valueOf : GoodIn wsX6_digest wsX6_valueOf := goodIn_ca (goodIn_r _ [16, 5, 17, 18, 19, 10, 20, 21, 22, 23, 24, 25, 26, 27, 28, 61, 62, 63, 64, 65, 66, 67, 68, 69, 70, 71, 72] (by decide +kernel) (by decide +kernel)) (goodIn_sub (fun _ h => List.mem_cons_of_mem _ (List.mem_append_right _ h)) (by decide +kernel))
set_option maxRecDepth 20000 in
theorem gX6_digest_X6_valueOf : GoodIn wsX6_digest (wsV RX6 121 RX6 yX6_valueOf wsX6_valueOf) := goodIn_app (goodIn_of _ (by decide +kernel)) ggX6_digest_X6_valueOf
set_option maxRecDepth 20000 in
theorem ggX6_digest_X6_valueOfFighter : GoodIn wsX6_digest wsX6_valueOfFighter := goodIn_ca (goodIn_r _ [32, 33, 34, 35, 10, 36, 25, 26, 27, 28, 5, 37, 38, 39, 40, 41, 42, 43, 44, 45, 46, 47, 48, 49, 50, 51, 52, 53, 54, 55, 56, 61, 62, 63, 64, 65, 66, 67, 68, 69, 70, 71, 72] (by decide +kernel) (by decide +kernel)) (goodIn_sub (fun _ h => List.mem_cons_of_mem _ (List.mem_append_right _ h)) (by decide +kernel))
set_option maxRecDepth 20000 in
theorem gX6_digest_X6_valueOfFighter : GoodIn wsX6_digest (wsV RX6 115 RX6 yX6_valueOfFighter wsX6_valueOfFighter) := goodIn_app (goodIn_of _ (by decide +kernel)) ggX6_digest_X6_valueOfFighter
set_option maxRecDepth 20000 in
theorem ggX6_digest_X6_ofEffect : GoodIn wsX6_digest wsX6_ofEffect := goodIn_ca (goodIn_r _ [44, 5, 61, 62, 63, 64, 65, 66, 67, 68, 69, 70, 71, 72] (by decide +kernel) (by decide +kernel)) (goodIn_sub (fun _ h => List.mem_cons_of_mem _ (List.mem_append_right _ h)) (by decide +kernel))
set_option maxRecDepth 20000 in
theorem gX6_digest_X6_ofEffect : GoodIn wsX6_digest (wsV RX6 37 RX6 yX6_ofEffect wsX6_ofEffect) := goodIn_app (goodIn_of _ (by decide +kernel)) ggX6_digest_X6_ofEffect
set_option maxRecDepth 20000 in
theorem ggX6_digest_X6_ofAct : GoodIn wsX6_digest wsX6_ofAct := goodIn_ca (goodIn_r _ [60, 5, 61, 62, 63, 64, 65, 66, 67, 68, 69, 70, 71, 72] (by decide +kernel) (by decide +kernel)) (goodIn_sub (fun _ h => List.mem_cons_of_mem _ (List.mem_append_right _ h)) (by decide +kernel))
set_option maxRecDepth 20000 in
theorem gX6_digest_X6_ofAct : GoodIn wsX6_digest (wsV RX6 91 RX6 yX6_ofAct wsX6_ofAct) := goodIn_app (goodIn_of _ (by decide +kernel)) ggX6_digest_X6_ofAct
theorem dX6_digest_0 : decode cX6_digest 0 = .ok (.aload_n 0, 1) := by decide +kernel
theorem dX6_digest_1 : decode cX6_digest 1 = .ok (.iconst 0, 1) := by decide +kernel
theorem dX6_digest_2 : decode cX6_digest 2 = .ok (.putfield 22, 3) := by decide +kernel
theorem dX6_digest_5 : decode cX6_digest 5 = .ok (.aload_n 0, 1) := by decide +kernel
theorem dX6_digest_6 : decode cX6_digest 6 = .ok (.ldc2_w 221, 3) := by decide +kernel
theorem dX6_digest_9 : decode cX6_digest 9 = .ok (.putfield 217, 3) := by decide +kernel
theorem dX6_digest_12 : decode cX6_digest 12 = .ok (.aload_n 0, 1) := by decide +kernel
theorem dX6_digest_13 : decode cX6_digest 13 = .ok (.aload_n 0, 1) := by decide +kernel
theorem dX6_digest_14 : decode cX6_digest 14 = .ok (.getfield 172, 3) := by decide +kernel
theorem dX6_digest_17 : decode cX6_digest 17 = .ok (.invokevirtual 223, 3) := by decide +kernel
theorem dX6_digest_20 : decode cX6_digest 20 = .ok (.iconst 0, 1) := by decide +kernel
theorem dX6_digest_21 : decode cX6_digest 21 = .ok (.istore_n 1, 1) := by decide +kernel
theorem dX6_digest_22 : decode cX6_digest 22 = .ok (.iload_n 1, 1) := by decide +kernel
theorem dX6_digest_23 : decode cX6_digest 23 = .ok (.bipush 9, 2) := by decide +kernel
theorem dX6_digest_25 : decode cX6_digest 25 = .ok (.if_icmp .ge 18, 3) := by decide +kernel
theorem dX6_digest_28 : decode cX6_digest 28 = .ok (.aload_n 0, 1) := by decide +kernel
theorem dX6_digest_29 : decode cX6_digest 29 = .ok (.aload_n 0, 1) := by decide +kernel
theorem dX6_digest_30 : decode cX6_digest 30 = .ok (.iload_n 1, 1) := by decide +kernel
theorem dX6_digest_31 : decode cX6_digest 31 = .ok (.invokevirtual 121, 3) := by decide +kernel
theorem dX6_digest_34 : decode cX6_digest 34 = .ok (.invokevirtual 223, 3) := by decide +kernel
theorem dX6_digest_37 : decode cX6_digest 37 = .ok (.iinc 1 1, 3) := by decide +kernel
theorem dX6_digest_40 : decode cX6_digest 40 = .ok (.goto (-18), 3) := by decide +kernel
theorem dX6_digest_43 : decode cX6_digest 43 = .ok (.iconst 0, 1) := by decide +kernel
theorem dX6_digest_44 : decode cX6_digest 44 = .ok (.istore_n 1, 1) := by decide +kernel
theorem dX6_digest_45 : decode cX6_digest 45 = .ok (.iload_n 1, 1) := by decide +kernel
theorem dX6_digest_46 : decode cX6_digest 46 = .ok (.aload_n 0, 1) := by decide +kernel
theorem dX6_digest_47 : decode cX6_digest 47 = .ok (.getfield 7, 3) := by decide +kernel
theorem dX6_digest_50 : decode cX6_digest 50 = .ok (.iconst 0, 1) := by decide +kernel
theorem dX6_digest_51 : decode cX6_digest 51 = .ok (.iaload, 1) := by decide +kernel
theorem dX6_digest_52 : decode cX6_digest 52 = .ok (.if_icmp .ge 33, 3) := by decide +kernel
theorem dX6_digest_55 : decode cX6_digest 55 = .ok (.iconst 0, 1) := by decide +kernel
theorem dX6_digest_56 : decode cX6_digest 56 = .ok (.istore_n 2, 1) := by decide +kernel
theorem dX6_digest_57 : decode cX6_digest 57 = .ok (.iload_n 2, 1) := by decide +kernel
theorem dX6_digest_58 : decode cX6_digest 58 = .ok (.bipush 9, 2) := by decide +kernel
theorem dX6_digest_60 : decode cX6_digest 60 = .ok (.if_icmp .ge 19, 3) := by decide +kernel
theorem dX6_digest_63 : decode cX6_digest 63 = .ok (.aload_n 0, 1) := by decide +kernel
theorem dX6_digest_64 : decode cX6_digest 64 = .ok (.aload_n 0, 1) := by decide +kernel
theorem dX6_digest_65 : decode cX6_digest 65 = .ok (.iload_n 1, 1) := by decide +kernel
theorem dX6_digest_66 : decode cX6_digest 66 = .ok (.iload_n 2, 1) := by decide +kernel
theorem dX6_digest_67 : decode cX6_digest 67 = .ok (.invokevirtual 115, 3) := by decide +kernel
theorem dX6_digest_70 : decode cX6_digest 70 = .ok (.invokevirtual 223, 3) := by decide +kernel
theorem dX6_digest_73 : decode cX6_digest 73 = .ok (.iinc 2 1, 3) := by decide +kernel
theorem dX6_digest_76 : decode cX6_digest 76 = .ok (.goto (-19), 3) := by decide +kernel
theorem dX6_digest_79 : decode cX6_digest 79 = .ok (.iinc 1 1, 3) := by decide +kernel
theorem dX6_digest_82 : decode cX6_digest 82 = .ok (.goto (-37), 3) := by decide +kernel
theorem dX6_digest_85 : decode cX6_digest 85 = .ok (.iconst 0, 1) := by decide +kernel
theorem dX6_digest_86 : decode cX6_digest 86 = .ok (.istore_n 1, 1) := by decide +kernel
theorem dX6_digest_87 : decode cX6_digest 87 = .ok (.iload_n 1, 1) := by decide +kernel
theorem dX6_digest_88 : decode cX6_digest 88 = .ok (.aload_n 0, 1) := by decide +kernel
theorem dX6_digest_89 : decode cX6_digest 89 = .ok (.getfield 7, 3) := by decide +kernel
theorem dX6_digest_92 : decode cX6_digest 92 = .ok (.iconst 1, 1) := by decide +kernel
theorem dX6_digest_93 : decode cX6_digest 93 = .ok (.iaload, 1) := by decide +kernel
theorem dX6_digest_94 : decode cX6_digest 94 = .ok (.if_icmp .ge 33, 3) := by decide +kernel
theorem dX6_digest_97 : decode cX6_digest 97 = .ok (.iconst 0, 1) := by decide +kernel
theorem dX6_digest_98 : decode cX6_digest 98 = .ok (.istore_n 2, 1) := by decide +kernel
theorem dX6_digest_99 : decode cX6_digest 99 = .ok (.iload_n 2, 1) := by decide +kernel
theorem dX6_digest_100 : decode cX6_digest 100 = .ok (.bipush 7, 2) := by decide +kernel
theorem dX6_digest_102 : decode cX6_digest 102 = .ok (.if_icmp .ge 19, 3) := by decide +kernel
theorem dX6_digest_105 : decode cX6_digest 105 = .ok (.aload_n 0, 1) := by decide +kernel
theorem dX6_digest_106 : decode cX6_digest 106 = .ok (.aload_n 0, 1) := by decide +kernel
theorem dX6_digest_107 : decode cX6_digest 107 = .ok (.iload_n 1, 1) := by decide +kernel
theorem dX6_digest_108 : decode cX6_digest 108 = .ok (.iload_n 2, 1) := by decide +kernel
theorem dX6_digest_109 : decode cX6_digest 109 = .ok (.invokevirtual 37, 3) := by decide +kernel
theorem dX6_digest_112 : decode cX6_digest 112 = .ok (.invokevirtual 223, 3) := by decide +kernel
theorem dX6_digest_115 : decode cX6_digest 115 = .ok (.iinc 2 1, 3) := by decide +kernel
theorem dX6_digest_118 : decode cX6_digest 118 = .ok (.goto (-19), 3) := by decide +kernel
theorem dX6_digest_121 : decode cX6_digest 121 = .ok (.iinc 1 1, 3) := by decide +kernel
theorem dX6_digest_124 : decode cX6_digest 124 = .ok (.goto (-37), 3) := by decide +kernel
theorem dX6_digest_127 : decode cX6_digest 127 = .ok (.iconst 0, 1) := by decide +kernel
theorem dX6_digest_128 : decode cX6_digest 128 = .ok (.istore_n 1, 1) := by decide +kernel
theorem dX6_digest_129 : decode cX6_digest 129 = .ok (.iload_n 1, 1) := by decide +kernel
theorem dX6_digest_130 : decode cX6_digest 130 = .ok (.aload_n 0, 1) := by decide +kernel
theorem dX6_digest_131 : decode cX6_digest 131 = .ok (.getfield 7, 3) := by decide +kernel
theorem dX6_digest_134 : decode cX6_digest 134 = .ok (.bipush 6, 2) := by decide +kernel
theorem dX6_digest_136 : decode cX6_digest 136 = .ok (.iaload, 1) := by decide +kernel
theorem dX6_digest_137 : decode cX6_digest 137 = .ok (.if_icmp .ge 22, 3) := by decide +kernel
theorem dX6_digest_140 : decode cX6_digest 140 = .ok (.aload_n 0, 1) := by decide +kernel
theorem dX6_digest_141 : decode cX6_digest 141 = .ok (.aload_n 0, 1) := by decide +kernel
theorem dX6_digest_142 : decode cX6_digest 142 = .ok (.getfield 7, 3) := by decide +kernel
theorem dX6_digest_145 : decode cX6_digest 145 = .ok (.bipush 72, 2) := by decide +kernel
theorem dX6_digest_147 : decode cX6_digest 147 = .ok (.iload_n 1, 1) := by decide +kernel
theorem dX6_digest_148 : decode cX6_digest 148 = .ok (.iadd, 1) := by decide +kernel
theorem dX6_digest_149 : decode cX6_digest 149 = .ok (.iaload, 1) := by decide +kernel
theorem dX6_digest_150 : decode cX6_digest 150 = .ok (.invokevirtual 223, 3) := by decide +kernel
theorem dX6_digest_153 : decode cX6_digest 153 = .ok (.iinc 1 1, 3) := by decide +kernel
theorem dX6_digest_156 : decode cX6_digest 156 = .ok (.goto (-27), 3) := by decide +kernel
theorem dX6_digest_159 : decode cX6_digest 159 = .ok (.aload_n 0, 1) := by decide +kernel
theorem dX6_digest_160 : decode cX6_digest 160 = .ok (.getfield 7, 3) := by decide +kernel
theorem dX6_digest_163 : decode cX6_digest 163 = .ok (.bipush 8, 2) := by decide +kernel
theorem dX6_digest_165 : decode cX6_digest 165 = .ok (.iaload, 1) := by decide +kernel
theorem dX6_digest_166 : decode cX6_digest 166 = .ok (.iconst 1, 1) := by decide +kernel
theorem dX6_digest_167 : decode cX6_digest 167 = .ok (.isub, 1) := by decide +kernel
theorem dX6_digest_168 : decode cX6_digest 168 = .ok (.istore_n 1, 1) := by decide +kernel
theorem dX6_digest_169 : decode cX6_digest 169 = .ok (.iload_n 1, 1) := by decide +kernel
theorem dX6_digest_170 : decode cX6_digest 170 = .ok (.ifCond .lt 32, 3) := by decide +kernel
theorem dX6_digest_173 : decode cX6_digest 173 = .ok (.iconst 0, 1) := by decide +kernel
theorem dX6_digest_174 : decode cX6_digest 174 = .ok (.istore_n 2, 1) := by decide +kernel
theorem dX6_digest_175 : decode cX6_digest 175 = .ok (.iload_n 2, 1) := by decide +kernel
theorem dX6_digest_176 : decode cX6_digest 176 = .ok (.iconst 4, 1) := by decide +kernel
theorem dX6_digest_177 : decode cX6_digest 177 = .ok (.if_icmp .ge 19, 3) := by decide +kernel
theorem dX6_digest_180 : decode cX6_digest 180 = .ok (.aload_n 0, 1) := by decide +kernel
theorem dX6_digest_181 : decode cX6_digest 181 = .ok (.aload_n 0, 1) := by decide +kernel
theorem dX6_digest_182 : decode cX6_digest 182 = .ok (.iload_n 1, 1) := by decide +kernel
theorem dX6_digest_183 : decode cX6_digest 183 = .ok (.iload_n 2, 1) := by decide +kernel
theorem dX6_digest_184 : decode cX6_digest 184 = .ok (.invokevirtual 91, 3) := by decide +kernel
theorem dX6_digest_187 : decode cX6_digest 187 = .ok (.invokevirtual 223, 3) := by decide +kernel
theorem dX6_digest_190 : decode cX6_digest 190 = .ok (.iinc 2 1, 3) := by decide +kernel
theorem dX6_digest_193 : decode cX6_digest 193 = .ok (.goto (-18), 3) := by decide +kernel
theorem dX6_digest_196 : decode cX6_digest 196 = .ok (.iinc 1 (-1), 3) := by decide +kernel
theorem dX6_digest_199 : decode cX6_digest 199 = .ok (.goto (-30), 3) := by decide +kernel
theorem dX6_digest_202 : decode cX6_digest 202 = .ok (.aload_n 0, 1) := by decide +kernel
theorem dX6_digest_203 : decode cX6_digest 203 = .ok (.aload_n 0, 1) := by decide +kernel
theorem dX6_digest_204 : decode cX6_digest 204 = .ok (.getfield 26, 3) := by decide +kernel
theorem dX6_digest_207 : decode cX6_digest 207 = .ok (.invokevirtual 223, 3) := by decide +kernel
theorem dX6_digest_210 : decode cX6_digest 210 = .ok (.aload_n 0, 1) := by decide +kernel
theorem dX6_digest_211 : decode cX6_digest 211 = .ok (.getfield 217, 3) := by decide +kernel
theorem dX6_digest_214 : decode cX6_digest 214 = .ok (.lreturn, 1) := by decide +kernel
