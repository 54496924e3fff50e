set_option maxRecDepth 20000 in
theorem ggX5_init_X1_init : GoodIn wsX5_init wsX1_init := goodIn_r _ [19, 20, 2, 3, 21, 22, 23, 24, 25, 26, 27, 28, 29, 30, 31, 32, 33, 34, 35, 36, 37, 38, 39, 40, 41, 42, 43, 44, 45, 46, 47, 48, 49, 50, 51, 52, 53, 54, 55, 56, 91, 92, 93, 73, 74, 75, 76, 77, 78, 79, 80, 81, 82, 94, 95] (by decide +kernel) (by decide +kernel)
set_option maxRecDepth 20000 in
theorem gX5_init_X1_init : GoodIn wsX5_init (wsX1_init) := ggX5_init_X1_init
set_option maxRecDepth 20000 in
theorem ggX5_init_X2_init : GoodIn wsX5_init wsX2_init := goodIn_r _ [59, 60, 2, 3, 61, 62, 5, 6, 63, 64, 18, 19, 20, 21, 22, 23, 24, 25, 26, 27, 28, 29, 30, 31, 32, 33, 34, 35, 36, 37, 38, 39, 40, 41, 42, 43, 44, 45, 46, 47, 48, 49, 50, 51, 52, 53, 54, 55, 56, 87, 88, 73, 74, 75, 76, 77, 78, 79, 80, 81, 82, 91, 92, 93, 94, 95] (by decide +kernel) (by decide +kernel)
set_option maxRecDepth 20000 in
theorem gX5_init_X2_init : GoodIn wsX5_init (wsX2_init) := ggX5_init_X2_init
set_option maxRecDepth 20000 in
theorem ggX5_init_X3_init : GoodIn wsX5_init wsX3_init := goodIn_r _ [67, 68, 2, 3, 69, 22, 23, 70, 71, 72, 38, 39, 40, 41, 42, 43, 44, 45, 46, 47, 48, 91, 92, 93, 89, 90] (by decide +kernel) (by decide +kernel)
set_option maxRecDepth 20000 in
theorem gX5_init_X3_init : GoodIn wsX5_init (wsX3_init) := ggX5_init_X3_init
theorem dX5_init_0 : decode cX5_init 0 = .ok (.aload_n 0, 1) := by decide +kernel
theorem dX5_init_1 : decode cX5_init 1 = .ok (.invokespecial 1, 3) := by decide +kernel
theorem dX5_init_4 : decode cX5_init 4 = .ok (.aload_n 0, 1) := by decide +kernel
theorem dX5_init_5 : decode cX5_init 5 = .ok (.new 7, 3) := by decide +kernel
theorem dX5_init_8 : decode cX5_init 8 = .ok (.dup, 1) := by decide +kernel
theorem dX5_init_9 : decode cX5_init 9 = .ok (.invokespecial 9, 3) := by decide +kernel
theorem dX5_init_12 : decode cX5_init 12 = .ok (.putfield 10, 3) := by decide +kernel
theorem dX5_init_15 : decode cX5_init 15 = .ok (.aload_n 0, 1) := by decide +kernel
theorem dX5_init_16 : decode cX5_init 16 = .ok (.new 7, 3) := by decide +kernel
theorem dX5_init_19 : decode cX5_init 19 = .ok (.dup, 1) := by decide +kernel
theorem dX5_init_20 : decode cX5_init 20 = .ok (.invokespecial 9, 3) := by decide +kernel
theorem dX5_init_23 : decode cX5_init 23 = .ok (.putfield 16, 3) := by decide +kernel
theorem dX5_init_26 : decode cX5_init 26 = .ok (.aload_n 0, 1) := by decide +kernel
theorem dX5_init_27 : decode cX5_init 27 = .ok (.new 19, 3) := by decide +kernel
theorem dX5_init_30 : decode cX5_init 30 = .ok (.dup, 1) := by decide +kernel
theorem dX5_init_31 : decode cX5_init 31 = .ok (.invokespecial 21, 3) := by decide +kernel
theorem dX5_init_34 : decode cX5_init 34 = .ok (.putfield 22, 3) := by decide +kernel
theorem dX5_init_37 : decode cX5_init 37 = .ok (.aload_n 0, 1) := by decide +kernel
theorem dX5_init_38 : decode cX5_init 38 = .ok (.new 26, 3) := by decide +kernel
theorem dX5_init_41 : decode cX5_init 41 = .ok (.dup, 1) := by decide +kernel
theorem dX5_init_42 : decode cX5_init 42 = .ok (.invokespecial 28, 3) := by decide +kernel
theorem dX5_init_45 : decode cX5_init 45 = .ok (.putfield 29, 3) := by decide +kernel
theorem dX5_init_48 : decode cX5_init 48 = .ok (.return_, 1) := by decide +kernel
set_option maxRecDepth 20000 in
theorem ggX5_add_X5_within : GoodIn wsX5_add wsX5_within := goodIn_r _ [10] (by decide +kernel) (by decide +kernel)
set_option maxRecDepth 20000 in
theorem gX5_add_X5_within : GoodIn wsX5_add (va_wsS RX5 33 yX5_within wsX5_within) := goodIn_app (goodIn_of _ (by decide +kernel)) ggX5_add_X5_within
set_option maxRecDepth 20000 in
theorem ggX5_add_X1_fighterCount : GoodIn wsX5_add wsX1_fighterCount := goodIn_r _ [15, 16, 17, 18, 19, 20, 21, 22, 102, 103, 104, 105, 106, 107, 108, 109, 110, 111, 112, 113, 114] (by decide +kernel) (by decide +kernel)
set_option maxRecDepth 20000 in
theorem gX5_add_X1_fighterCount : GoodIn wsX5_add (wsV RX5 44 RX1 yX1_fighterCount wsX1_fighterCount) := goodIn_app (goodIn_of _ (by decide +kernel)) ggX5_add_X1_fighterCount
set_option maxRecDepth 20000 in
theorem ggX5_add_X2_save : GoodIn wsX5_add wsX2_save := goodIn_r _ [27, 28, 29, 30, 31, 32, 26, 33, 34, 35, 36, 37, 38, 39, 40, 14, 41, 16, 42, 43, 44, 45, 46, 47, 48, 49, 50, 51, 52, 53, 20, 54, 22, 55, 56, 57, 58, 59, 60, 61, 62, 63, 64, 65, 66, 67, 68, 69, 70, 71, 115, 116, 102, 103, 104, 105, 106, 107, 108, 109, 110, 111, 112, 113, 114, 117, 118] (by decide +kernel) (by decide +kernel)
set_option maxRecDepth 20000 in
theorem gX5_add_X2_save : GoodIn wsX5_add (wsV RX5 53 RX2 yX2_save wsX2_save) := goodIn_app (goodIn_of _ (by decide +kernel)) ggX5_add_X2_save
set_option maxRecDepth 20000 in
theorem ggX5_add_X1_join : GoodIn wsX5_add wsX1_join := goodIn_ca (goodIn_r _ [75, 16, 17, 18, 19, 20, 21, 22, 76, 77, 78, 79, 80, 55, 60, 61, 62, 63, 81, 82, 83, 84, 85, 86, 87, 88, 89, 90, 91, 92, 93, 94, 95, 96, 97, 102, 103, 104, 105, 106, 107, 108, 109, 110, 111, 112, 113, 114, 119, 120, 121, 122, 123, 124, 125, 126, 127, 128] (by decide +kernel) (by decide +kernel)) (goodIn_sub (fun _ h => List.mem_cons_of_mem _ (List.mem_append_right _ h)) (by decide +kernel))
set_option maxRecDepth 20000 in
theorem gX5_add_X1_join : GoodIn wsX5_add (wsV RX5 57 RX1 yX1_join wsX1_join) := goodIn_app (goodIn_of _ (by decide +kernel)) ggX5_add_X1_join
theorem dX5_add_0 : decode cX5_add 0 = .ok (.iload_n 1, 1) := by decide +kernel
theorem dX5_add_1 : decode cX5_add 1 = .ok (.iconst 1, 1) := by decide +kernel
theorem dX5_add_2 : decode cX5_add 2 = .ok (.bipush 30, 2) := by decide +kernel
theorem dX5_add_4 : decode cX5_add 4 = .ok (.invokestatic 33, 3) := by decide +kernel
theorem dX5_add_7 : decode cX5_add 7 = .ok (.ifCond .eq 14, 3) := by decide +kernel
theorem dX5_add_10 : decode cX5_add 10 = .ok (.iload_n 2, 1) := by decide +kernel
theorem dX5_add_11 : decode cX5_add 11 = .ok (.iconst 1, 1) := by decide +kernel
theorem dX5_add_12 : decode cX5_add 12 = .ok (.sipush 200, 3) := by decide +kernel
theorem dX5_add_15 : decode cX5_add 15 = .ok (.invokestatic 33, 3) := by decide +kernel
theorem dX5_add_18 : decode cX5_add 18 = .ok (.ifCond .ne 13, 3) := by decide +kernel
theorem dX5_add_21 : decode cX5_add 21 = .ok (.new 37, 3) := by decide +kernel
theorem dX5_add_24 : decode cX5_add 24 = .ok (.dup, 1) := by decide +kernel
theorem dX5_add_25 : decode cX5_add 25 = .ok (.ldc 39, 2) := by decide +kernel
theorem dX5_add_27 : decode cX5_add 27 = .ok (.invokespecial 41, 3) := by decide +kernel
theorem dX5_add_30 : decode cX5_add 30 = .ok (.athrow, 1) := by decide +kernel
theorem dX5_add_31 : decode cX5_add 31 = .ok (.aload_n 0, 1) := by decide +kernel
theorem dX5_add_32 : decode cX5_add 32 = .ok (.getfield 10, 3) := by decide +kernel
theorem dX5_add_35 : decode cX5_add 35 = .ok (.invokevirtual 44, 3) := by decide +kernel
theorem dX5_add_38 : decode cX5_add 38 = .ok (.bipush 10, 2) := by decide +kernel
theorem dX5_add_40 : decode cX5_add 40 = .ok (.if_icmp .lt 13, 3) := by decide +kernel
theorem dX5_add_43 : decode cX5_add 43 = .ok (.new 48, 3) := by decide +kernel
theorem dX5_add_46 : decode cX5_add 46 = .ok (.dup, 1) := by decide +kernel
theorem dX5_add_47 : decode cX5_add 47 = .ok (.ldc 50, 2) := by decide +kernel
theorem dX5_add_49 : decode cX5_add 49 = .ok (.invokespecial 52, 3) := by decide +kernel
theorem dX5_add_52 : decode cX5_add 52 = .ok (.athrow, 1) := by decide +kernel
theorem dX5_add_53 : decode cX5_add 53 = .ok (.aload_n 0, 1) := by decide +kernel
theorem dX5_add_54 : decode cX5_add 54 = .ok (.getfield 22, 3) := by decide +kernel
theorem dX5_add_57 : decode cX5_add 57 = .ok (.aload_n 0, 1) := by decide +kernel
theorem dX5_add_58 : decode cX5_add 58 = .ok (.getfield 10, 3) := by decide +kernel
theorem dX5_add_61 : decode cX5_add 61 = .ok (.invokevirtual 53, 3) := by decide +kernel
theorem dX5_add_64 : decode cX5_add 64 = .ok (.aload_n 0, 1) := by decide +kernel
theorem dX5_add_65 : decode cX5_add 65 = .ok (.getfield 10, 3) := by decide +kernel
theorem dX5_add_68 : decode cX5_add 68 = .ok (.iload_n 1, 1) := by decide +kernel
theorem dX5_add_69 : decode cX5_add 69 = .ok (.iload_n 2, 1) := by decide +kernel
theorem dX5_add_70 : decode cX5_add 70 = .ok (.invokevirtual 57, 3) := by decide +kernel
theorem dX5_add_73 : decode cX5_add 73 = .ok (.ireturn, 1) := by decide +kernel
set_option maxRecDepth 20000 in
theorem ggX5_setSpeed_X5_requireFighter : GoodIn wsX5_setSpeed wsX5_requireFighter := goodIn_ca (goodIn_r _ [7, 8, 9, 2, 10, 11, 12, 13, 14, 15, 16, 17, 18, 19, 20, 21, 92, 93, 94, 95, 96, 97, 98, 99, 100, 101, 102, 103, 104, 105, 106, 107, 108] (by decide +kernel) (by decide +kernel)) (goodIn_sub (fun _ h => List.mem_cons_of_mem _ (List.mem_append_left _ (List.mem_append_left _ (List.mem_append_right _ h)))) (by decide +kernel))
set_option maxRecDepth 20000 in
theorem gX5_setSpeed_X5_requireFighter : GoodIn wsX5_setSpeed (wsV RX5 61 RX5 yX5_requireFighter wsX5_requireFighter) := goodIn_app (goodIn_of _ (by decide +kernel)) ggX5_setSpeed_X5_requireFighter
set_option maxRecDepth 20000 in
theorem ggX5_setSpeed_X5_requireWithin : GoodIn wsX5_setSpeed wsX5_requireWithin := goodIn_ca (goodIn_r _ [24, 25, 26, 27, 28, 6, 29] (by decide +kernel) (by decide +kernel)) (goodIn_sub (fun _ h => List.mem_cons_of_mem _ (List.mem_append_left _ (List.mem_append_right _ h))) (by decide +kernel))
set_option maxRecDepth 20000 in
theorem gX5_setSpeed_X5_requireWithin : GoodIn wsX5_setSpeed (va_wsS RX5 65 yX5_requireWithin wsX5_requireWithin) := goodIn_app (goodIn_of _ (by decide +kernel)) ggX5_setSpeed_X5_requireWithin
set_option maxRecDepth 20000 in
theorem ggX5_setSpeed_X2_save : GoodIn wsX5_setSpeed wsX2_save := goodIn_r _ [34, 35, 36, 37, 38, 39, 33, 40, 41, 42, 43, 44, 45, 46, 47, 13, 48, 15, 49, 50, 51, 52, 53, 54, 55, 56, 57, 58, 59, 60, 19, 61, 21, 62, 63, 64, 65, 66, 67, 68, 69, 70, 71, 72, 73, 74, 75, 76, 77, 78, 109, 110, 96, 97, 98, 99, 100, 101, 102, 103, 104, 105, 106, 107, 108, 111, 112] (by decide +kernel) (by decide +kernel)
set_option maxRecDepth 20000 in
theorem gX5_setSpeed_X2_save : GoodIn wsX5_setSpeed (wsV RX5 53 RX2 yX2_save wsX2_save) := goodIn_app (goodIn_of _ (by decide +kernel)) ggX5_setSpeed_X2_save
set_option maxRecDepth 20000 in
theorem ggX5_setSpeed_X1_changeSpeed : GoodIn wsX5_setSpeed wsX1_changeSpeed := goodIn_ca (goodIn_r _ [82, 15, 83, 84, 85, 19, 86, 21, 87, 62, 88, 89, 90, 91, 96, 97, 98, 99, 100, 101, 102, 103, 104, 105, 106, 107, 108] (by decide +kernel) (by decide +kernel)) (goodIn_sub (fun _ h => List.mem_cons_of_mem _ (List.mem_append_right _ h)) (by decide +kernel))
set_option maxRecDepth 20000 in
theorem gX5_setSpeed_X1_changeSpeed : GoodIn wsX5_setSpeed (wsV RX5 69 RX1 yX1_changeSpeed wsX1_changeSpeed) := goodIn_app (goodIn_of _ (by decide +kernel)) ggX5_setSpeed_X1_changeSpeed
theorem dX5_setSpeed_0 : decode cX5_setSpeed 0 = .ok (.aload_n 0, 1) := by decide +kernel
theorem dX5_setSpeed_1 : decode cX5_setSpeed 1 = .ok (.iload_n 1, 1) := by decide +kernel
theorem dX5_setSpeed_2 : decode cX5_setSpeed 2 = .ok (.invokevirtual 61, 3) := by decide +kernel
theorem dX5_setSpeed_5 : decode cX5_setSpeed 5 = .ok (.iload_n 2, 1) := by decide +kernel
theorem dX5_setSpeed_6 : decode cX5_setSpeed 6 = .ok (.iconst 1, 1) := by decide +kernel
theorem dX5_setSpeed_7 : decode cX5_setSpeed 7 = .ok (.bipush 30, 2) := by decide +kernel
theorem dX5_setSpeed_9 : decode cX5_setSpeed 9 = .ok (.invokestatic 65, 3) := by decide +kernel
theorem dX5_setSpeed_12 : decode cX5_setSpeed 12 = .ok (.aload_n 0, 1) := by decide +kernel
theorem dX5_setSpeed_13 : decode cX5_setSpeed 13 = .ok (.getfield 22, 3) := by decide +kernel
theorem dX5_setSpeed_16 : decode cX5_setSpeed 16 = .ok (.aload_n 0, 1) := by decide +kernel
theorem dX5_setSpeed_17 : decode cX5_setSpeed 17 = .ok (.getfield 10, 3) := by decide +kernel
theorem dX5_setSpeed_20 : decode cX5_setSpeed 20 = .ok (.invokevirtual 53, 3) := by decide +kernel
theorem dX5_setSpeed_23 : decode cX5_setSpeed 23 = .ok (.aload_n 0, 1) := by decide +kernel
theorem dX5_setSpeed_24 : decode cX5_setSpeed 24 = .ok (.getfield 10, 3) := by decide +kernel
theorem dX5_setSpeed_27 : decode cX5_setSpeed 27 = .ok (.iload_n 1, 1) := by decide +kernel
theorem dX5_setSpeed_28 : decode cX5_setSpeed 28 = .ok (.iload_n 2, 1) := by decide +kernel
theorem dX5_setSpeed_29 : decode cX5_setSpeed 29 = .ok (.invokevirtual 69, 3) := by decide +kernel
theorem dX5_setSpeed_32 : decode cX5_setSpeed 32 = .ok (.ireturn, 1) := by decide +kernel
set_option maxRecDepth 20000 in
theorem ggX5_setShock_X5_requireWithin : GoodIn wsX5_setShock wsX5_requireWithin := goodIn_ca (goodIn_r _ [6, 7, 8, 9, 10, 5, 11] (by decide +kernel) (by decide +kernel)) (goodIn_sub (fun _ h => List.mem_cons_of_mem _ (List.mem_append_right _ h)) (by decide +kernel))
set_option maxRecDepth 20000 in
theorem gX5_setShock_X5_requireWithin : GoodIn wsX5_setShock (va_wsS RX5 65 yX5_requireWithin wsX5_requireWithin) := goodIn_app (goodIn_of _ (by decide +kernel)) ggX5_setShock_X5_requireWithin
set_option maxRecDepth 20000 in
theorem ggX5_setShock_X2_save : GoodIn wsX5_setShock wsX2_save := goodIn_r _ [16, 17, 18, 19, 20, 21, 15, 22, 23, 24, 25, 26, 27, 28, 29, 30, 31, 32, 33, 34, 35, 36, 37, 38, 39, 40, 41, 42, 43, 44, 45, 46, 47, 48, 49, 50, 51, 52, 53, 54, 55, 56, 57, 58, 59, 60, 61, 62, 63, 64, 73, 74, 75, 76, 77, 78, 79, 80, 81, 82, 83, 84, 85, 86, 87, 88, 89] (by decide +kernel) (by decide +kernel)
set_option maxRecDepth 20000 in
theorem gX5_setShock_X2_save : GoodIn wsX5_setShock (wsV RX5 53 RX2 yX2_save wsX2_save) := goodIn_app (goodIn_of _ (by decide +kernel)) ggX5_setShock_X2_save
set_option maxRecDepth 20000 in
theorem ggX5_setShock_X1_changeShock : GoodIn wsX5_setShock wsX1_changeShock := goodIn_r _ [68, 40, 75, 76, 77, 78, 79, 80, 81, 82, 83, 84] (by decide +kernel) (by decide +kernel)
set_option maxRecDepth 20000 in
theorem gX5_setShock_X1_changeShock : GoodIn wsX5_setShock (wsV RX5 72 RX1 yX1_changeShock wsX1_changeShock) := goodIn_app (goodIn_of _ (by decide +kernel)) ggX5_setShock_X1_changeShock
theorem dX5_setShock_0 : decode cX5_setShock 0 = .ok (.iload_n 1, 1) := by decide +kernel
theorem dX5_setShock_1 : decode cX5_setShock 1 = .ok (.iconst 1, 1) := by decide +kernel
theorem dX5_setShock_2 : decode cX5_setShock 2 = .ok (.sipush 200, 3) := by decide +kernel
theorem dX5_setShock_5 : decode cX5_setShock 5 = .ok (.invokestatic 65, 3) := by decide +kernel
theorem dX5_setShock_8 : decode cX5_setShock 8 = .ok (.aload_n 0, 1) := by decide +kernel
theorem dX5_setShock_9 : decode cX5_setShock 9 = .ok (.getfield 22, 3) := by decide +kernel
theorem dX5_setShock_12 : decode cX5_setShock 12 = .ok (.aload_n 0, 1) := by decide +kernel
theorem dX5_setShock_13 : decode cX5_setShock 13 = .ok (.getfield 10, 3) := by decide +kernel
theorem dX5_setShock_16 : decode cX5_setShock 16 = .ok (.invokevirtual 53, 3) := by decide +kernel
theorem dX5_setShock_19 : decode cX5_setShock 19 = .ok (.aload_n 0, 1) := by decide +kernel
theorem dX5_setShock_20 : decode cX5_setShock 20 = .ok (.getfield 10, 3) := by decide +kernel
theorem dX5_setShock_23 : decode cX5_setShock 23 = .ok (.iload_n 1, 1) := by decide +kernel
theorem dX5_setShock_24 : decode cX5_setShock 24 = .ok (.invokevirtual 72, 3) := by decide +kernel
theorem dX5_setShock_27 : decode cX5_setShock 27 = .ok (.ireturn, 1) := by decide +kernel
set_option maxRecDepth 20000 in
theorem ggX5_fighter_X5_requireFighter : GoodIn wsX5_fighter wsX5_requireFighter := goodIn_ca (goodIn_r _ [6, 7, 8, 1, 9, 10, 11, 12, 13, 14, 15, 16, 17, 18, 19, 20, 73, 74, 75, 76, 77, 78, 79, 80, 81, 82, 83, 84, 85, 86, 87, 88, 89] (by decide +kernel) (by decide +kernel)) (goodIn_sub (fun _ h => List.mem_cons_of_mem _ (List.mem_append_left _ (List.mem_append_left _ (List.mem_append_right _ h)))) (by decide +kernel))
set_option maxRecDepth 20000 in
theorem gX5_fighter_X5_requireFighter : GoodIn wsX5_fighter (wsV RX5 61 RX5 yX5_requireFighter wsX5_requireFighter) := goodIn_app (goodIn_of _ (by decide +kernel)) ggX5_fighter_X5_requireFighter
set_option maxRecDepth 20000 in
theorem ggX5_fighter_X5_requireWithin : GoodIn wsX5_fighter wsX5_requireWithin := goodIn_ca (goodIn_r _ [23, 24, 25, 26, 27, 5, 28] (by decide +kernel) (by decide +kernel)) (goodIn_sub (fun _ h => List.mem_cons_of_mem _ (List.mem_append_left _ (List.mem_append_right _ h))) (by decide +kernel))
set_option maxRecDepth 20000 in
theorem gX5_fighter_X5_requireWithin : GoodIn wsX5_fighter (va_wsS RX5 65 yX5_requireWithin wsX5_requireWithin) := goodIn_app (goodIn_of _ (by decide +kernel)) ggX5_fighter_X5_requireWithin
set_option maxRecDepth 20000 in
theorem ggX5_fighter_X1_aboutFighter : GoodIn wsX5_fighter wsX1_aboutFighter := goodIn_ca (goodIn_r _ [32, 14, 33, 34, 35, 36, 18, 37, 20, 38, 39, 40, 41, 42, 12, 43, 44, 45, 46, 47, 48, 49, 50, 51, 52, 53, 54, 16, 17, 19, 55, 56, 57, 58, 59, 60, 61, 62, 63, 64, 15, 65, 66, 67, 68, 69, 70, 71, 72, 77, 78, 79, 80, 81, 82, 83, 84, 85, 86, 87, 88, 89, 90, 91] (by decide +kernel) (by decide +kernel)) (goodIn_sub (fun _ h => List.mem_cons_of_mem _ (List.mem_append_right _ h)) (by decide +kernel))
set_option maxRecDepth 20000 in
theorem gX5_fighter_X1_aboutFighter : GoodIn wsX5_fighter (wsV RX5 76 RX1 yX1_aboutFighter wsX1_aboutFighter) := goodIn_app (goodIn_of _ (by decide +kernel)) ggX5_fighter_X1_aboutFighter
theorem dX5_fighter_0 : decode cX5_fighter 0 = .ok (.aload_n 0, 1) := by decide +kernel
theorem dX5_fighter_1 : decode cX5_fighter 1 = .ok (.iload_n 1, 1) := by decide +kernel
theorem dX5_fighter_2 : decode cX5_fighter 2 = .ok (.invokevirtual 61, 3) := by decide +kernel
theorem dX5_fighter_5 : decode cX5_fighter 5 = .ok (.iload_n 2, 1) := by decide +kernel
theorem dX5_fighter_6 : decode cX5_fighter 6 = .ok (.iconst 0, 1) := by decide +kernel
theorem dX5_fighter_7 : decode cX5_fighter 7 = .ok (.bipush 8, 2) := by decide +kernel
theorem dX5_fighter_9 : decode cX5_fighter 9 = .ok (.invokestatic 65, 3) := by decide +kernel
theorem dX5_fighter_12 : decode cX5_fighter 12 = .ok (.aload_n 0, 1) := by decide +kernel
theorem dX5_fighter_13 : decode cX5_fighter 13 = .ok (.getfield 10, 3) := by decide +kernel
theorem dX5_fighter_16 : decode cX5_fighter 16 = .ok (.iload_n 1, 1) := by decide +kernel
theorem dX5_fighter_17 : decode cX5_fighter 17 = .ok (.iload_n 2, 1) := by decide +kernel
theorem dX5_fighter_18 : decode cX5_fighter 18 = .ok (.invokevirtual 76, 3) := by decide +kernel
theorem dX5_fighter_21 : decode cX5_fighter 21 = .ok (.ireturn, 1) := by decide +kernel
set_option maxRecDepth 20000 in
theorem ggX5_effect_X5_requireEffect : GoodIn wsX5_effect wsX5_requireEffect := goodIn_ca (goodIn_r _ [6, 7, 8, 1, 9, 10, 11, 12, 13, 14, 15, 16, 17, 18, 19, 20, 21, 22, 23, 24, 25, 26, 27, 28, 5, 29, 49, 50, 51, 52, 53, 54, 55, 56, 57, 58, 59, 60, 61, 62, 63, 64, 65, 66, 67] (by decide +kernel) (by decide +kernel)) (goodIn_sub (fun _ h => List.mem_cons_of_mem _ (List.mem_append_left _ (List.mem_append_left _ (List.mem_append_right _ h)))) (by decide +kernel))
set_option maxRecDepth 20000 in
theorem gX5_effect_X5_requireEffect : GoodIn wsX5_effect (wsV RX5 79 RX5 yX5_requireEffect wsX5_requireEffect) := goodIn_app (goodIn_of _ (by decide +kernel)) ggX5_effect_X5_requireEffect
set_option maxRecDepth 20000 in
theorem ggX5_effect_X5_requireWithin : GoodIn wsX5_effect wsX5_requireWithin := goodIn_ca (goodIn_r _ [32, 33, 34, 27, 28, 5, 29] (by decide +kernel) (by decide +kernel)) (goodIn_sub (fun _ h => List.mem_cons_of_mem _ (List.mem_append_left _ (List.mem_append_right _ h))) (by decide +kernel))
set_option maxRecDepth 20000 in
theorem gX5_effect_X5_requireWithin : GoodIn wsX5_effect (va_wsS RX5 65 yX5_requireWithin wsX5_requireWithin) := goodIn_app (goodIn_of _ (by decide +kernel)) ggX5_effect_X5_requireWithin
set_option maxRecDepth 20000 in
theorem ggX5_effect_X1_aboutEffect : GoodIn wsX5_effect wsX1_aboutEffect := goodIn_ca (goodIn_r _ [38, 14, 39, 40, 41, 18, 42, 20, 43, 44, 45, 24, 46, 26, 47, 48, 53, 54, 55, 56, 57, 58, 59, 60, 61, 62, 63, 64, 65, 66, 67] (by decide +kernel) (by decide +kernel)) (goodIn_sub (fun _ h => List.mem_cons_of_mem _ (List.mem_append_right _ h)) (by decide +kernel))
set_option maxRecDepth 20000 in
theorem gX5_effect_X1_aboutEffect : GoodIn wsX5_effect (wsV RX5 82 RX1 yX1_aboutEffect wsX1_aboutEffect) := goodIn_app (goodIn_of _ (by decide +kernel)) ggX5_effect_X1_aboutEffect
theorem dX5_effect_0 : decode cX5_effect 0 = .ok (.aload_n 0, 1) := by decide +kernel
theorem dX5_effect_1 : decode cX5_effect 1 = .ok (.iload_n 1, 1) := by decide +kernel
theorem dX5_effect_2 : decode cX5_effect 2 = .ok (.invokevirtual 79, 3) := by decide +kernel
theorem dX5_effect_5 : decode cX5_effect 5 = .ok (.iload_n 2, 1) := by decide +kernel
theorem dX5_effect_6 : decode cX5_effect 6 = .ok (.iconst 0, 1) := by decide +kernel
theorem dX5_effect_7 : decode cX5_effect 7 = .ok (.bipush 6, 2) := by decide +kernel
theorem dX5_effect_9 : decode cX5_effect 9 = .ok (.invokestatic 65, 3) := by decide +kernel
theorem dX5_effect_12 : decode cX5_effect 12 = .ok (.aload_n 0, 1) := by decide +kernel
theorem dX5_effect_13 : decode cX5_effect 13 = .ok (.getfield 10, 3) := by decide +kernel
theorem dX5_effect_16 : decode cX5_effect 16 = .ok (.iload_n 1, 1) := by decide +kernel
theorem dX5_effect_17 : decode cX5_effect 17 = .ok (.iload_n 2, 1) := by decide +kernel
theorem dX5_effect_18 : decode cX5_effect 18 = .ok (.invokevirtual 82, 3) := by decide +kernel
theorem dX5_effect_21 : decode cX5_effect 21 = .ok (.ireturn, 1) := by decide +kernel
set_option maxRecDepth 20000 in
theorem ggX5_value_X5_requireWithin : GoodIn wsX5_value wsX5_requireWithin := goodIn_ca (goodIn_r _ [5, 6, 7, 8, 9, 4, 10] (by decide +kernel) (by decide +kernel)) (goodIn_sub (fun _ h => List.mem_cons_of_mem _ (List.mem_append_left _ (List.mem_append_right _ h))) (by decide +kernel))
set_option maxRecDepth 20000 in
theorem gX5_value_X5_requireWithin : GoodIn wsX5_value (va_wsS RX5 65 yX5_requireWithin wsX5_requireWithin) := goodIn_app (goodIn_of _ (by decide +kernel)) ggX5_value_X5_requireWithin
set_option maxRecDepth 20000 in
theorem ggX5_value_X1_number : GoodIn wsX5_value wsX1_number := goodIn_ca (goodIn_r _ [15, 16, 17, 18, 19, 20, 21, 22, 23, 24, 25, 26, 27, 28, 29, 30, 31, 14, 32, 33, 34, 35, 36, 37, 38, 39, 40, 41, 42, 43, 44, 45, 46, 47, 48, 49, 50, 51, 52, 53, 54, 59, 60, 61, 62, 63, 64, 65, 66, 67, 68, 69, 70, 71, 72, 73] (by decide +kernel) (by decide +kernel)) (goodIn_sub (fun _ h => List.mem_cons_of_mem _ (List.mem_append_right _ h)) (by decide +kernel))
set_option maxRecDepth 20000 in
theorem gX5_value_X1_number : GoodIn wsX5_value (wsV RX5 85 RX1 yX1_number wsX1_number) := goodIn_app (goodIn_of _ (by decide +kernel)) ggX5_value_X1_number
theorem dX5_value_0 : decode cX5_value 0 = .ok (.iload_n 1, 1) := by decide +kernel
theorem dX5_value_1 : decode cX5_value 1 = .ok (.iconst 0, 1) := by decide +kernel
theorem dX5_value_2 : decode cX5_value 2 = .ok (.bipush 8, 2) := by decide +kernel
theorem dX5_value_4 : decode cX5_value 4 = .ok (.invokestatic 65, 3) := by decide +kernel
theorem dX5_value_7 : decode cX5_value 7 = .ok (.aload_n 0, 1) := by decide +kernel
theorem dX5_value_8 : decode cX5_value 8 = .ok (.getfield 10, 3) := by decide +kernel
theorem dX5_value_11 : decode cX5_value 11 = .ok (.iload_n 1, 1) := by decide +kernel
theorem dX5_value_12 : decode cX5_value 12 = .ok (.invokevirtual 85, 3) := by decide +kernel
theorem dX5_value_15 : decode cX5_value 15 = .ok (.ireturn, 1) := by decide +kernel
set_option maxRecDepth 20000 in
theorem ggX5_inList_X1_listLength : GoodIn wsX5_inList wsX1_listLength := goodIn_r _ [8, 9, 10, 11, 12, 13, 14, 15, 34, 35, 36, 37, 38, 39, 40, 41, 42, 43, 44, 45, 46] (by decide +kernel) (by decide +kernel)
set_option maxRecDepth 20000 in
theorem gX5_inList_X1_listLength : GoodIn wsX5_inList (wsV RX5 88 RX1 yX1_listLength wsX1_listLength) := goodIn_app (goodIn_of _ (by decide +kernel)) ggX5_inList_X1_listLength
set_option maxRecDepth 20000 in
theorem ggX5_inList_X5_within : GoodIn wsX5_inList wsX5_within := goodIn_r _ [19] (by decide +kernel) (by decide +kernel)
set_option maxRecDepth 20000 in
theorem gX5_inList_X5_within : GoodIn wsX5_inList (va_wsS RX5 33 yX5_within wsX5_within) := goodIn_app (goodIn_of _ (by decide +kernel)) ggX5_inList_X5_within
set_option maxRecDepth 20000 in
theorem ggX5_inList_X1_listed : GoodIn wsX5_inList wsX1_listed := goodIn_ca (goodIn_r _ [23, 9, 24, 25, 26, 13, 27, 15, 28, 29, 34, 35, 36, 37, 38, 39, 40, 41, 42, 43, 44, 45, 46] (by decide +kernel) (by decide +kernel)) (goodIn_sub (fun _ h => List.mem_cons_of_mem _ (List.mem_append_right _ h)) (by decide +kernel))
set_option maxRecDepth 20000 in
theorem gX5_inList_X1_listed : GoodIn wsX5_inList (wsV RX5 96 RX1 yX1_listed wsX1_listed) := goodIn_app (goodIn_of _ (by decide +kernel)) ggX5_inList_X1_listed
theorem dX5_inList_0 : decode cX5_inList 0 = .ok (.iload_n 1, 1) := by decide +kernel
theorem dX5_inList_1 : decode cX5_inList 1 = .ok (.iconst 0, 1) := by decide +kernel
theorem dX5_inList_2 : decode cX5_inList 2 = .ok (.aload_n 0, 1) := by decide +kernel
theorem dX5_inList_3 : decode cX5_inList 3 = .ok (.getfield 10, 3) := by decide +kernel
theorem dX5_inList_6 : decode cX5_inList 6 = .ok (.invokevirtual 88, 3) := by decide +kernel
theorem dX5_inList_9 : decode cX5_inList 9 = .ok (.iconst 1, 1) := by decide +kernel
theorem dX5_inList_10 : decode cX5_inList 10 = .ok (.isub, 1) := by decide +kernel
theorem dX5_inList_11 : decode cX5_inList 11 = .ok (.invokestatic 33, 3) := by decide +kernel
theorem dX5_inList_14 : decode cX5_inList 14 = .ok (.ifCond .ne 13, 3) := by decide +kernel
theorem dX5_inList_17 : decode cX5_inList 17 = .ok (.new 91, 3) := by decide +kernel
theorem dX5_inList_20 : decode cX5_inList 20 = .ok (.dup, 1) := by decide +kernel
theorem dX5_inList_21 : decode cX5_inList 21 = .ok (.ldc 93, 2) := by decide +kernel
theorem dX5_inList_23 : decode cX5_inList 23 = .ok (.invokespecial 95, 3) := by decide +kernel
theorem dX5_inList_26 : decode cX5_inList 26 = .ok (.athrow, 1) := by decide +kernel
theorem dX5_inList_27 : decode cX5_inList 27 = .ok (.aload_n 0, 1) := by decide +kernel
theorem dX5_inList_28 : decode cX5_inList 28 = .ok (.getfield 10, 3) := by decide +kernel
theorem dX5_inList_31 : decode cX5_inList 31 = .ok (.iload_n 1, 1) := by decide +kernel
theorem dX5_inList_32 : decode cX5_inList 32 = .ok (.invokevirtual 96, 3) := by decide +kernel
theorem dX5_inList_35 : decode cX5_inList 35 = .ok (.ireturn, 1) := by decide +kernel
set_option maxRecDepth 20000 in
theorem ggX5_next_X1_mayBeginTurn : GoodIn wsX5_next wsX1_mayBeginTurn := goodIn_r _ [7, 8, 191, 192, 193, 194, 195, 196, 197, 198, 199, 200] (by decide +kernel) (by decide +kernel)
set_option maxRecDepth 20000 in
theorem gX5_next_X1_mayBeginTurn : GoodIn wsX5_next (wsV RX5 99 RX1 yX1_mayBeginTurn wsX1_mayBeginTurn) := goodIn_app (goodIn_of _ (by decide +kernel)) ggX5_next_X1_mayBeginTurn
set_option maxRecDepth 20000 in
theorem ggX5_next_X5_requirePossible : GoodIn wsX5_next wsX5_requirePossible := goodIn_ca (goodIn_r _ [12, 13, 14] (by decide +kernel) (by decide +kernel)) (goodIn_sub (fun _ h => List.mem_cons_of_mem _ (List.mem_append_left _ (List.mem_append_right _ h))) (by decide +kernel))
set_option maxRecDepth 20000 in
theorem gX5_next_X5_requirePossible : GoodIn wsX5_next (va_wsS RX5 103 yX5_requirePossible wsX5_requirePossible) := goodIn_app (goodIn_of _ (by decide +kernel)) ggX5_next_X5_requirePossible
set_option maxRecDepth 20000 in
theorem ggX5_next_X2_save : GoodIn wsX5_next wsX2_save := goodIn_r _ [19, 20, 21, 22, 23, 24, 18, 25, 26, 27, 28, 29, 30, 31, 32, 6, 33, 34, 35, 36, 37, 38, 8, 39, 40, 41, 42, 43, 44, 45, 46, 47, 48, 49, 50, 51, 52, 53, 54, 55, 56, 57, 58, 59, 60, 61, 62, 63, 64, 65, 201, 202, 191, 192, 193, 194, 195, 196, 197, 198, 199, 200, 203, 204, 205, 206, 207] (by decide +kernel) (by decide +kernel)
set_option maxRecDepth 20000 in
theorem gX5_next_X2_save : GoodIn wsX5_next (wsV RX5 53 RX2 yX2_save wsX2_save) := goodIn_app (goodIn_of _ (by decide +kernel)) ggX5_next_X2_save
set_option maxRecDepth 20000 in
theorem ggX5_next_X1_beginTurn : GoodIn wsX5_next wsX1_beginTurn := goodIn_ca (goodIn_r _ [69, 40, 42, 34, 8, 35, 70, 71, 72, 6, 73, 36, 74, 75, 76, 46, 77, 48, 78, 79, 80, 81, 82, 49, 83, 84, 85, 86, 87, 88, 89, 90, 38, 91, 92, 93, 94, 95, 96, 97, 98, 99, 100, 101, 102, 103, 104, 52, 105, 106, 107, 108, 61, 109, 63, 110, 111, 112, 113, 114, 115, 54, 55, 56, 57, 116, 117, 118, 119, 120, 121, 122, 123, 124, 125, 126, 127, 128, 129, 130, 131, 132, 133, 134, 135, 136, 39, 137, 138, 139, 140, 141, 142, 143, 144, 145, 146, 147, 148, 149, 150, 151, 152, 153, 154, 155, 156, 157, 158, 159, 160, 161, 51, 53, 41, 162, 163, 164, 165, 166, 167, 168, 169, 170, 171, 172, 173, 174, 175, 176, 177, 178, 179, 180, 181, 182, 183, 184, 185, 186, 191, 192, 193, 194, 195, 196, 197, 198, 199, 200, 203, 204, 205, 206, 207, 208, 209, 210, 211, 212, 213, 214, 215, 216, 217] (by decide +kernel) (by decide +kernel)) (goodIn_sub (fun _ h => List.mem_cons_of_mem _ (List.mem_append_right _ h)) (by decide +kernel))
set_option maxRecDepth 20000 in
theorem gX5_next_X1_beginTurn : GoodIn wsX5_next (wsV RX5 107 RX1 yX1_beginTurn wsX1_beginTurn) := goodIn_app (goodIn_of _ (by decide +kernel)) ggX5_next_X1_beginTurn
theorem dX5_next_0 : decode cX5_next 0 = .ok (.aload_n 0, 1) := by decide +kernel
theorem dX5_next_1 : decode cX5_next 1 = .ok (.getfield 10, 3) := by decide +kernel
theorem dX5_next_4 : decode cX5_next 4 = .ok (.invokevirtual 99, 3) := by decide +kernel
theorem dX5_next_7 : decode cX5_next 7 = .ok (.invokestatic 103, 3) := by decide +kernel
theorem dX5_next_10 : decode cX5_next 10 = .ok (.aload_n 0, 1) := by decide +kernel
theorem dX5_next_11 : decode cX5_next 11 = .ok (.getfield 22, 3) := by decide +kernel
theorem dX5_next_14 : decode cX5_next 14 = .ok (.aload_n 0, 1) := by decide +kernel
theorem dX5_next_15 : decode cX5_next 15 = .ok (.getfield 10, 3) := by decide +kernel
theorem dX5_next_18 : decode cX5_next 18 = .ok (.invokevirtual 53, 3) := by decide +kernel
theorem dX5_next_21 : decode cX5_next 21 = .ok (.aload_n 0, 1) := by decide +kernel
theorem dX5_next_22 : decode cX5_next 22 = .ok (.getfield 10, 3) := by decide +kernel
theorem dX5_next_25 : decode cX5_next 25 = .ok (.invokevirtual 107, 3) := by decide +kernel
theorem dX5_next_28 : decode cX5_next 28 = .ok (.ireturn, 1) := by decide +kernel
set_option maxRecDepth 20000 in
theorem ggX5_end_X1_mayEndTurn : GoodIn wsX5_end wsX1_mayEndTurn := goodIn_r _ [7, 8, 9, 10, 11, 12, 13, 14, 15, 96, 97, 98, 99, 100, 101, 102, 103, 104, 105, 106, 107, 108] (by decide +kernel) (by decide +kernel)
set_option maxRecDepth 20000 in
theorem gX5_end_X1_mayEndTurn : GoodIn wsX5_end (wsV RX5 110 RX1 yX1_mayEndTurn wsX1_mayEndTurn) := goodIn_app (goodIn_of _ (by decide +kernel)) ggX5_end_X1_mayEndTurn
set_option maxRecDepth 20000 in
theorem ggX5_end_X5_requirePossible : GoodIn wsX5_end wsX5_requirePossible := goodIn_ca (goodIn_r _ [19, 20, 21] (by decide +kernel) (by decide +kernel)) (goodIn_sub (fun _ h => List.mem_cons_of_mem _ (List.mem_append_left _ (List.mem_append_right _ h))) (by decide +kernel))
set_option maxRecDepth 20000 in
theorem gX5_end_X5_requirePossible : GoodIn wsX5_end (va_wsS RX5 103 yX5_requirePossible wsX5_requirePossible) := goodIn_app (goodIn_of _ (by decide +kernel)) ggX5_end_X5_requirePossible
set_option maxRecDepth 20000 in
theorem ggX5_end_X2_save : GoodIn wsX5_end wsX2_save := goodIn_r _ [26, 27, 28, 29, 30, 31, 25, 32, 33, 34, 35, 36, 37, 38, 39, 6, 40, 41, 42, 43, 9, 44, 8, 45, 46, 47, 48, 49, 50, 51, 13, 52, 15, 53, 54, 55, 56, 57, 58, 59, 60, 61, 62, 63, 64, 65, 66, 67, 68, 69, 109, 110, 96, 97, 98, 99, 100, 101, 102, 103, 104, 105, 106, 107, 108, 111, 112] (by decide +kernel) (by decide +kernel)
set_option maxRecDepth 20000 in
theorem gX5_end_X2_save : GoodIn wsX5_end (wsV RX5 53 RX2 yX2_save wsX2_save) := goodIn_app (goodIn_of _ (by decide +kernel)) ggX5_end_X2_save
set_option maxRecDepth 20000 in
theorem ggX5_end_X1_endTurn : GoodIn wsX5_end wsX1_endTurn := goodIn_ca (goodIn_r _ [73, 42, 8, 74, 75, 76, 65, 77, 67, 78, 11, 12, 13, 14, 15, 79, 80, 81, 82, 83, 53, 84, 85, 86, 87, 88, 89, 90, 91, 58, 59, 60, 61, 96, 97, 98, 99, 100, 101, 102, 103, 104, 105, 111, 112, 106, 107, 108] (by decide +kernel) (by decide +kernel)) (goodIn_sub (fun _ h => List.mem_cons_of_mem _ (List.mem_append_right _ h)) (by decide +kernel))
set_option maxRecDepth 20000 in
theorem gX5_end_X1_endTurn : GoodIn wsX5_end (wsV RX5 113 RX1 yX1_endTurn wsX1_endTurn) := goodIn_app (goodIn_of _ (by decide +kernel)) ggX5_end_X1_endTurn
theorem dX5_end_0 : decode cX5_end 0 = .ok (.aload_n 0, 1) := by decide +kernel
theorem dX5_end_1 : decode cX5_end 1 = .ok (.getfield 10, 3) := by decide +kernel
theorem dX5_end_4 : decode cX5_end 4 = .ok (.invokevirtual 110, 3) := by decide +kernel
theorem dX5_end_7 : decode cX5_end 7 = .ok (.invokestatic 103, 3) := by decide +kernel
theorem dX5_end_10 : decode cX5_end 10 = .ok (.aload_n 0, 1) := by decide +kernel
theorem dX5_end_11 : decode cX5_end 11 = .ok (.getfield 22, 3) := by decide +kernel
theorem dX5_end_14 : decode cX5_end 14 = .ok (.aload_n 0, 1) := by decide +kernel
theorem dX5_end_15 : decode cX5_end 15 = .ok (.getfield 10, 3) := by decide +kernel
theorem dX5_end_18 : decode cX5_end 18 = .ok (.invokevirtual 53, 3) := by decide +kernel
theorem dX5_end_21 : decode cX5_end 21 = .ok (.aload_n 0, 1) := by decide +kernel
theorem dX5_end_22 : decode cX5_end 22 = .ok (.getfield 10, 3) := by decide +kernel
theorem dX5_end_25 : decode cX5_end 25 = .ok (.invokevirtual 113, 3) := by decide +kernel
theorem dX5_end_28 : decode cX5_end 28 = .ok (.ireturn, 1) := by decide +kernel
set_option maxRecDepth 20000 in
theorem ggX5_delay_X1_mayDelayTurn : GoodIn wsX5_delay wsX1_mayDelayTurn := goodIn_r _ [7, 8, 9, 91, 92, 93, 94, 95, 96, 97, 98, 99, 100] (by decide +kernel) (by decide +kernel)
set_option maxRecDepth 20000 in
theorem gX5_delay_X1_mayDelayTurn : GoodIn wsX5_delay (wsV RX5 116 RX1 yX1_mayDelayTurn wsX1_mayDelayTurn) := goodIn_app (goodIn_of _ (by decide +kernel)) ggX5_delay_X1_mayDelayTurn
set_option maxRecDepth 20000 in
theorem ggX5_delay_X5_requirePossible : GoodIn wsX5_delay wsX5_requirePossible := goodIn_ca (goodIn_r _ [13, 14, 15] (by decide +kernel) (by decide +kernel)) (goodIn_sub (fun _ h => List.mem_cons_of_mem _ (List.mem_append_left _ (List.mem_append_right _ h))) (by decide +kernel))
set_option maxRecDepth 20000 in
theorem gX5_delay_X5_requirePossible : GoodIn wsX5_delay (va_wsS RX5 103 yX5_requirePossible wsX5_requirePossible) := goodIn_app (goodIn_of _ (by decide +kernel)) ggX5_delay_X5_requirePossible
set_option maxRecDepth 20000 in
theorem ggX5_delay_X2_save : GoodIn wsX5_delay wsX2_save := goodIn_r _ [20, 21, 22, 23, 24, 25, 19, 26, 27, 28, 29, 30, 31, 32, 33, 6, 34, 35, 36, 37, 38, 39, 8, 40, 9, 41, 42, 43, 44, 45, 46, 47, 48, 49, 50, 51, 52, 53, 54, 55, 56, 57, 58, 59, 60, 61, 62, 63, 64, 65, 101, 102, 91, 92, 93, 94, 95, 96, 97, 98, 99, 100, 103, 104, 105, 106, 107] (by decide +kernel) (by decide +kernel)
set_option maxRecDepth 20000 in
theorem gX5_delay_X2_save : GoodIn wsX5_delay (wsV RX5 53 RX2 yX2_save wsX2_save) := goodIn_app (goodIn_of _ (by decide +kernel)) ggX5_delay_X2_save
set_option maxRecDepth 20000 in
theorem ggX5_delay_X1_delayTurn : GoodIn wsX5_delay wsX1_delayTurn := goodIn_ca (goodIn_r _ [69, 8, 37, 70, 71, 72, 6, 73, 74, 75, 76, 46, 77, 48, 78, 79, 80, 81, 82, 49, 83, 84, 85, 86, 91, 92, 93, 94, 95, 96, 97, 98, 99, 100, 103, 104, 105] (by decide +kernel) (by decide +kernel)) (goodIn_sub (fun _ h => List.mem_cons_of_mem _ (List.mem_append_right _ h)) (by decide +kernel))
set_option maxRecDepth 20000 in
theorem gX5_delay_X1_delayTurn : GoodIn wsX5_delay (wsV RX5 119 RX1 yX1_delayTurn wsX1_delayTurn) := goodIn_app (goodIn_of _ (by decide +kernel)) ggX5_delay_X1_delayTurn
theorem dX5_delay_0 : decode cX5_delay 0 = .ok (.aload_n 0, 1) := by decide +kernel
theorem dX5_delay_1 : decode cX5_delay 1 = .ok (.getfield 10, 3) := by decide +kernel
theorem dX5_delay_4 : decode cX5_delay 4 = .ok (.invokevirtual 116, 3) := by decide +kernel
theorem dX5_delay_7 : decode cX5_delay 7 = .ok (.invokestatic 103, 3) := by decide +kernel
theorem dX5_delay_10 : decode cX5_delay 10 = .ok (.aload_n 0, 1) := by decide +kernel
theorem dX5_delay_11 : decode cX5_delay 11 = .ok (.getfield 22, 3) := by decide +kernel
theorem dX5_delay_14 : decode cX5_delay 14 = .ok (.aload_n 0, 1) := by decide +kernel
theorem dX5_delay_15 : decode cX5_delay 15 = .ok (.getfield 10, 3) := by decide +kernel
theorem dX5_delay_18 : decode cX5_delay 18 = .ok (.invokevirtual 53, 3) := by decide +kernel
theorem dX5_delay_21 : decode cX5_delay 21 = .ok (.aload_n 0, 1) := by decide +kernel
theorem dX5_delay_22 : decode cX5_delay 22 = .ok (.getfield 10, 3) := by decide +kernel
theorem dX5_delay_25 : decode cX5_delay 25 = .ok (.invokevirtual 119, 3) := by decide +kernel
theorem dX5_delay_28 : decode cX5_delay 28 = .ok (.ireturn, 1) := by decide +kernel
set_option maxRecDepth 20000 in
theorem ggX5_comeIn_X5_requireFighter : GoodIn wsX5_comeIn wsX5_requireFighter := goodIn_ca (goodIn_r _ [7, 8, 9, 1, 10, 11, 12, 13, 14, 15, 16, 17, 18, 19, 20, 21, 130, 131, 132, 133, 134, 135, 136, 137, 138, 139, 140, 141, 142, 143, 144, 145, 146] (by decide +kernel) (by decide +kernel)) (goodIn_sub (fun _ h => List.mem_cons_of_mem _ (List.mem_append_left _ (List.mem_append_left _ (List.mem_append_right _ h)))) (by decide +kernel))
set_option maxRecDepth 20000 in
theorem gX5_comeIn_X5_requireFighter : GoodIn wsX5_comeIn (wsV RX5 61 RX5 yX5_requireFighter wsX5_requireFighter) := goodIn_app (goodIn_of _ (by decide +kernel)) ggX5_comeIn_X5_requireFighter
set_option maxRecDepth 20000 in
theorem ggX5_comeIn_X1_mayResumeTurn : GoodIn wsX5_comeIn wsX1_mayResumeTurn := goodIn_ca (goodIn_r _ [25, 26, 27, 28, 29, 13, 30, 31, 32, 33, 34, 35, 16, 17, 18, 19, 20, 21, 36, 37, 38, 39, 40, 41, 42, 43, 44, 45, 15, 134, 135, 136, 137, 138, 139, 140, 141, 142, 143, 144, 145, 146] (by decide +kernel) (by decide +kernel)) (goodIn_sub (fun _ h => List.mem_cons_of_mem _ (List.mem_append_left _ (List.mem_append_right _ h))) (by decide +kernel))
set_option maxRecDepth 20000 in
theorem gX5_comeIn_X1_mayResumeTurn : GoodIn wsX5_comeIn (wsV RX5 122 RX1 yX1_mayResumeTurn wsX1_mayResumeTurn) := goodIn_app (goodIn_of _ (by decide +kernel)) ggX5_comeIn_X1_mayResumeTurn
set_option maxRecDepth 20000 in
theorem ggX5_comeIn_X5_requirePossible : GoodIn wsX5_comeIn wsX5_requirePossible := goodIn_ca (goodIn_r _ [48, 49, 50] (by decide +kernel) (by decide +kernel)) (goodIn_sub (fun _ h => List.mem_cons_of_mem _ (List.mem_append_right _ h)) (by decide +kernel))
set_option maxRecDepth 20000 in
theorem gX5_comeIn_X5_requirePossible : GoodIn wsX5_comeIn (va_wsS RX5 103 yX5_requirePossible wsX5_requirePossible) := goodIn_app (goodIn_of _ (by decide +kernel)) ggX5_comeIn_X5_requirePossible
set_option maxRecDepth 20000 in
theorem ggX5_comeIn_X2_save : GoodIn wsX5_comeIn wsX2_save := goodIn_r _ [55, 56, 57, 58, 59, 60, 54, 61, 62, 63, 64, 65, 66, 67, 68, 13, 69, 15, 70, 31, 71, 72, 26, 73, 74, 75, 76, 77, 78, 79, 19, 80, 21, 41, 81, 82, 83, 84, 85, 86, 87, 88, 89, 90, 91, 92, 93, 94, 95, 96, 147, 148, 134, 135, 136, 137, 138, 139, 140, 141, 142, 143, 144, 145, 146, 149, 150] (by decide +kernel) (by decide +kernel)
set_option maxRecDepth 20000 in
theorem gX5_comeIn_X2_save : GoodIn wsX5_comeIn (wsV RX5 53 RX2 yX2_save wsX2_save) := goodIn_app (goodIn_of _ (by decide +kernel)) ggX5_comeIn_X2_save
set_option maxRecDepth 20000 in
theorem ggX5_comeIn_X1_resumeTurn : GoodIn wsX5_comeIn wsX1_resumeTurn := goodIn_ca (goodIn_r _ [100, 73, 31, 74, 32, 33, 34, 13, 35, 16, 17, 18, 19, 20, 21, 36, 37, 38, 39, 40, 41, 101, 102, 103, 104, 85, 86, 87, 88, 105, 106, 107, 108, 109, 110, 111, 112, 113, 114, 115, 116, 117, 118, 119, 120, 121, 122, 123, 124, 125, 126, 127, 128, 129, 26, 134, 135, 136, 137, 138, 139, 140, 141, 142, 143, 144, 145, 146, 151, 152, 153, 154, 155, 156, 157, 158, 159, 160] (by decide +kernel) (by decide +kernel)) (goodIn_sub (fun _ h => List.mem_cons_of_mem _ (List.mem_append_left _ (List.mem_append_right _ h))) (by decide +kernel))
set_option maxRecDepth 20000 in
theorem gX5_comeIn_X1_resumeTurn : GoodIn wsX5_comeIn (wsV RX5 126 RX1 yX1_resumeTurn wsX1_resumeTurn) := goodIn_app (goodIn_of _ (by decide +kernel)) ggX5_comeIn_X1_resumeTurn
theorem dX5_comeIn_0 : decode cX5_comeIn 0 = .ok (.aload_n 0, 1) := by decide +kernel
theorem dX5_comeIn_1 : decode cX5_comeIn 1 = .ok (.iload_n 1, 1) := by decide +kernel
theorem dX5_comeIn_2 : decode cX5_comeIn 2 = .ok (.invokevirtual 61, 3) := by decide +kernel
theorem dX5_comeIn_5 : decode cX5_comeIn 5 = .ok (.aload_n 0, 1) := by decide +kernel
theorem dX5_comeIn_6 : decode cX5_comeIn 6 = .ok (.getfield 10, 3) := by decide +kernel
theorem dX5_comeIn_9 : decode cX5_comeIn 9 = .ok (.iload_n 1, 1) := by decide +kernel
theorem dX5_comeIn_10 : decode cX5_comeIn 10 = .ok (.invokevirtual 122, 3) := by decide +kernel
theorem dX5_comeIn_13 : decode cX5_comeIn 13 = .ok (.invokestatic 103, 3) := by decide +kernel
theorem dX5_comeIn_16 : decode cX5_comeIn 16 = .ok (.aload_n 0, 1) := by decide +kernel
theorem dX5_comeIn_17 : decode cX5_comeIn 17 = .ok (.getfield 22, 3) := by decide +kernel
theorem dX5_comeIn_20 : decode cX5_comeIn 20 = .ok (.aload_n 0, 1) := by decide +kernel
theorem dX5_comeIn_21 : decode cX5_comeIn 21 = .ok (.getfield 10, 3) := by decide +kernel
theorem dX5_comeIn_24 : decode cX5_comeIn 24 = .ok (.invokevirtual 53, 3) := by decide +kernel
theorem dX5_comeIn_27 : decode cX5_comeIn 27 = .ok (.aload_n 0, 1) := by decide +kernel
theorem dX5_comeIn_28 : decode cX5_comeIn 28 = .ok (.getfield 10, 3) := by decide +kernel
theorem dX5_comeIn_31 : decode cX5_comeIn 31 = .ok (.iload_n 1, 1) := by decide +kernel
theorem dX5_comeIn_32 : decode cX5_comeIn 32 = .ok (.invokevirtual 126, 3) := by decide +kernel
theorem dX5_comeIn_35 : decode cX5_comeIn 35 = .ok (.ireturn, 1) := by decide +kernel
set_option maxRecDepth 20000 in
theorem ggX5_act_X5_requireFighter : GoodIn wsX5_act wsX5_requireFighter := goodIn_ca (goodIn_r _ [9, 10, 11, 3, 12, 13, 14, 15, 16, 17, 18, 19, 20, 21, 22, 23, 134, 135, 136, 137, 138, 139, 140, 141, 142, 143, 144, 145, 146, 147, 148, 149, 150] (by decide +kernel) (by decide +kernel)) (goodIn_sub (fun _ h => List.mem_cons_of_mem _ (List.mem_append_left _ (List.mem_append_left _ (List.mem_append_right _ h)))) (by decide +kernel))
set_option maxRecDepth 20000 in
theorem gX5_act_X5_requireFighter : GoodIn wsX5_act (wsV RX5 61 RX5 yX5_requireFighter wsX5_requireFighter) := goodIn_app (goodIn_of _ (by decide +kernel)) ggX5_act_X5_requireFighter
set_option maxRecDepth 20000 in
theorem ggX5_act_X5_requireWithin : GoodIn wsX5_act wsX5_requireWithin := goodIn_ca (goodIn_r _ [26, 1, 2, 27, 28, 8, 29] (by decide +kernel) (by decide +kernel)) (goodIn_sub (fun _ h => List.mem_cons_of_mem _ (List.mem_append_left _ (List.mem_append_left _ (List.mem_append_left _ (List.mem_append_right _ h))))) (by decide +kernel))
set_option maxRecDepth 20000 in
theorem gX5_act_X5_requireWithin : GoodIn wsX5_act (va_wsS RX5 65 yX5_requireWithin wsX5_requireWithin) := goodIn_app (goodIn_of _ (by decide +kernel)) ggX5_act_X5_requireWithin
set_option maxRecDepth 20000 in
theorem ggX5_act_X1_mayAct : GoodIn wsX5_act wsX1_mayAct := goodIn_ca (goodIn_r _ [33, 34, 35, 18, 19, 20, 21, 22, 23, 36, 37, 38, 15, 39, 17, 40, 41, 42, 43, 44, 45, 46, 47, 48, 49, 50, 51, 52, 53, 54, 55, 56, 57, 138, 139, 140, 141, 142, 143, 144, 145, 146, 147, 148, 149, 150] (by decide +kernel) (by decide +kernel)) (goodIn_sub (fun _ h => List.mem_cons_of_mem _ (List.mem_append_left _ (List.mem_append_right _ h))) (by decide +kernel))
set_option maxRecDepth 20000 in
theorem gX5_act_X1_mayAct : GoodIn wsX5_act (wsV RX5 131 RX1 yX1_mayAct wsX1_mayAct) := goodIn_app (goodIn_of _ (by decide +kernel)) ggX5_act_X1_mayAct
set_option maxRecDepth 20000 in
theorem ggX5_act_X5_requirePossible : GoodIn wsX5_act wsX5_requirePossible := goodIn_ca (goodIn_r _ [60, 61, 62] (by decide +kernel) (by decide +kernel)) (goodIn_sub (fun _ h => List.mem_cons_of_mem _ (List.mem_append_right _ h)) (by decide +kernel))
set_option maxRecDepth 20000 in
theorem gX5_act_X5_requirePossible : GoodIn wsX5_act (va_wsS RX5 103 yX5_requirePossible wsX5_requirePossible) := goodIn_app (goodIn_of _ (by decide +kernel)) ggX5_act_X5_requirePossible
set_option maxRecDepth 20000 in
theorem ggX5_act_X2_save : GoodIn wsX5_act wsX2_save := goodIn_r _ [67, 68, 69, 70, 71, 72, 66, 73, 74, 75, 76, 77, 78, 79, 80, 15, 81, 17, 82, 83, 34, 84, 35, 85, 86, 87, 88, 89, 90, 91, 21, 92, 23, 45, 93, 94, 95, 96, 97, 98, 99, 100, 101, 102, 103, 104, 105, 106, 107, 108, 151, 152, 138, 139, 140, 141, 142, 143, 144, 145, 146, 147, 148, 149, 150, 153, 154] (by decide +kernel) (by decide +kernel)
set_option maxRecDepth 20000 in
theorem gX5_act_X2_save : GoodIn wsX5_act (wsV RX5 53 RX2 yX2_save wsX2_save) := goodIn_app (goodIn_of _ (by decide +kernel)) ggX5_act_X2_save
set_option maxRecDepth 20000 in
theorem ggX5_act_X1_beginAct : GoodIn wsX5_act wsX1_beginAct := goodIn_ca (goodIn_r _ [112, 34, 17, 86, 18, 19, 20, 21, 22, 23, 113, 114, 115, 116, 44, 45, 117, 118, 119, 120, 97, 98, 99, 100, 121, 122, 123, 124, 125, 126, 127, 128, 129, 130, 131, 132, 133, 138, 139, 140, 141, 142, 143, 144, 145, 146, 147, 148, 149, 150, 155, 156, 157, 158, 159, 160, 161, 162, 163, 164] (by decide +kernel) (by decide +kernel)) (goodIn_sub (fun _ h => List.mem_cons_of_mem _ (List.mem_append_left _ (List.mem_append_right _ h))) (by decide +kernel))
set_option maxRecDepth 20000 in
theorem gX5_act_X1_beginAct : GoodIn wsX5_act (wsV RX5 135 RX1 yX1_beginAct wsX1_beginAct) := goodIn_app (goodIn_of _ (by decide +kernel)) ggX5_act_X1_beginAct
theorem dX5_act_0 : decode cX5_act 0 = .ok (.aload_n 0, 1) := by decide +kernel
theorem dX5_act_1 : decode cX5_act 1 = .ok (.iload_n 1, 1) := by decide +kernel
theorem dX5_act_2 : decode cX5_act 2 = .ok (.invokevirtual 61, 3) := by decide +kernel
theorem dX5_act_5 : decode cX5_act 5 = .ok (.aload_n 0, 1) := by decide +kernel
theorem dX5_act_6 : decode cX5_act 6 = .ok (.iload_n 3, 1) := by decide +kernel
theorem dX5_act_7 : decode cX5_act 7 = .ok (.invokevirtual 61, 3) := by decide +kernel
theorem dX5_act_10 : decode cX5_act 10 = .ok (.iload_n 2, 1) := by decide +kernel
theorem dX5_act_11 : decode cX5_act 11 = .ok (.ifCond .eq 23, 3) := by decide +kernel
theorem dX5_act_14 : decode cX5_act 14 = .ok (.iload_n 2, 1) := by decide +kernel
theorem dX5_act_15 : decode cX5_act 15 = .ok (.iconst 1, 1) := by decide +kernel
theorem dX5_act_16 : decode cX5_act 16 = .ok (.if_icmp .eq 18, 3) := by decide +kernel
theorem dX5_act_19 : decode cX5_act 19 = .ok (.iload_n 2, 1) := by decide +kernel
theorem dX5_act_20 : decode cX5_act 20 = .ok (.iconst 3, 1) := by decide +kernel
theorem dX5_act_21 : decode cX5_act 21 = .ok (.if_icmp .eq 13, 3) := by decide +kernel
theorem dX5_act_24 : decode cX5_act 24 = .ok (.new 37, 3) := by decide +kernel
theorem dX5_act_27 : decode cX5_act 27 = .ok (.dup, 1) := by decide +kernel
theorem dX5_act_28 : decode cX5_act 28 = .ok (.ldc 129, 2) := by decide +kernel
theorem dX5_act_30 : decode cX5_act 30 = .ok (.invokespecial 41, 3) := by decide +kernel
theorem dX5_act_33 : decode cX5_act 33 = .ok (.athrow, 1) := by decide +kernel
theorem dX5_act_34 : decode cX5_act 34 = .ok (.iload 4, 2) := by decide +kernel
theorem dX5_act_36 : decode cX5_act 36 = .ok (.iconst 1, 1) := by decide +kernel
theorem dX5_act_37 : decode cX5_act 37 = .ok (.bipush 60, 2) := by decide +kernel
theorem dX5_act_39 : decode cX5_act 39 = .ok (.invokestatic 65, 3) := by decide +kernel
theorem dX5_act_42 : decode cX5_act 42 = .ok (.aload_n 0, 1) := by decide +kernel
theorem dX5_act_43 : decode cX5_act 43 = .ok (.getfield 10, 3) := by decide +kernel
theorem dX5_act_46 : decode cX5_act 46 = .ok (.iload_n 1, 1) := by decide +kernel
theorem dX5_act_47 : decode cX5_act 47 = .ok (.iload_n 2, 1) := by decide +kernel
theorem dX5_act_48 : decode cX5_act 48 = .ok (.invokevirtual 131, 3) := by decide +kernel
theorem dX5_act_51 : decode cX5_act 51 = .ok (.invokestatic 103, 3) := by decide +kernel
theorem dX5_act_54 : decode cX5_act 54 = .ok (.aload_n 0, 1) := by decide +kernel
theorem dX5_act_55 : decode cX5_act 55 = .ok (.getfield 22, 3) := by decide +kernel
theorem dX5_act_58 : decode cX5_act 58 = .ok (.aload_n 0, 1) := by decide +kernel
theorem dX5_act_59 : decode cX5_act 59 = .ok (.getfield 10, 3) := by decide +kernel
theorem dX5_act_62 : decode cX5_act 62 = .ok (.invokevirtual 53, 3) := by decide +kernel
theorem dX5_act_65 : decode cX5_act 65 = .ok (.aload_n 0, 1) := by decide +kernel
theorem dX5_act_66 : decode cX5_act 66 = .ok (.getfield 10, 3) := by decide +kernel
theorem dX5_act_69 : decode cX5_act 69 = .ok (.iload_n 2, 1) := by decide +kernel
theorem dX5_act_70 : decode cX5_act 70 = .ok (.iload_n 1, 1) := by decide +kernel
theorem dX5_act_71 : decode cX5_act 71 = .ok (.iload_n 3, 1) := by decide +kernel
theorem dX5_act_72 : decode cX5_act 72 = .ok (.iload 4, 2) := by decide +kernel
theorem dX5_act_74 : decode cX5_act 74 = .ok (.iconst 0, 1) := by decide +kernel
theorem dX5_act_75 : decode cX5_act 75 = .ok (.iconst 0, 1) := by decide +kernel
theorem dX5_act_76 : decode cX5_act 76 = .ok (.iconst 0, 1) := by decide +kernel
theorem dX5_act_77 : decode cX5_act 77 = .ok (.invokevirtual 135, 3) := by decide +kernel
theorem dX5_act_80 : decode cX5_act 80 = .ok (.ireturn, 1) := by decide +kernel
set_option maxRecDepth 20000 in
theorem ggX5_cast_X5_requireFighter : GoodIn wsX5_cast wsX5_requireFighter := goodIn_ca (goodIn_r _ [7, 8, 9, 1, 10, 11, 12, 13, 14, 15, 16, 17, 18, 19, 20, 21, 134, 135, 136, 137, 138, 139, 140, 141, 142, 143, 144, 145, 146, 147, 148, 149, 150] (by decide +kernel) (by decide +kernel)) (goodIn_sub (fun _ h => List.mem_cons_of_mem _ (List.mem_append_left _ (List.mem_append_left _ (List.mem_append_left _ (List.mem_append_right _ h))))) (by decide +kernel))
set_option maxRecDepth 20000 in
theorem gX5_cast_X5_requireFighter : GoodIn wsX5_cast (wsV RX5 61 RX5 yX5_requireFighter wsX5_requireFighter) := goodIn_app (goodIn_of _ (by decide +kernel)) ggX5_cast_X5_requireFighter
set_option maxRecDepth 20000 in
theorem ggX5_cast_X5_requireWithin : GoodIn wsX5_cast wsX5_requireWithin := goodIn_ca (goodIn_r _ [24, 25, 26, 27, 28, 6, 29] (by decide +kernel) (by decide +kernel)) (goodIn_sub (fun _ h => List.mem_cons_of_mem _ (List.mem_append_left _ (List.mem_append_left _ (List.mem_append_right _ h)))) (by decide +kernel))
set_option maxRecDepth 20000 in
theorem gX5_cast_X5_requireWithin : GoodIn wsX5_cast (va_wsS RX5 65 yX5_requireWithin wsX5_requireWithin) := goodIn_app (goodIn_of _ (by decide +kernel)) ggX5_cast_X5_requireWithin
set_option maxRecDepth 20000 in
theorem ggX5_cast_X1_mayAct : GoodIn wsX5_cast wsX1_mayAct := goodIn_ca (goodIn_r _ [33, 34, 35, 16, 17, 18, 19, 20, 21, 36, 37, 38, 13, 39, 15, 40, 41, 42, 43, 44, 45, 46, 47, 48, 49, 50, 51, 52, 53, 54, 55, 56, 57, 138, 139, 140, 141, 142, 143, 144, 145, 146, 147, 148, 149, 150] (by decide +kernel) (by decide +kernel)) (goodIn_sub (fun _ h => List.mem_cons_of_mem _ (List.mem_append_left _ (List.mem_append_right _ h))) (by decide +kernel))
set_option maxRecDepth 20000 in
theorem gX5_cast_X1_mayAct : GoodIn wsX5_cast (wsV RX5 131 RX1 yX1_mayAct wsX1_mayAct) := goodIn_app (goodIn_of _ (by decide +kernel)) ggX5_cast_X1_mayAct
set_option maxRecDepth 20000 in
theorem ggX5_cast_X5_requirePossible : GoodIn wsX5_cast wsX5_requirePossible := goodIn_ca (goodIn_r _ [60, 61, 62] (by decide +kernel) (by decide +kernel)) (goodIn_sub (fun _ h => List.mem_cons_of_mem _ (List.mem_append_right _ h)) (by decide +kernel))
set_option maxRecDepth 20000 in
theorem gX5_cast_X5_requirePossible : GoodIn wsX5_cast (va_wsS RX5 103 yX5_requirePossible wsX5_requirePossible) := goodIn_app (goodIn_of _ (by decide +kernel)) ggX5_cast_X5_requirePossible
set_option maxRecDepth 20000 in
theorem ggX5_cast_X2_save : GoodIn wsX5_cast wsX2_save := goodIn_r _ [67, 68, 69, 70, 71, 72, 66, 73, 74, 75, 76, 77, 78, 79, 80, 13, 81, 15, 82, 83, 34, 84, 35, 85, 86, 87, 88, 89, 90, 91, 19, 92, 21, 45, 93, 94, 95, 96, 97, 98, 99, 100, 101, 102, 103, 104, 105, 106, 107, 108, 151, 152, 138, 139, 140, 141, 142, 143, 144, 145, 146, 147, 148, 149, 150, 153, 154] (by decide +kernel) (by decide +kernel)
set_option maxRecDepth 20000 in
theorem gX5_cast_X2_save : GoodIn wsX5_cast (wsV RX5 53 RX2 yX2_save wsX2_save) := goodIn_app (goodIn_of _ (by decide +kernel)) ggX5_cast_X2_save
set_option maxRecDepth 20000 in
theorem ggX5_cast_X1_beginAct : GoodIn wsX5_cast wsX1_beginAct := goodIn_ca (goodIn_r _ [112, 34, 15, 86, 16, 17, 18, 19, 20, 21, 113, 114, 115, 116, 44, 45, 117, 118, 119, 120, 97, 98, 99, 100, 121, 122, 123, 124, 125, 126, 127, 128, 129, 130, 131, 132, 133, 138, 139, 140, 141, 142, 143, 144, 145, 146, 147, 148, 149, 150, 155, 156, 157, 158, 159, 160, 161, 162, 163, 164] (by decide +kernel) (by decide +kernel)) (goodIn_sub (fun _ h => List.mem_cons_of_mem _ (List.mem_append_left _ (List.mem_append_right _ h))) (by decide +kernel))
set_option maxRecDepth 20000 in
theorem gX5_cast_X1_beginAct : GoodIn wsX5_cast (wsV RX5 135 RX1 yX1_beginAct wsX1_beginAct) := goodIn_app (goodIn_of _ (by decide +kernel)) ggX5_cast_X1_beginAct
theorem dX5_cast_0 : decode cX5_cast 0 = .ok (.aload_n 0, 1) := by decide +kernel
theorem dX5_cast_1 : decode cX5_cast 1 = .ok (.iload_n 1, 1) := by decide +kernel
theorem dX5_cast_2 : decode cX5_cast 2 = .ok (.invokevirtual 61, 3) := by decide +kernel
theorem dX5_cast_5 : decode cX5_cast 5 = .ok (.aload_n 0, 1) := by decide +kernel
theorem dX5_cast_6 : decode cX5_cast 6 = .ok (.iload_n 2, 1) := by decide +kernel
theorem dX5_cast_7 : decode cX5_cast 7 = .ok (.invokevirtual 61, 3) := by decide +kernel
theorem dX5_cast_10 : decode cX5_cast 10 = .ok (.iload_n 3, 1) := by decide +kernel
theorem dX5_cast_11 : decode cX5_cast 11 = .ok (.iconst 0, 1) := by decide +kernel
theorem dX5_cast_12 : decode cX5_cast 12 = .ok (.iconst 4, 1) := by decide +kernel
theorem dX5_cast_13 : decode cX5_cast 13 = .ok (.invokestatic 65, 3) := by decide +kernel
theorem dX5_cast_16 : decode cX5_cast 16 = .ok (.iload 4, 2) := by decide +kernel
theorem dX5_cast_18 : decode cX5_cast 18 = .ok (.iconst 1, 1) := by decide +kernel
theorem dX5_cast_19 : decode cX5_cast 19 = .ok (.bipush 20, 2) := by decide +kernel
theorem dX5_cast_21 : decode cX5_cast 21 = .ok (.invokestatic 65, 3) := by decide +kernel
theorem dX5_cast_24 : decode cX5_cast 24 = .ok (.iload 5, 2) := by decide +kernel
theorem dX5_cast_26 : decode cX5_cast 26 = .ok (.iconst 1, 1) := by decide +kernel
theorem dX5_cast_27 : decode cX5_cast 27 = .ok (.bipush 20, 2) := by decide +kernel
theorem dX5_cast_29 : decode cX5_cast 29 = .ok (.invokestatic 65, 3) := by decide +kernel
theorem dX5_cast_32 : decode cX5_cast 32 = .ok (.iload 6, 2) := by decide +kernel
theorem dX5_cast_34 : decode cX5_cast 34 = .ok (.iconst 0, 1) := by decide +kernel
theorem dX5_cast_35 : decode cX5_cast 35 = .ok (.iconst 3, 1) := by decide +kernel
theorem dX5_cast_36 : decode cX5_cast 36 = .ok (.invokestatic 65, 3) := by decide +kernel
theorem dX5_cast_39 : decode cX5_cast 39 = .ok (.aload_n 0, 1) := by decide +kernel
theorem dX5_cast_40 : decode cX5_cast 40 = .ok (.getfield 10, 3) := by decide +kernel
theorem dX5_cast_43 : decode cX5_cast 43 = .ok (.iload_n 1, 1) := by decide +kernel
theorem dX5_cast_44 : decode cX5_cast 44 = .ok (.iconst 2, 1) := by decide +kernel
theorem dX5_cast_45 : decode cX5_cast 45 = .ok (.invokevirtual 131, 3) := by decide +kernel
theorem dX5_cast_48 : decode cX5_cast 48 = .ok (.invokestatic 103, 3) := by decide +kernel
theorem dX5_cast_51 : decode cX5_cast 51 = .ok (.aload_n 0, 1) := by decide +kernel
theorem dX5_cast_52 : decode cX5_cast 52 = .ok (.getfield 22, 3) := by decide +kernel
theorem dX5_cast_55 : decode cX5_cast 55 = .ok (.aload_n 0, 1) := by decide +kernel
theorem dX5_cast_56 : decode cX5_cast 56 = .ok (.getfield 10, 3) := by decide +kernel
theorem dX5_cast_59 : decode cX5_cast 59 = .ok (.invokevirtual 53, 3) := by decide +kernel
theorem dX5_cast_62 : decode cX5_cast 62 = .ok (.aload_n 0, 1) := by decide +kernel
theorem dX5_cast_63 : decode cX5_cast 63 = .ok (.getfield 10, 3) := by decide +kernel
theorem dX5_cast_66 : decode cX5_cast 66 = .ok (.iconst 2, 1) := by decide +kernel
theorem dX5_cast_67 : decode cX5_cast 67 = .ok (.iload_n 1, 1) := by decide +kernel
theorem dX5_cast_68 : decode cX5_cast 68 = .ok (.iload_n 2, 1) := by decide +kernel
theorem dX5_cast_69 : decode cX5_cast 69 = .ok (.iload 4, 2) := by decide +kernel
theorem dX5_cast_71 : decode cX5_cast 71 = .ok (.iload_n 3, 1) := by decide +kernel
theorem dX5_cast_72 : decode cX5_cast 72 = .ok (.iload 5, 2) := by decide +kernel
theorem dX5_cast_74 : decode cX5_cast 74 = .ok (.iload 6, 2) := by decide +kernel
theorem dX5_cast_76 : decode cX5_cast 76 = .ok (.invokevirtual 135, 3) := by decide +kernel
theorem dX5_cast_79 : decode cX5_cast 79 = .ok (.ireturn, 1) := by decide +kernel
set_option maxRecDepth 20000 in
theorem ggX5_settle_X1_maySettle : GoodIn wsX5_settle wsX1_maySettle := goodIn_r _ [7, 8, 9, 10, 11, 12, 13, 14, 165, 166, 167, 168, 169, 170, 171, 172, 173, 174, 175, 176, 177] (by decide +kernel) (by decide +kernel)
set_option maxRecDepth 20000 in
theorem gX5_settle_X1_maySettle : GoodIn wsX5_settle (wsV RX5 139 RX1 yX1_maySettle wsX1_maySettle) := goodIn_app (goodIn_of _ (by decide +kernel)) ggX5_settle_X1_maySettle
set_option maxRecDepth 20000 in
theorem ggX5_settle_X5_requirePossible : GoodIn wsX5_settle wsX5_requirePossible := goodIn_ca (goodIn_r _ [18, 19, 20] (by decide +kernel) (by decide +kernel)) (goodIn_sub (fun _ h => List.mem_cons_of_mem _ (List.mem_append_left _ (List.mem_append_right _ h))) (by decide +kernel))
set_option maxRecDepth 20000 in
theorem gX5_settle_X5_requirePossible : GoodIn wsX5_settle (va_wsS RX5 103 yX5_requirePossible wsX5_requirePossible) := goodIn_app (goodIn_of _ (by decide +kernel)) ggX5_settle_X5_requirePossible
set_option maxRecDepth 20000 in
theorem ggX5_settle_X2_save : GoodIn wsX5_settle wsX2_save := goodIn_r _ [25, 26, 27, 28, 29, 30, 24, 31, 32, 33, 34, 35, 36, 37, 38, 6, 39, 40, 41, 42, 8, 43, 44, 45, 46, 47, 48, 49, 50, 51, 12, 52, 14, 53, 54, 55, 56, 57, 58, 59, 60, 61, 62, 63, 64, 65, 66, 67, 68, 69, 178, 179, 165, 166, 167, 168, 169, 170, 171, 172, 173, 174, 175, 176, 177, 180, 181] (by decide +kernel) (by decide +kernel)
set_option maxRecDepth 20000 in
theorem gX5_settle_X2_save : GoodIn wsX5_settle (wsV RX5 53 RX2 yX2_save wsX2_save) := goodIn_app (goodIn_of _ (by decide +kernel)) ggX5_settle_X2_save
set_option maxRecDepth 20000 in
theorem ggX5_settle_X1_settleStack : GoodIn wsX5_settle wsX1_settleStack := goodIn_ca (goodIn_r _ [73, 8, 44, 9, 10, 11, 12, 13, 14, 74, 75, 76, 6, 77, 41, 78, 79, 56, 80, 81, 82, 83, 84, 85, 86, 87, 88, 89, 53, 90, 91, 92, 93, 94, 95, 96, 97, 58, 59, 60, 61, 98, 99, 100, 101, 40, 102, 103, 104, 65, 105, 67, 106, 107, 108, 109, 110, 111, 112, 55, 57, 47, 113, 114, 115, 116, 117, 118, 119, 120, 121, 122, 123, 124, 125, 126, 127, 128, 129, 130, 131, 132, 133, 134, 135, 136, 137, 68, 138, 139, 140, 141, 142, 143, 144, 145, 146, 147, 148, 149, 150, 151, 152, 153, 154, 155, 156, 157, 158, 159, 160, 165, 166, 167, 168, 169, 170, 171, 172, 173, 174, 175, 176, 177, 180, 181, 182, 183, 184, 185, 186, 187, 188, 189, 190, 191] (by decide +kernel) (by decide +kernel)) (goodIn_sub (fun _ h => List.mem_cons_of_mem _ (List.mem_append_right _ h)) (by decide +kernel))
set_option maxRecDepth 20000 in
theorem gX5_settle_X1_settleStack : GoodIn wsX5_settle (wsV RX5 142 RX1 yX1_settleStack wsX1_settleStack) := goodIn_app (goodIn_of _ (by decide +kernel)) ggX5_settle_X1_settleStack
theorem dX5_settle_0 : decode cX5_settle 0 = .ok (.aload_n 0, 1) := by decide +kernel
theorem dX5_settle_1 : decode cX5_settle 1 = .ok (.getfield 10, 3) := by decide +kernel
theorem dX5_settle_4 : decode cX5_settle 4 = .ok (.invokevirtual 139, 3) := by decide +kernel
theorem dX5_settle_7 : decode cX5_settle 7 = .ok (.invokestatic 103, 3) := by decide +kernel
theorem dX5_settle_10 : decode cX5_settle 10 = .ok (.aload_n 0, 1) := by decide +kernel
theorem dX5_settle_11 : decode cX5_settle 11 = .ok (.getfield 22, 3) := by decide +kernel
theorem dX5_settle_14 : decode cX5_settle 14 = .ok (.aload_n 0, 1) := by decide +kernel
theorem dX5_settle_15 : decode cX5_settle 15 = .ok (.getfield 10, 3) := by decide +kernel
theorem dX5_settle_18 : decode cX5_settle 18 = .ok (.invokevirtual 53, 3) := by decide +kernel
theorem dX5_settle_21 : decode cX5_settle 21 = .ok (.aload_n 0, 1) := by decide +kernel
theorem dX5_settle_22 : decode cX5_settle 22 = .ok (.getfield 10, 3) := by decide +kernel
theorem dX5_settle_25 : decode cX5_settle 25 = .ok (.invokevirtual 142, 3) := by decide +kernel
theorem dX5_settle_28 : decode cX5_settle 28 = .ok (.ireturn, 1) := by decide +kernel
set_option maxRecDepth 20000 in
theorem ggX5_stacked_X1_stackSize : GoodIn wsX5_stacked wsX1_stackSize := goodIn_r _ [8, 9, 10, 11, 12, 13, 14, 15, 39, 40, 41, 42, 43, 44, 45, 46, 47, 48, 49, 50, 51] (by decide +kernel) (by decide +kernel)
set_option maxRecDepth 20000 in
theorem gX5_stacked_X1_stackSize : GoodIn wsX5_stacked (wsV RX5 145 RX1 yX1_stackSize wsX1_stackSize) := goodIn_app (goodIn_of _ (by decide +kernel)) ggX5_stacked_X1_stackSize
set_option maxRecDepth 20000 in
theorem ggX5_stacked_X5_within : GoodIn wsX5_stacked wsX5_within := goodIn_r _ [19] (by decide +kernel) (by decide +kernel)
set_option maxRecDepth 20000 in
theorem gX5_stacked_X5_within : GoodIn wsX5_stacked (va_wsS RX5 33 yX5_within wsX5_within) := goodIn_app (goodIn_of _ (by decide +kernel)) ggX5_stacked_X5_within
set_option maxRecDepth 20000 in
theorem ggX5_stacked_X5_requireWithin : GoodIn wsX5_stacked wsX5_requireWithin := goodIn_ca (goodIn_r _ [22, 23, 24, 16, 17, 18, 19] (by decide +kernel) (by decide +kernel)) (goodIn_sub (fun _ h => List.mem_cons_of_mem _ (List.mem_append_left _ (List.mem_append_right _ h))) (by decide +kernel))
set_option maxRecDepth 20000 in
theorem gX5_stacked_X5_requireWithin : GoodIn wsX5_stacked (va_wsS RX5 65 yX5_requireWithin wsX5_requireWithin) := goodIn_app (goodIn_of _ (by decide +kernel)) ggX5_stacked_X5_requireWithin
set_option maxRecDepth 20000 in
theorem ggX5_stacked_X1_aboutAct : GoodIn wsX5_stacked wsX1_aboutAct := goodIn_ca (goodIn_r _ [28, 9, 10, 11, 12, 13, 14, 15, 29, 30, 31, 32, 33, 34, 39, 40, 41, 42, 43, 44, 45, 46, 47, 48, 49, 50, 51] (by decide +kernel) (by decide +kernel)) (goodIn_sub (fun _ h => List.mem_cons_of_mem _ (List.mem_append_right _ h)) (by decide +kernel))
set_option maxRecDepth 20000 in
theorem gX5_stacked_X1_aboutAct : GoodIn wsX5_stacked (wsV RX5 150 RX1 yX1_aboutAct wsX1_aboutAct) := goodIn_app (goodIn_of _ (by decide +kernel)) ggX5_stacked_X1_aboutAct
theorem dX5_stacked_0 : decode cX5_stacked 0 = .ok (.iload_n 1, 1) := by decide +kernel
theorem dX5_stacked_1 : decode cX5_stacked 1 = .ok (.iconst 0, 1) := by decide +kernel
theorem dX5_stacked_2 : decode cX5_stacked 2 = .ok (.aload_n 0, 1) := by decide +kernel
theorem dX5_stacked_3 : decode cX5_stacked 3 = .ok (.getfield 10, 3) := by decide +kernel
theorem dX5_stacked_6 : decode cX5_stacked 6 = .ok (.invokevirtual 145, 3) := by decide +kernel
theorem dX5_stacked_9 : decode cX5_stacked 9 = .ok (.iconst 1, 1) := by decide +kernel
theorem dX5_stacked_10 : decode cX5_stacked 10 = .ok (.isub, 1) := by decide +kernel
theorem dX5_stacked_11 : decode cX5_stacked 11 = .ok (.invokestatic 33, 3) := by decide +kernel
theorem dX5_stacked_14 : decode cX5_stacked 14 = .ok (.ifCond .ne 13, 3) := by decide +kernel
theorem dX5_stacked_17 : decode cX5_stacked 17 = .ok (.new 91, 3) := by decide +kernel
theorem dX5_stacked_20 : decode cX5_stacked 20 = .ok (.dup, 1) := by decide +kernel
theorem dX5_stacked_21 : decode cX5_stacked 21 = .ok (.ldc 148, 2) := by decide +kernel
theorem dX5_stacked_23 : decode cX5_stacked 23 = .ok (.invokespecial 95, 3) := by decide +kernel
theorem dX5_stacked_26 : decode cX5_stacked 26 = .ok (.athrow, 1) := by decide +kernel
theorem dX5_stacked_27 : decode cX5_stacked 27 = .ok (.iload_n 2, 1) := by decide +kernel
theorem dX5_stacked_28 : decode cX5_stacked 28 = .ok (.iconst 0, 1) := by decide +kernel
theorem dX5_stacked_29 : decode cX5_stacked 29 = .ok (.iconst 3, 1) := by decide +kernel
theorem dX5_stacked_30 : decode cX5_stacked 30 = .ok (.invokestatic 65, 3) := by decide +kernel
theorem dX5_stacked_33 : decode cX5_stacked 33 = .ok (.aload_n 0, 1) := by decide +kernel
theorem dX5_stacked_34 : decode cX5_stacked 34 = .ok (.getfield 10, 3) := by decide +kernel
theorem dX5_stacked_37 : decode cX5_stacked 37 = .ok (.iload_n 1, 1) := by decide +kernel
theorem dX5_stacked_38 : decode cX5_stacked 38 = .ok (.iload_n 2, 1) := by decide +kernel
theorem dX5_stacked_39 : decode cX5_stacked 39 = .ok (.invokevirtual 150, 3) := by decide +kernel
theorem dX5_stacked_42 : decode cX5_stacked 42 = .ok (.ireturn, 1) := by decide +kernel
set_option maxRecDepth 20000 in
theorem ggX5_mayAnswer_X5_requireFighter : GoodIn wsX5_mayAnswer wsX5_requireFighter := goodIn_ca (goodIn_r _ [6, 7, 8, 1, 9, 10, 11, 12, 13, 14, 15, 16, 17, 18, 19, 20, 44, 45, 46, 47, 48, 49, 50, 51, 52, 53, 54, 55, 56, 57, 58, 59, 60] (by decide +kernel) (by decide +kernel)) (goodIn_sub (fun _ h => List.mem_cons_of_mem _ (List.mem_append_left _ (List.mem_append_right _ h))) (by decide +kernel))
set_option maxRecDepth 20000 in
theorem gX5_mayAnswer_X5_requireFighter : GoodIn wsX5_mayAnswer (wsV RX5 61 RX5 yX5_requireFighter wsX5_requireFighter) := goodIn_app (goodIn_of _ (by decide +kernel)) ggX5_mayAnswer_X5_requireFighter
set_option maxRecDepth 20000 in
theorem ggX5_mayAnswer_X1_canAnswer : GoodIn wsX5_mayAnswer wsX1_canAnswer := goodIn_ca (goodIn_r _ [24, 25, 14, 15, 16, 17, 18, 19, 20, 26, 27, 28, 29, 30, 31, 32, 33, 34, 12, 35, 36, 37, 38, 39, 40, 41, 42, 43, 48, 49, 50, 51, 52, 53, 54, 55, 56, 57, 58, 59, 60] (by decide +kernel) (by decide +kernel)) (goodIn_sub (fun _ h => List.mem_cons_of_mem _ (List.mem_append_right _ h)) (by decide +kernel))
set_option maxRecDepth 20000 in
theorem gX5_mayAnswer_X1_canAnswer : GoodIn wsX5_mayAnswer (wsV RX5 153 RX1 yX1_canAnswer wsX1_canAnswer) := goodIn_app (goodIn_of _ (by decide +kernel)) ggX5_mayAnswer_X1_canAnswer
theorem dX5_mayAnswer_0 : decode cX5_mayAnswer 0 = .ok (.aload_n 0, 1) := by decide +kernel
theorem dX5_mayAnswer_1 : decode cX5_mayAnswer 1 = .ok (.iload_n 1, 1) := by decide +kernel
theorem dX5_mayAnswer_2 : decode cX5_mayAnswer 2 = .ok (.invokevirtual 61, 3) := by decide +kernel
theorem dX5_mayAnswer_5 : decode cX5_mayAnswer 5 = .ok (.aload_n 0, 1) := by decide +kernel
theorem dX5_mayAnswer_6 : decode cX5_mayAnswer 6 = .ok (.getfield 10, 3) := by decide +kernel
theorem dX5_mayAnswer_9 : decode cX5_mayAnswer 9 = .ok (.iload_n 1, 1) := by decide +kernel
theorem dX5_mayAnswer_10 : decode cX5_mayAnswer 10 = .ok (.invokevirtual 153, 3) := by decide +kernel
theorem dX5_mayAnswer_13 : decode cX5_mayAnswer 13 = .ok (.ireturn, 1) := by decide +kernel
set_option maxRecDepth 20000 in
theorem ggX5_upcoming_X5_requireWithin : GoodIn wsX5_upcoming wsX5_requireWithin := goodIn_ca (goodIn_r _ [6, 7, 8, 9, 10, 5, 11] (by decide +kernel) (by decide +kernel)) (goodIn_sub (fun _ h => List.mem_cons_of_mem _ (List.mem_append_left _ (List.mem_append_right _ h))) (by decide +kernel))
set_option maxRecDepth 20000 in
theorem gX5_upcoming_X5_requireWithin : GoodIn wsX5_upcoming (va_wsS RX5 65 yX5_requireWithin wsX5_requireWithin) := goodIn_app (goodIn_of _ (by decide +kernel)) ggX5_upcoming_X5_requireWithin
set_option maxRecDepth 20000 in
theorem ggX5_upcoming_X1_copyFrom : GoodIn wsX5_upcoming wsX1_copyFrom := goodIn_r _ [16, 17, 18, 19, 20, 21, 22, 23, 24, 25, 26, 27, 28, 29, 30, 31, 32, 33, 34, 35, 36, 37, 38, 39, 40, 41, 42, 43, 44, 45, 46, 47, 48, 49, 183, 184, 185, 186, 187, 188, 189, 190, 191, 192, 193, 194, 195, 196, 197] (by decide +kernel) (by decide +kernel)
set_option maxRecDepth 20000 in
theorem gX5_upcoming_X1_copyFrom : GoodIn wsX5_upcoming (wsV RX5 156 RX1 yX1_copyFrom wsX1_copyFrom) := goodIn_app (goodIn_of _ (by decide +kernel)) ggX5_upcoming_X1_copyFrom
set_option maxRecDepth 20000 in
theorem ggX5_upcoming_X1_abandonTurn : GoodIn wsX5_upcoming wsX1_abandonTurn := goodIn_ca (goodIn_r _ [53, 20, 22, 54, 55, 56, 30, 57, 32, 58, 59, 60, 15, 61, 18, 62, 63, 64, 45, 65, 47, 66, 67, 68, 69, 70, 71, 72, 73, 74, 33, 75, 76, 77, 78, 79, 80, 81, 82, 38, 39, 40, 41, 183, 184, 185, 186, 187, 188, 189, 190, 191, 192, 193, 194, 195, 196, 197] (by decide +kernel) (by decide +kernel)) (goodIn_sub (fun _ h => List.mem_cons_of_mem _ (List.mem_append_right _ h)) (by decide +kernel))
set_option maxRecDepth 20000 in
theorem gX5_upcoming_X1_abandonTurn : GoodIn wsX5_upcoming (wsV RX5 159 RX1 yX1_abandonTurn wsX1_abandonTurn) := goodIn_app (goodIn_of _ (by decide +kernel)) ggX5_upcoming_X1_abandonTurn
set_option maxRecDepth 20000 in
theorem ggX5_upcoming_X1_passTurn : GoodIn wsX5_upcoming wsX1_passTurn := goodIn_ca (goodIn_r _ [86, 22, 87, 88, 89, 15, 90, 24, 26, 17, 18, 91, 92, 93, 94, 19, 95, 67, 68, 30, 69, 32, 96, 71, 72, 73, 74, 33, 97, 98, 99, 100, 101, 102, 103, 104, 21, 54, 55, 56, 57, 105, 106, 107, 108, 109, 110, 111, 112, 113, 114, 36, 115, 116, 117, 118, 45, 119, 47, 66, 70, 120, 121, 122, 123, 38, 39, 40, 41, 124, 125, 126, 127, 128, 129, 130, 131, 132, 133, 134, 135, 136, 137, 76, 77, 78, 138, 139, 140, 141, 23, 142, 143, 144, 145, 146, 147, 148, 149, 150, 151, 152, 153, 154, 155, 156, 157, 158, 159, 160, 161, 162, 163, 164, 165, 166, 35, 37, 25, 167, 168, 169, 170, 79, 80, 81, 82, 171, 172, 173, 174, 175, 176, 177, 178, 58, 59, 60, 61, 62, 63, 64, 65, 75, 183, 184, 185, 186, 187, 188, 189, 190, 191, 192, 193, 194, 195, 196, 197, 198, 199, 200, 201, 202, 203, 204, 205, 206, 207] (by decide +kernel) (by decide +kernel)) (goodIn_sub (fun _ h => List.mem_cons_of_mem _ (List.mem_append_right _ h)) (by decide +kernel))
set_option maxRecDepth 20000 in
theorem gX5_upcoming_X1_passTurn : GoodIn wsX5_upcoming (wsV RX5 162 RX1 yX1_passTurn wsX1_passTurn) := goodIn_app (goodIn_of _ (by decide +kernel)) ggX5_upcoming_X1_passTurn
theorem dX5_upcoming_0 : decode cX5_upcoming 0 = .ok (.iload_n 1, 1) := by decide +kernel
theorem dX5_upcoming_1 : decode cX5_upcoming 1 = .ok (.iconst 0, 1) := by decide +kernel
theorem dX5_upcoming_2 : decode cX5_upcoming 2 = .ok (.bipush 40, 2) := by decide +kernel
theorem dX5_upcoming_4 : decode cX5_upcoming 4 = .ok (.invokestatic 65, 3) := by decide +kernel
theorem dX5_upcoming_7 : decode cX5_upcoming 7 = .ok (.aload_n 0, 1) := by decide +kernel
theorem dX5_upcoming_8 : decode cX5_upcoming 8 = .ok (.getfield 16, 3) := by decide +kernel
theorem dX5_upcoming_11 : decode cX5_upcoming 11 = .ok (.aload_n 0, 1) := by decide +kernel
theorem dX5_upcoming_12 : decode cX5_upcoming 12 = .ok (.getfield 10, 3) := by decide +kernel
theorem dX5_upcoming_15 : decode cX5_upcoming 15 = .ok (.invokevirtual 156, 3) := by decide +kernel
theorem dX5_upcoming_18 : decode cX5_upcoming 18 = .ok (.aload_n 0, 1) := by decide +kernel
theorem dX5_upcoming_19 : decode cX5_upcoming 19 = .ok (.getfield 16, 3) := by decide +kernel
theorem dX5_upcoming_22 : decode cX5_upcoming 22 = .ok (.invokevirtual 159, 3) := by decide +kernel
theorem dX5_upcoming_25 : decode cX5_upcoming 25 = .ok (.iconst (-1), 1) := by decide +kernel
theorem dX5_upcoming_26 : decode cX5_upcoming 26 = .ok (.istore_n 2, 1) := by decide +kernel
theorem dX5_upcoming_27 : decode cX5_upcoming 27 = .ok (.iconst 0, 1) := by decide +kernel
theorem dX5_upcoming_28 : decode cX5_upcoming 28 = .ok (.istore_n 3, 1) := by decide +kernel
theorem dX5_upcoming_29 : decode cX5_upcoming 29 = .ok (.iload_n 3, 1) := by decide +kernel
theorem dX5_upcoming_30 : decode cX5_upcoming 30 = .ok (.iload_n 1, 1) := by decide +kernel
theorem dX5_upcoming_31 : decode cX5_upcoming 31 = .ok (.if_icmp .gt 17, 3) := by decide +kernel
theorem dX5_upcoming_34 : decode cX5_upcoming 34 = .ok (.aload_n 0, 1) := by decide +kernel
theorem dX5_upcoming_35 : decode cX5_upcoming 35 = .ok (.getfield 16, 3) := by decide +kernel
theorem dX5_upcoming_38 : decode cX5_upcoming 38 = .ok (.invokevirtual 162, 3) := by decide +kernel
theorem dX5_upcoming_41 : decode cX5_upcoming 41 = .ok (.istore_n 2, 1) := by decide +kernel
theorem dX5_upcoming_42 : decode cX5_upcoming 42 = .ok (.iinc 3 1, 3) := by decide +kernel
theorem dX5_upcoming_45 : decode cX5_upcoming 45 = .ok (.goto (-16), 3) := by decide +kernel
theorem dX5_upcoming_48 : decode cX5_upcoming 48 = .ok (.iload_n 2, 1) := by decide +kernel
theorem dX5_upcoming_49 : decode cX5_upcoming 49 = .ok (.ireturn, 1) := by decide +kernel
set_option maxRecDepth 20000 in
theorem ggX5_goneAfter_X5_requireEffect : GoodIn wsX5_goneAfter wsX5_requireEffect := goodIn_ca (goodIn_r _ [7, 8, 9, 1, 10, 11, 12, 13, 14, 15, 16, 17, 18, 19, 20, 21, 22, 23, 24, 25, 26, 27, 28, 29, 6, 30, 200, 201, 202, 203, 204, 205, 206, 207, 208, 209, 210, 211, 212, 213, 214, 215, 216, 217, 218] (by decide +kernel) (by decide +kernel)) (goodIn_sub (fun _ h => List.mem_cons_of_mem _ (List.mem_append_left _ (List.mem_append_right _ h))) (by decide +kernel))
set_option maxRecDepth 20000 in
theorem gX5_goneAfter_X5_requireEffect : GoodIn wsX5_goneAfter (wsV RX5 79 RX5 yX5_requireEffect wsX5_requireEffect) := goodIn_app (goodIn_of _ (by decide +kernel)) ggX5_goneAfter_X5_requireEffect
set_option maxRecDepth 20000 in
theorem ggX5_goneAfter_X1_birthOf : GoodIn wsX5_goneAfter wsX1_birthOf := goodIn_ca (goodIn_r _ [34, 15, 35, 36, 37, 19, 38, 21, 39, 40, 41, 25, 42, 27, 43, 44, 204, 205, 206, 207, 208, 209, 210, 211, 212, 213, 214, 215, 216, 217, 218] (by decide +kernel) (by decide +kernel)) (goodIn_sub (fun _ h => List.mem_cons_of_mem _ (List.mem_append_right _ h)) (by decide +kernel))
set_option maxRecDepth 20000 in
theorem gX5_goneAfter_X1_birthOf : GoodIn wsX5_goneAfter (wsV RX5 165 RX1 yX1_birthOf wsX1_birthOf) := goodIn_app (goodIn_of _ (by decide +kernel)) ggX5_goneAfter_X1_birthOf
set_option maxRecDepth 20000 in
theorem ggX5_goneAfter_X1_copyFrom : GoodIn wsX5_goneAfter wsX1_copyFrom := goodIn_r _ [48, 49, 15, 50, 51, 52, 53, 54, 55, 56, 57, 58, 59, 60, 25, 61, 27, 44, 62, 63, 64, 65, 66, 67, 68, 69, 70, 71, 72, 19, 73, 21, 74, 75, 204, 205, 206, 207, 208, 209, 210, 211, 212, 213, 216, 217, 218, 214, 215] (by decide +kernel) (by decide +kernel)
set_option maxRecDepth 20000 in
theorem gX5_goneAfter_X1_copyFrom : GoodIn wsX5_goneAfter (wsV RX5 156 RX1 yX1_copyFrom wsX1_copyFrom) := goodIn_app (goodIn_of _ (by decide +kernel)) ggX5_goneAfter_X1_copyFrom
set_option maxRecDepth 20000 in
theorem ggX5_goneAfter_X1_abandonTurn : GoodIn wsX5_goneAfter wsX1_abandonTurn := goodIn_ca (goodIn_r _ [79, 51, 53, 80, 81, 82, 25, 83, 27, 84, 85, 86, 13, 87, 15, 88, 89, 90, 19, 91, 21, 22, 23, 24, 26, 39, 40, 41, 42, 43, 44, 92, 93, 94, 95, 96, 97, 98, 99, 66, 67, 68, 69, 204, 205, 206, 207, 208, 209, 210, 211, 212, 213, 216, 217, 218, 214, 215] (by decide +kernel) (by decide +kernel)) (goodIn_sub (fun _ h => List.mem_cons_of_mem _ (List.mem_append_right _ h)) (by decide +kernel))
set_option maxRecDepth 20000 in
theorem gX5_goneAfter_X1_abandonTurn : GoodIn wsX5_goneAfter (wsV RX5 159 RX1 yX1_abandonTurn wsX1_abandonTurn) := goodIn_app (goodIn_of _ (by decide +kernel)) ggX5_goneAfter_X1_abandonTurn
set_option maxRecDepth 20000 in
theorem ggX5_goneAfter_X1_hasEffectBorn : GoodIn wsX5_goneAfter wsX1_hasEffectBorn := goodIn_ca (goodIn_r _ [103, 15, 104, 105, 106, 19, 107, 21, 22, 23, 24, 25, 26, 27, 39, 40, 41, 42, 43, 44, 204, 205, 206, 207, 208, 209, 210, 211, 212, 213, 214, 215, 216, 217, 218] (by decide +kernel) (by decide +kernel)) (goodIn_sub (fun _ h => List.mem_cons_of_mem _ (List.mem_append_right _ h)) (by decide +kernel))
set_option maxRecDepth 20000 in
theorem gX5_goneAfter_X1_hasEffectBorn : GoodIn wsX5_goneAfter (wsV RX5 168 RX1 yX1_hasEffectBorn wsX1_hasEffectBorn) := goodIn_app (goodIn_of _ (by decide +kernel)) ggX5_goneAfter_X1_hasEffectBorn
set_option maxRecDepth 20000 in
theorem ggX5_goneAfter_X1_passTurn : GoodIn wsX5_goneAfter wsX1_passTurn := goodIn_ca (goodIn_r _ [111, 53, 112, 113, 114, 13, 115, 55, 57, 49, 15, 116, 117, 118, 119, 50, 120, 23, 24, 25, 26, 27, 121, 40, 41, 42, 43, 44, 122, 123, 124, 125, 126, 127, 128, 129, 52, 80, 81, 82, 83, 130, 131, 132, 133, 134, 135, 136, 137, 138, 139, 64, 140, 141, 142, 143, 19, 144, 21, 22, 39, 145, 146, 147, 148, 66, 67, 68, 69, 149, 150, 151, 152, 153, 154, 155, 156, 157, 158, 159, 160, 161, 162, 93, 94, 95, 163, 164, 165, 166, 54, 167, 168, 169, 170, 171, 172, 173, 174, 175, 176, 177, 178, 35, 36, 37, 38, 179, 180, 181, 182, 183, 184, 185, 186, 187, 63, 65, 56, 188, 189, 190, 191, 96, 97, 98, 99, 192, 193, 194, 195, 196, 197, 198, 199, 84, 85, 86, 87, 88, 89, 90, 91, 92, 204, 205, 206, 207, 208, 209, 210, 211, 212, 213, 216, 217, 218, 214, 215, 219, 220, 221, 222, 223, 224, 225, 226, 227, 228] (by decide +kernel) (by decide +kernel)) (goodIn_sub (fun _ h => List.mem_cons_of_mem _ (List.mem_append_right _ h)) (by decide +kernel))
set_option maxRecDepth 20000 in
theorem gX5_goneAfter_X1_passTurn : GoodIn wsX5_goneAfter (wsV RX5 162 RX1 yX1_passTurn wsX1_passTurn) := goodIn_app (goodIn_of _ (by decide +kernel)) ggX5_goneAfter_X1_passTurn
theorem dX5_goneAfter_0 : decode cX5_goneAfter 0 = .ok (.aload_n 0, 1) := by decide +kernel
theorem dX5_goneAfter_1 : decode cX5_goneAfter 1 = .ok (.iload_n 1, 1) := by decide +kernel
theorem dX5_goneAfter_2 : decode cX5_goneAfter 2 = .ok (.invokevirtual 79, 3) := by decide +kernel
theorem dX5_goneAfter_5 : decode cX5_goneAfter 5 = .ok (.aload_n 0, 1) := by decide +kernel
theorem dX5_goneAfter_6 : decode cX5_goneAfter 6 = .ok (.getfield 10, 3) := by decide +kernel
theorem dX5_goneAfter_9 : decode cX5_goneAfter 9 = .ok (.iload_n 1, 1) := by decide +kernel
theorem dX5_goneAfter_10 : decode cX5_goneAfter 10 = .ok (.invokevirtual 165, 3) := by decide +kernel
theorem dX5_goneAfter_13 : decode cX5_goneAfter 13 = .ok (.istore_n 2, 1) := by decide +kernel
theorem dX5_goneAfter_14 : decode cX5_goneAfter 14 = .ok (.aload_n 0, 1) := by decide +kernel
theorem dX5_goneAfter_15 : decode cX5_goneAfter 15 = .ok (.getfield 16, 3) := by decide +kernel
theorem dX5_goneAfter_18 : decode cX5_goneAfter 18 = .ok (.aload_n 0, 1) := by decide +kernel
theorem dX5_goneAfter_19 : decode cX5_goneAfter 19 = .ok (.getfield 10, 3) := by decide +kernel
theorem dX5_goneAfter_22 : decode cX5_goneAfter 22 = .ok (.invokevirtual 156, 3) := by decide +kernel
theorem dX5_goneAfter_25 : decode cX5_goneAfter 25 = .ok (.aload_n 0, 1) := by decide +kernel
theorem dX5_goneAfter_26 : decode cX5_goneAfter 26 = .ok (.getfield 16, 3) := by decide +kernel
theorem dX5_goneAfter_29 : decode cX5_goneAfter 29 = .ok (.invokevirtual 159, 3) := by decide +kernel
theorem dX5_goneAfter_32 : decode cX5_goneAfter 32 = .ok (.iconst 0, 1) := by decide +kernel
theorem dX5_goneAfter_33 : decode cX5_goneAfter 33 = .ok (.istore_n 3, 1) := by decide +kernel
theorem dX5_goneAfter_34 : decode cX5_goneAfter 34 = .ok (.iload_n 3, 1) := by decide +kernel
theorem dX5_goneAfter_35 : decode cX5_goneAfter 35 = .ok (.bipush 60, 2) := by decide +kernel
theorem dX5_goneAfter_37 : decode cX5_goneAfter 37 = .ok (.if_icmp .gt 30, 3) := by decide +kernel
theorem dX5_goneAfter_40 : decode cX5_goneAfter 40 = .ok (.aload_n 0, 1) := by decide +kernel
theorem dX5_goneAfter_41 : decode cX5_goneAfter 41 = .ok (.getfield 16, 3) := by decide +kernel
theorem dX5_goneAfter_44 : decode cX5_goneAfter 44 = .ok (.iload_n 2, 1) := by decide +kernel
theorem dX5_goneAfter_45 : decode cX5_goneAfter 45 = .ok (.invokevirtual 168, 3) := by decide +kernel
theorem dX5_goneAfter_48 : decode cX5_goneAfter 48 = .ok (.ifCond .ne 5, 3) := by decide +kernel
theorem dX5_goneAfter_51 : decode cX5_goneAfter 51 = .ok (.iload_n 3, 1) := by decide +kernel
theorem dX5_goneAfter_52 : decode cX5_goneAfter 52 = .ok (.ireturn, 1) := by decide +kernel
theorem dX5_goneAfter_53 : decode cX5_goneAfter 53 = .ok (.aload_n 0, 1) := by decide +kernel
theorem dX5_goneAfter_54 : decode cX5_goneAfter 54 = .ok (.getfield 16, 3) := by decide +kernel
theorem dX5_goneAfter_57 : decode cX5_goneAfter 57 = .ok (.invokevirtual 162, 3) := by decide +kernel
theorem dX5_goneAfter_60 : decode cX5_goneAfter 60 = .ok (.pop, 1) := by decide +kernel
theorem dX5_goneAfter_61 : decode cX5_goneAfter 61 = .ok (.iinc 3 1, 3) := by decide +kernel
theorem dX5_goneAfter_64 : decode cX5_goneAfter 64 = .ok (.goto (-30), 3) := by decide +kernel
theorem dX5_goneAfter_67 : decode cX5_goneAfter 67 = .ok (.iconst (-1), 1) := by decide +kernel
theorem dX5_goneAfter_68 : decode cX5_goneAfter 68 = .ok (.ireturn, 1) := by decide +kernel
set_option maxRecDepth 20000 in
theorem ggX5_lifeSettled_X1_copyFrom : GoodIn wsX5_lifeSettled wsX1_copyFrom := goodIn_r _ [7, 8, 9, 10, 11, 12, 13, 14, 15, 16, 17, 18, 19, 20, 21, 22, 23, 24, 25, 26, 27, 28, 29, 30, 31, 32, 33, 34, 35, 36, 37, 38, 39, 40, 148, 149, 150, 151, 152, 153, 154, 155, 156, 157, 158, 159, 160, 161, 162] (by decide +kernel) (by decide +kernel)
set_option maxRecDepth 20000 in
theorem gX5_lifeSettled_X1_copyFrom : GoodIn wsX5_lifeSettled (wsV RX5 156 RX1 yX1_copyFrom wsX1_copyFrom) := goodIn_app (goodIn_of _ (by decide +kernel)) ggX5_lifeSettled_X1_copyFrom
set_option maxRecDepth 20000 in
theorem ggX5_lifeSettled_X1_settleStack : GoodIn wsX5_lifeSettled wsX1_settleStack := goodIn_ca (goodIn_r _ [44, 11, 13, 45, 46, 47, 21, 48, 23, 49, 50, 51, 6, 52, 9, 53, 54, 27, 55, 56, 57, 58, 59, 60, 61, 62, 63, 64, 24, 65, 66, 67, 68, 69, 70, 71, 72, 29, 30, 31, 32, 73, 74, 75, 76, 8, 77, 78, 79, 36, 80, 38, 81, 82, 83, 84, 85, 86, 87, 26, 28, 16, 88, 89, 90, 91, 92, 93, 94, 95, 96, 97, 98, 99, 100, 101, 102, 103, 104, 105, 106, 107, 108, 109, 110, 111, 112, 39, 113, 114, 115, 116, 117, 118, 119, 120, 121, 122, 123, 124, 125, 126, 127, 128, 129, 130, 131, 132, 133, 134, 135, 148, 149, 150, 151, 152, 153, 154, 155, 156, 157, 158, 159, 160, 161, 162, 163, 164, 165, 166, 167, 168, 169, 170, 171, 172] (by decide +kernel) (by decide +kernel)) (goodIn_sub (fun _ h => List.mem_cons_of_mem _ (List.mem_append_right _ h)) (by decide +kernel))
set_option maxRecDepth 20000 in
theorem gX5_lifeSettled_X1_settleStack : GoodIn wsX5_lifeSettled (wsV RX5 142 RX1 yX1_settleStack wsX1_settleStack) := goodIn_app (goodIn_of _ (by decide +kernel)) ggX5_lifeSettled_X1_settleStack
set_option maxRecDepth 20000 in
theorem ggX5_lifeSettled_X1_lives : GoodIn wsX5_lifeSettled wsX1_lives := goodIn_ca (goodIn_r _ [139, 140, 141, 142, 6, 143, 8, 45, 46, 47, 21, 48, 23, 60, 61, 62, 63, 64, 24, 148, 149, 150, 151, 152, 153, 154, 155, 156, 157, 158, 159, 160] (by decide +kernel) (by decide +kernel)) (goodIn_sub (fun _ h => List.mem_cons_of_mem _ (List.mem_append_right _ h)) (by decide +kernel))
set_option maxRecDepth 20000 in
theorem gX5_lifeSettled_X1_lives : GoodIn wsX5_lifeSettled (wsV RX5 171 RX1 yX1_lives wsX1_lives) := goodIn_app (goodIn_of _ (by decide +kernel)) ggX5_lifeSettled_X1_lives
theorem dX5_lifeSettled_0 : decode cX5_lifeSettled 0 = .ok (.aload_n 0, 1) := by decide +kernel
theorem dX5_lifeSettled_1 : decode cX5_lifeSettled 1 = .ok (.getfield 16, 3) := by decide +kernel
theorem dX5_lifeSettled_4 : decode cX5_lifeSettled 4 = .ok (.aload_n 0, 1) := by decide +kernel
theorem dX5_lifeSettled_5 : decode cX5_lifeSettled 5 = .ok (.getfield 10, 3) := by decide +kernel
theorem dX5_lifeSettled_8 : decode cX5_lifeSettled 8 = .ok (.invokevirtual 156, 3) := by decide +kernel
theorem dX5_lifeSettled_11 : decode cX5_lifeSettled 11 = .ok (.aload_n 0, 1) := by decide +kernel
theorem dX5_lifeSettled_12 : decode cX5_lifeSettled 12 = .ok (.getfield 16, 3) := by decide +kernel
theorem dX5_lifeSettled_15 : decode cX5_lifeSettled 15 = .ok (.invokevirtual 142, 3) := by decide +kernel
theorem dX5_lifeSettled_18 : decode cX5_lifeSettled 18 = .ok (.pop, 1) := by decide +kernel
theorem dX5_lifeSettled_19 : decode cX5_lifeSettled 19 = .ok (.aload_n 0, 1) := by decide +kernel
theorem dX5_lifeSettled_20 : decode cX5_lifeSettled 20 = .ok (.getfield 16, 3) := by decide +kernel
theorem dX5_lifeSettled_23 : decode cX5_lifeSettled 23 = .ok (.invokevirtual 171, 3) := by decide +kernel
theorem dX5_lifeSettled_26 : decode cX5_lifeSettled 26 = .ok (.ireturn, 1) := by decide +kernel
set_option maxRecDepth 20000 in
theorem ggX5_vigor_X1_firstLives : GoodIn wsX5_vigor wsX1_firstLives := goodIn_ca (goodIn_r _ [6, 7, 8, 9, 5, 10, 11, 12, 13, 14, 15, 16, 17, 18, 19, 20, 21, 22, 23, 32, 33, 34, 35, 36, 37, 38, 39, 40, 41, 42, 43, 44] (by decide +kernel) (by decide +kernel)) (goodIn_sub (fun _ h => List.mem_cons_of_mem _ (List.mem_append_right _ h)) (by decide +kernel))
set_option maxRecDepth 20000 in
theorem gX5_vigor_X1_firstLives : GoodIn wsX5_vigor (wsV RX5 174 RX1 yX1_firstLives wsX1_firstLives) := goodIn_app (goodIn_of _ (by decide +kernel)) ggX5_vigor_X1_firstLives
set_option maxRecDepth 20000 in
theorem ggX5_vigor_X1_lives : GoodIn wsX5_vigor wsX1_lives := goodIn_ca (goodIn_r _ [27, 7, 8, 9, 5, 10, 11, 12, 13, 14, 15, 16, 17, 18, 19, 20, 21, 22, 23, 32, 33, 34, 35, 36, 37, 38, 39, 40, 41, 42, 43, 44] (by decide +kernel) (by decide +kernel)) (goodIn_sub (fun _ h => List.mem_cons_of_mem _ (List.mem_append_right _ h)) (by decide +kernel))
set_option maxRecDepth 20000 in
theorem gX5_vigor_X1_lives : GoodIn wsX5_vigor (wsV RX5 171 RX1 yX1_lives wsX1_lives) := goodIn_app (goodIn_of _ (by decide +kernel)) ggX5_vigor_X1_lives
theorem dX5_vigor_0 : decode cX5_vigor 0 = .ok (.aload_n 0, 1) := by decide +kernel
theorem dX5_vigor_1 : decode cX5_vigor 1 = .ok (.getfield 10, 3) := by decide +kernel
theorem dX5_vigor_4 : decode cX5_vigor 4 = .ok (.invokevirtual 174, 3) := by decide +kernel
theorem dX5_vigor_7 : decode cX5_vigor 7 = .ok (.i2d, 1) := by decide +kernel
theorem dX5_vigor_8 : decode cX5_vigor 8 = .ok (.dstore_n 1, 1) := by decide +kernel
theorem dX5_vigor_9 : decode cX5_vigor 9 = .ok (.dload_n 1, 1) := by decide +kernel
theorem dX5_vigor_10 : decode cX5_vigor 10 = .ok (.dconst 0, 1) := by decide +kernel
theorem dX5_vigor_11 : decode cX5_vigor 11 = .ok (.dcmp .l, 1) := by decide +kernel
theorem dX5_vigor_12 : decode cX5_vigor 12 = .ok (.ifCond .le 16, 3) := by decide +kernel
theorem dX5_vigor_15 : decode cX5_vigor 15 = .ok (.aload_n 0, 1) := by decide +kernel
theorem dX5_vigor_16 : decode cX5_vigor 16 = .ok (.getfield 10, 3) := by decide +kernel
theorem dX5_vigor_19 : decode cX5_vigor 19 = .ok (.invokevirtual 171, 3) := by decide +kernel
theorem dX5_vigor_22 : decode cX5_vigor 22 = .ok (.i2d, 1) := by decide +kernel
theorem dX5_vigor_23 : decode cX5_vigor 23 = .ok (.dload_n 1, 1) := by decide +kernel
theorem dX5_vigor_24 : decode cX5_vigor 24 = .ok (.ddiv, 1) := by decide +kernel
theorem dX5_vigor_25 : decode cX5_vigor 25 = .ok (.goto 4, 3) := by decide +kernel
theorem dX5_vigor_28 : decode cX5_vigor 28 = .ok (.dconst 0, 1) := by decide +kernel
theorem dX5_vigor_29 : decode cX5_vigor 29 = .ok (.dreturn, 1) := by decide +kernel
set_option maxRecDepth 20000 in
theorem ggX5_append_X5_requireWithin : GoodIn wsX5_append wsX5_requireWithin := goodIn_ca (goodIn_r _ [5, 6, 7, 8, 9, 4, 10] (by decide +kernel) (by decide +kernel)) (goodIn_sub (fun _ h => List.mem_cons_of_mem _ (List.mem_append_left _ (List.mem_append_left _ (List.mem_append_right _ h)))) (by decide +kernel))
set_option maxRecDepth 20000 in
theorem gX5_append_X5_requireWithin : GoodIn wsX5_append (va_wsS RX5 65 yX5_requireWithin wsX5_requireWithin) := goodIn_app (goodIn_of _ (by decide +kernel)) ggX5_append_X5_requireWithin
set_option maxRecDepth 20000 in
theorem ggX5_append_X3_length : GoodIn wsX5_append wsX3_length := goodIn_r _ [15, 16, 17, 18, 19, 20, 21, 22, 63, 64, 65, 66, 67] (by decide +kernel) (by decide +kernel)
set_option maxRecDepth 20000 in
theorem gX5_append_X3_length : GoodIn wsX5_append (wsV RX5 177 RX3 yX3_length wsX3_length) := goodIn_app (goodIn_of _ (by decide +kernel)) ggX5_append_X3_length
set_option maxRecDepth 20000 in
theorem ggX5_append_X5_requirePossible : GoodIn wsX5_append wsX5_requirePossible := goodIn_ca (goodIn_r _ [25, 26, 27] (by decide +kernel) (by decide +kernel)) (goodIn_sub (fun _ h => List.mem_cons_of_mem _ (List.mem_append_left _ (List.mem_append_right _ h))) (by decide +kernel))
set_option maxRecDepth 20000 in
theorem gX5_append_X5_requirePossible : GoodIn wsX5_append (va_wsS RX5 103 yX5_requirePossible wsX5_requirePossible) := goodIn_app (goodIn_of _ (by decide +kernel)) ggX5_append_X5_requirePossible
set_option maxRecDepth 20000 in
theorem ggX5_append_X3_lengthen : GoodIn wsX5_append wsX3_lengthen := goodIn_ca (goodIn_r _ [31, 16, 17, 18, 19, 20, 21, 22, 32, 33, 34, 35, 36, 37, 38, 39, 40, 41, 42, 43, 44, 45, 46, 47, 48, 49, 50, 51, 52, 53, 54, 55, 56, 57, 58, 63, 64, 65, 66, 67, 68, 69, 70, 71, 72, 73, 74, 75, 76, 77] (by decide +kernel) (by decide +kernel)) (goodIn_sub (fun _ h => List.mem_cons_of_mem _ (List.mem_append_right _ h)) (by decide +kernel))
set_option maxRecDepth 20000 in
theorem gX5_append_X3_lengthen : GoodIn wsX5_append (wsV RX5 180 RX3 yX3_lengthen wsX3_lengthen) := goodIn_app (goodIn_of _ (by decide +kernel)) ggX5_append_X3_lengthen
theorem dX5_append_0 : decode cX5_append 0 = .ok (.iload_n 1, 1) := by decide +kernel
theorem dX5_append_1 : decode cX5_append 1 = .ok (.iconst 0, 1) := by decide +kernel
theorem dX5_append_2 : decode cX5_append 2 = .ok (.bipush 127, 2) := by decide +kernel
theorem dX5_append_4 : decode cX5_append 4 = .ok (.invokestatic 65, 3) := by decide +kernel
theorem dX5_append_7 : decode cX5_append 7 = .ok (.aload_n 0, 1) := by decide +kernel
theorem dX5_append_8 : decode cX5_append 8 = .ok (.getfield 29, 3) := by decide +kernel
theorem dX5_append_11 : decode cX5_append 11 = .ok (.invokevirtual 177, 3) := by decide +kernel
theorem dX5_append_14 : decode cX5_append 14 = .ok (.bipush 120, 2) := by decide +kernel
theorem dX5_append_16 : decode cX5_append 16 = .ok (.if_icmp .ge 7, 3) := by decide +kernel
theorem dX5_append_19 : decode cX5_append 19 = .ok (.iconst 1, 1) := by decide +kernel
theorem dX5_append_20 : decode cX5_append 20 = .ok (.goto 4, 3) := by decide +kernel
theorem dX5_append_23 : decode cX5_append 23 = .ok (.iconst 0, 1) := by decide +kernel
theorem dX5_append_24 : decode cX5_append 24 = .ok (.invokestatic 103, 3) := by decide +kernel
theorem dX5_append_27 : decode cX5_append 27 = .ok (.aload_n 0, 1) := by decide +kernel
theorem dX5_append_28 : decode cX5_append 28 = .ok (.getfield 29, 3) := by decide +kernel
theorem dX5_append_31 : decode cX5_append 31 = .ok (.iload_n 1, 1) := by decide +kernel
theorem dX5_append_32 : decode cX5_append 32 = .ok (.invokevirtual 180, 3) := by decide +kernel
theorem dX5_append_35 : decode cX5_append 35 = .ok (.ireturn, 1) := by decide +kernel
set_option maxRecDepth 20000 in
theorem ggX5_clearText_X3_wipe : GoodIn wsX5_clearText wsX3_wipe := goodIn_r _ [6, 7, 8, 9, 10, 11, 12, 13, 14, 15, 16, 17, 22, 23, 24, 25, 26] (by decide +kernel) (by decide +kernel)
set_option maxRecDepth 20000 in
theorem gX5_clearText_X3_wipe : GoodIn wsX5_clearText (wsV RX5 183 RX3 yX3_wipe wsX3_wipe) := goodIn_app (goodIn_of _ (by decide +kernel)) ggX5_clearText_X3_wipe
theorem dX5_clearText_0 : decode cX5_clearText 0 = .ok (.aload_n 0, 1) := by decide +kernel
theorem dX5_clearText_1 : decode cX5_clearText 1 = .ok (.getfield 29, 3) := by decide +kernel
theorem dX5_clearText_4 : decode cX5_clearText 4 = .ok (.invokevirtual 183, 3) := by decide +kernel
theorem dX5_clearText_7 : decode cX5_clearText 7 = .ok (.ireturn, 1) := by decide +kernel
set_option maxRecDepth 20000 in
theorem ggX5_carryOut_X3_read : GoodIn wsX5_carryOut wsX3_read := goodIn_ca (goodIn_r _ [9, 10, 11, 12, 13, 14, 15, 16, 17, 18, 19, 20, 21, 22, 23, 24, 25, 26, 27, 28, 29, 8, 30, 31, 32, 33, 34, 35, 36, 37, 38, 39, 40, 41, 42, 43, 44, 45, 46, 47, 48, 49, 50, 51, 52, 53, 54, 55, 56, 57, 58, 59, 60, 61, 62, 63, 64, 65, 66, 67, 68, 314, 315, 316, 317, 318, 319, 320, 321, 322, 323, 324, 325, 326, 327, 328] (by decide +kernel) (by decide +kernel)) (goodIn_sub (fun _ h => List.mem_cons_of_mem _ (List.mem_append_right _ h)) (by decide +kernel))
set_option maxRecDepth 20000 in
theorem gX5_carryOut_X3_read : GoodIn wsX5_carryOut (wsV RX5 186 RX3 yX3_read wsX3_read) := goodIn_app (goodIn_of _ (by decide +kernel)) ggX5_carryOut_X3_read
set_option maxRecDepth 20000 in
theorem ggX5_carryOut_X1_copyFrom : GoodIn wsX5_carryOut wsX1_copyFrom := goodIn_r _ [73, 74, 75, 76, 77, 78, 79, 80, 81, 82, 83, 84, 85, 86, 15, 87, 17, 27, 88, 89, 90, 91, 48, 49, 50, 51, 92, 93, 94, 95, 96, 97, 98, 99, 329, 330, 331, 332, 333, 334, 335, 336, 337, 338, 316, 317, 318, 339, 340] (by decide +kernel) (by decide +kernel)
set_option maxRecDepth 20000 in
theorem gX5_carryOut_X1_copyFrom : GoodIn wsX5_carryOut (wsV RX5 156 RX1 yX1_copyFrom wsX1_copyFrom) := goodIn_app (goodIn_of _ (by decide +kernel)) ggX5_carryOut_X1_copyFrom
set_option maxRecDepth 20000 in
theorem ggX5_carryOut_X3_commandCount : GoodIn wsX5_carryOut wsX3_commandCount := goodIn_r _ [103, 10, 18, 19, 20, 15, 21, 17, 314, 315, 316, 317, 318] (by decide +kernel) (by decide +kernel)
set_option maxRecDepth 20000 in
theorem gX5_carryOut_X3_commandCount : GoodIn wsX5_carryOut (wsV RX5 189 RX3 yX3_commandCount wsX3_commandCount) := goodIn_app (goodIn_of _ (by decide +kernel)) ggX5_carryOut_X3_commandCount
set_option maxRecDepth 20000 in
theorem ggX5_carryOut_X3_perform : GoodIn wsX5_carryOut wsX3_perform := goodIn_ca (goodIn_r _ [107, 10, 22, 23, 24, 15, 25, 17, 26, 27, 108, 109, 8, 110, 111, 112, 113, 72, 114, 79, 115, 116, 117, 118, 77, 119, 19, 20, 21, 120, 121, 122, 123, 81, 124, 125, 126, 127, 74, 128, 129, 130, 131, 132, 133, 134, 135, 76, 136, 137, 138, 139, 140, 141, 142, 143, 144, 145, 146, 147, 148, 149, 150, 151, 152, 153, 154, 155, 156, 157, 158, 159, 160, 161, 162, 163, 164, 165, 166, 167, 168, 169, 170, 171, 172, 173, 174, 175, 176, 177, 178, 83, 75, 179, 180, 181, 182, 183, 184, 185, 186, 78, 187, 13, 14, 16, 188, 189, 190, 191, 192, 193, 194, 195, 196, 197, 90, 198, 199, 200, 201, 95, 202, 97, 203, 204, 205, 45, 46, 47, 48, 49, 50, 51, 52, 53, 54, 55, 56, 57, 58, 59, 60, 61, 62, 63, 64, 206, 66, 67, 68, 207, 208, 209, 210, 80, 211, 212, 213, 214, 215, 216, 217, 218, 219, 220, 221, 222, 223, 224, 225, 226, 227, 228, 229, 230, 231, 89, 91, 82, 232, 233, 234, 235, 236, 237, 238, 239, 240, 241, 242, 243, 244, 245, 246, 247, 248, 249, 250, 251, 252, 253, 254, 255, 256, 257, 258, 259, 260, 261, 262, 263, 264, 265, 266, 267, 268, 269, 270, 271, 272, 273, 274, 275, 276, 277, 278, 279, 280, 281, 282, 283, 284, 285, 286, 98, 287, 288, 289, 290, 291, 292, 293, 314, 315, 316, 317, 318, 329, 330, 331, 332, 333, 334, 335, 336, 337, 338, 339, 340, 319, 320, 321, 322, 323, 324, 325, 326, 327, 328] (by decide +kernel) (by decide +kernel)) (goodIn_sub (fun _ h => List.mem_cons_of_mem _ (List.mem_append_right _ h)) (by decide +kernel))
set_option maxRecDepth 20000 in
theorem gX5_carryOut_X3_perform : GoodIn wsX5_carryOut (wsV RX5 192 RX3 yX3_perform wsX3_perform) := goodIn_app (goodIn_of _ (by decide +kernel)) ggX5_carryOut_X3_perform
set_option maxRecDepth 20000 in
theorem ggX5_carryOut_X2_save : GoodIn wsX5_carryOut wsX2_save := goodIn_r _ [298, 299, 300, 301, 302, 303, 297, 304, 305, 306, 307, 308, 309, 70, 71, 72, 73, 74, 75, 76, 77, 78, 79, 80, 81, 82, 83, 84, 85, 86, 15, 87, 17, 27, 88, 89, 90, 91, 48, 49, 50, 51, 92, 93, 94, 95, 96, 97, 98, 99, 341, 342, 329, 330, 331, 332, 333, 334, 335, 336, 337, 338, 316, 317, 318, 339, 340] (by decide +kernel) (by decide +kernel)
set_option maxRecDepth 20000 in
theorem gX5_carryOut_X2_save : GoodIn wsX5_carryOut (wsV RX5 53 RX2 yX2_save wsX2_save) := goodIn_app (goodIn_of _ (by decide +kernel)) ggX5_carryOut_X2_save
theorem dX5_carryOut_0 : decode cX5_carryOut 0 = .ok (.aload_n 0, 1) := by decide +kernel
theorem dX5_carryOut_1 : decode cX5_carryOut 1 = .ok (.getfield 29, 3) := by decide +kernel
theorem dX5_carryOut_4 : decode cX5_carryOut 4 = .ok (.invokevirtual 186, 3) := by decide +kernel
theorem dX5_carryOut_7 : decode cX5_carryOut 7 = .ok (.istore_n 1, 1) := by decide +kernel
theorem dX5_carryOut_8 : decode cX5_carryOut 8 = .ok (.iload_n 1, 1) := by decide +kernel
theorem dX5_carryOut_9 : decode cX5_carryOut 9 = .ok (.iconst (-1), 1) := by decide +kernel
theorem dX5_carryOut_10 : decode cX5_carryOut 10 = .ok (.if_icmp .eq 8, 3) := by decide +kernel
theorem dX5_carryOut_13 : decode cX5_carryOut 13 = .ok (.bipush (-10), 2) := by decide +kernel
theorem dX5_carryOut_15 : decode cX5_carryOut 15 = .ok (.iload_n 1, 1) := by decide +kernel
theorem dX5_carryOut_16 : decode cX5_carryOut 16 = .ok (.isub, 1) := by decide +kernel
theorem dX5_carryOut_17 : decode cX5_carryOut 17 = .ok (.ireturn, 1) := by decide +kernel
theorem dX5_carryOut_18 : decode cX5_carryOut 18 = .ok (.aload_n 0, 1) := by decide +kernel
theorem dX5_carryOut_19 : decode cX5_carryOut 19 = .ok (.getfield 16, 3) := by decide +kernel
theorem dX5_carryOut_22 : decode cX5_carryOut 22 = .ok (.aload_n 0, 1) := by decide +kernel
theorem dX5_carryOut_23 : decode cX5_carryOut 23 = .ok (.getfield 10, 3) := by decide +kernel
theorem dX5_carryOut_26 : decode cX5_carryOut 26 = .ok (.invokevirtual 156, 3) := by decide +kernel
theorem dX5_carryOut_29 : decode cX5_carryOut 29 = .ok (.iconst 0, 1) := by decide +kernel
theorem dX5_carryOut_30 : decode cX5_carryOut 30 = .ok (.istore_n 2, 1) := by decide +kernel
theorem dX5_carryOut_31 : decode cX5_carryOut 31 = .ok (.iload_n 2, 1) := by decide +kernel
theorem dX5_carryOut_32 : decode cX5_carryOut 32 = .ok (.aload_n 0, 1) := by decide +kernel
theorem dX5_carryOut_33 : decode cX5_carryOut 33 = .ok (.getfield 29, 3) := by decide +kernel
theorem dX5_carryOut_36 : decode cX5_carryOut 36 = .ok (.invokevirtual 189, 3) := by decide +kernel
theorem dX5_carryOut_39 : decode cX5_carryOut 39 = .ok (.if_icmp .ge 30, 3) := by decide +kernel
theorem dX5_carryOut_42 : decode cX5_carryOut 42 = .ok (.aload_n 0, 1) := by decide +kernel
theorem dX5_carryOut_43 : decode cX5_carryOut 43 = .ok (.getfield 29, 3) := by decide +kernel
theorem dX5_carryOut_46 : decode cX5_carryOut 46 = .ok (.iload_n 2, 1) := by decide +kernel
theorem dX5_carryOut_47 : decode cX5_carryOut 47 = .ok (.aload_n 0, 1) := by decide +kernel
theorem dX5_carryOut_48 : decode cX5_carryOut 48 = .ok (.getfield 16, 3) := by decide +kernel
theorem dX5_carryOut_51 : decode cX5_carryOut 51 = .ok (.invokevirtual 192, 3) := by decide +kernel
theorem dX5_carryOut_54 : decode cX5_carryOut 54 = .ok (.ifCond .ne 9, 3) := by decide +kernel
theorem dX5_carryOut_57 : decode cX5_carryOut 57 = .ok (.sipush (-1000), 3) := by decide +kernel
theorem dX5_carryOut_60 : decode cX5_carryOut 60 = .ok (.iload_n 2, 1) := by decide +kernel
theorem dX5_carryOut_61 : decode cX5_carryOut 61 = .ok (.isub, 1) := by decide +kernel
theorem dX5_carryOut_62 : decode cX5_carryOut 62 = .ok (.ireturn, 1) := by decide +kernel
theorem dX5_carryOut_63 : decode cX5_carryOut 63 = .ok (.iinc 2 1, 3) := by decide +kernel
theorem dX5_carryOut_66 : decode cX5_carryOut 66 = .ok (.goto (-35), 3) := by decide +kernel
theorem dX5_carryOut_69 : decode cX5_carryOut 69 = .ok (.aload_n 0, 1) := by decide +kernel
theorem dX5_carryOut_70 : decode cX5_carryOut 70 = .ok (.getfield 22, 3) := by decide +kernel
theorem dX5_carryOut_73 : decode cX5_carryOut 73 = .ok (.aload_n 0, 1) := by decide +kernel
theorem dX5_carryOut_74 : decode cX5_carryOut 74 = .ok (.getfield 10, 3) := by decide +kernel
theorem dX5_carryOut_77 : decode cX5_carryOut 77 = .ok (.invokevirtual 53, 3) := by decide +kernel
theorem dX5_carryOut_80 : decode cX5_carryOut 80 = .ok (.aload_n 0, 1) := by decide +kernel
theorem dX5_carryOut_81 : decode cX5_carryOut 81 = .ok (.getfield 10, 3) := by decide +kernel
theorem dX5_carryOut_84 : decode cX5_carryOut 84 = .ok (.aload_n 0, 1) := by decide +kernel
theorem dX5_carryOut_85 : decode cX5_carryOut 85 = .ok (.getfield 16, 3) := by decide +kernel
theorem dX5_carryOut_88 : decode cX5_carryOut 88 = .ok (.invokevirtual 156, 3) := by decide +kernel
theorem dX5_carryOut_91 : decode cX5_carryOut 91 = .ok (.aload_n 0, 1) := by decide +kernel
theorem dX5_carryOut_92 : decode cX5_carryOut 92 = .ok (.getfield 29, 3) := by decide +kernel
theorem dX5_carryOut_95 : decode cX5_carryOut 95 = .ok (.invokevirtual 189, 3) := by decide +kernel
theorem dX5_carryOut_98 : decode cX5_carryOut 98 = .ok (.ireturn, 1) := by decide +kernel
set_option maxRecDepth 20000 in
theorem ggX5_undo_X2_size : GoodIn wsX5_undo wsX2_size := goodIn_r _ [7, 8, 66, 67] (by decide +kernel) (by decide +kernel)
set_option maxRecDepth 20000 in
theorem gX5_undo_X2_size : GoodIn wsX5_undo (wsV RX5 196 RX2 yX2_size wsX2_size) := goodIn_app (goodIn_of _ (by decide +kernel)) ggX5_undo_X2_size
set_option maxRecDepth 20000 in
theorem ggX5_undo_X5_requirePossible : GoodIn wsX5_undo wsX5_requirePossible := goodIn_ca (goodIn_r _ [12, 13, 14] (by decide +kernel) (by decide +kernel)) (goodIn_sub (fun _ h => List.mem_cons_of_mem _ (List.mem_append_right _ h)) (by decide +kernel))
set_option maxRecDepth 20000 in
theorem gX5_undo_X5_requirePossible : GoodIn wsX5_undo (va_wsS RX5 103 yX5_requirePossible wsX5_requirePossible) := goodIn_app (goodIn_of _ (by decide +kernel)) ggX5_undo_X5_requirePossible
set_option maxRecDepth 20000 in
theorem ggX5_undo_X2_restore : GoodIn wsX5_undo wsX2_restore := goodIn_r _ [18, 8, 19, 20, 21, 6, 22, 23, 24, 25, 26, 27, 28, 29, 30, 31, 32, 33, 34, 35, 36, 37, 38, 39, 40, 41, 42, 43, 44, 45, 46, 47, 48, 49, 50, 51, 52, 53, 54, 55, 56, 57, 58, 59, 60, 61, 66, 67, 68, 69, 70, 71, 72, 73, 74, 75, 76, 77, 78, 79, 80, 81, 82] (by decide +kernel) (by decide +kernel)
set_option maxRecDepth 20000 in
theorem gX5_undo_X2_restore : GoodIn wsX5_undo (wsV RX5 199 RX2 yX2_restore wsX2_restore) := goodIn_app (goodIn_of _ (by decide +kernel)) ggX5_undo_X2_restore
theorem dX5_undo_0 : decode cX5_undo 0 = .ok (.aload_n 0, 1) := by decide +kernel
theorem dX5_undo_1 : decode cX5_undo 1 = .ok (.getfield 22, 3) := by decide +kernel
theorem dX5_undo_4 : decode cX5_undo 4 = .ok (.invokevirtual 196, 3) := by decide +kernel
theorem dX5_undo_7 : decode cX5_undo 7 = .ok (.ifCond .le 7, 3) := by decide +kernel
theorem dX5_undo_10 : decode cX5_undo 10 = .ok (.iconst 1, 1) := by decide +kernel
theorem dX5_undo_11 : decode cX5_undo 11 = .ok (.goto 4, 3) := by decide +kernel
theorem dX5_undo_14 : decode cX5_undo 14 = .ok (.iconst 0, 1) := by decide +kernel
theorem dX5_undo_15 : decode cX5_undo 15 = .ok (.invokestatic 103, 3) := by decide +kernel
theorem dX5_undo_18 : decode cX5_undo 18 = .ok (.aload_n 0, 1) := by decide +kernel
theorem dX5_undo_19 : decode cX5_undo 19 = .ok (.getfield 22, 3) := by decide +kernel
theorem dX5_undo_22 : decode cX5_undo 22 = .ok (.aload_n 0, 1) := by decide +kernel
theorem dX5_undo_23 : decode cX5_undo 23 = .ok (.getfield 10, 3) := by decide +kernel
theorem dX5_undo_26 : decode cX5_undo 26 = .ok (.invokevirtual 199, 3) := by decide +kernel
theorem dX5_undo_29 : decode cX5_undo 29 = .ok (.aload_n 0, 1) := by decide +kernel
theorem dX5_undo_30 : decode cX5_undo 30 = .ok (.getfield 22, 3) := by decide +kernel
theorem dX5_undo_33 : decode cX5_undo 33 = .ok (.invokevirtual 196, 3) := by decide +kernel
theorem dX5_undo_36 : decode cX5_undo 36 = .ok (.ireturn, 1) := by decide +kernel
set_option maxRecDepth 20000 in
theorem ggX5_digest_X3_length : GoodIn wsX5_digest wsX3_length := goodIn_r _ [10, 11, 12, 13, 14, 15, 16, 17, 146, 147, 148, 149, 150] (by decide +kernel) (by decide +kernel)
set_option maxRecDepth 20000 in
theorem gX5_digest_X3_length : GoodIn wsX5_digest (wsV RX5 177 RX3 yX3_length wsX3_length) := goodIn_app (goodIn_of _ (by decide +kernel)) ggX5_digest_X3_length
set_option maxRecDepth 20000 in
theorem ggX5_digest_X1_number : GoodIn wsX5_digest wsX1_number := goodIn_ca (goodIn_r _ [22, 23, 24, 25, 26, 27, 28, 29, 30, 13, 14, 15, 16, 17, 31, 32, 33, 21, 34, 35, 36, 37, 38, 39, 40, 41, 42, 43, 44, 45, 46, 47, 48, 49, 50, 51, 52, 53, 54, 55, 56, 151, 152, 153, 154, 155, 156, 157, 158, 159, 160, 148, 149, 150, 161, 162] (by decide +kernel) (by decide +kernel)) (goodIn_sub (fun _ h => List.mem_cons_of_mem _ (List.mem_append_right _ h)) (by decide +kernel))
set_option maxRecDepth 20000 in
theorem gX5_digest_X1_number : GoodIn wsX5_digest (wsV RX5 85 RX1 yX1_number wsX1_number) := goodIn_app (goodIn_of _ (by decide +kernel)) ggX5_digest_X1_number
set_option maxRecDepth 20000 in
theorem ggX5_digest_X5_withFighters : GoodIn wsX5_digest wsX5_withFighters := goodIn_ca (goodIn_r _ [61, 4, 3, 62, 63, 64, 21, 65, 23, 30, 13, 14, 15, 16, 17, 66, 67, 68, 69, 24, 39, 40, 41, 42, 43, 44, 70, 71, 72, 73, 74, 75, 76, 77, 78, 79, 80, 48, 81, 50, 51, 82, 83, 84, 85, 86, 87, 88, 89, 90, 91, 92, 93, 94, 95, 96, 97, 98, 99, 142, 143, 144, 145, 151, 152, 153, 154, 155, 156, 157, 158, 159, 160, 148, 149, 150, 161, 162] (by decide +kernel) (by decide +kernel)) (goodIn_sub (fun _ h => List.mem_cons_of_mem _ (List.mem_append_right _ h)) (by decide +kernel))
set_option maxRecDepth 20000 in
theorem gX5_digest_X5_withFighters : GoodIn wsX5_digest (wsV RX5 206 RX5 yX5_withFighters wsX5_withFighters) := goodIn_app (goodIn_of _ (by decide +kernel)) ggX5_digest_X5_withFighters
set_option maxRecDepth 20000 in
theorem ggX5_digest_X5_withEffects : GoodIn wsX5_digest wsX5_withEffects := goodIn_ca (goodIn_r _ [103, 4, 3, 104, 105, 106, 21, 107, 24, 45, 46, 47, 48, 49, 50, 51, 13, 14, 15, 16, 17, 108, 109, 110, 111, 112, 113, 114, 115, 82, 40, 41, 42, 43, 44, 142, 143, 144, 145, 151, 152, 153, 154, 155, 156, 157, 158, 159, 160, 161, 162, 148, 149, 150] (by decide +kernel) (by decide +kernel)) (goodIn_sub (fun _ h => List.mem_cons_of_mem _ (List.mem_append_right _ h)) (by decide +kernel))
set_option maxRecDepth 20000 in
theorem gX5_digest_X5_withEffects : GoodIn wsX5_digest (wsV RX5 210 RX5 yX5_withEffects wsX5_withEffects) := goodIn_app (goodIn_of _ (by decide +kernel)) ggX5_digest_X5_withEffects
set_option maxRecDepth 20000 in
theorem ggX5_digest_X1_listLength : GoodIn wsX5_digest wsX1_listLength := goodIn_r _ [119, 87, 30, 13, 14, 15, 16, 17, 151, 152, 153, 154, 155, 156, 157, 158, 159, 160, 148, 149, 150] (by decide +kernel) (by decide +kernel)
set_option maxRecDepth 20000 in
theorem gX5_digest_X1_listLength : GoodIn wsX5_digest (wsV RX5 88 RX1 yX1_listLength wsX1_listLength) := goodIn_app (goodIn_of _ (by decide +kernel)) ggX5_digest_X1_listLength
set_option maxRecDepth 20000 in
theorem ggX5_digest_X1_listed : GoodIn wsX5_digest wsX1_listed := goodIn_ca (goodIn_r _ [123, 87, 39, 40, 41, 15, 42, 17, 43, 44, 151, 152, 153, 154, 155, 156, 157, 158, 159, 160, 148, 149, 150] (by decide +kernel) (by decide +kernel)) (goodIn_sub (fun _ h => List.mem_cons_of_mem _ (List.mem_append_right _ h)) (by decide +kernel))
set_option maxRecDepth 20000 in
theorem gX5_digest_X1_listed : GoodIn wsX5_digest (wsV RX5 96 RX1 yX1_listed wsX1_listed) := goodIn_app (goodIn_of _ (by decide +kernel)) ggX5_digest_X1_listed
set_option maxRecDepth 20000 in
theorem ggX5_digest_X5_withStack : GoodIn wsX5_digest wsX5_withStack := goodIn_ca (goodIn_r _ [127, 4, 3, 128, 129, 130, 21, 131, 27, 30, 13, 14, 15, 16, 17, 132, 133, 134, 135, 39, 40, 41, 42, 43, 44, 142, 143, 144, 145, 151, 152, 153, 154, 155, 156, 157, 158, 159, 160, 148, 149, 150] (by decide +kernel) (by decide +kernel)) (goodIn_sub (fun _ h => List.mem_cons_of_mem _ (List.mem_append_right _ h)) (by decide +kernel))
set_option maxRecDepth 20000 in
theorem gX5_digest_X5_withStack : GoodIn wsX5_digest (wsV RX5 213 RX5 yX5_withStack wsX5_withStack) := goodIn_app (goodIn_of _ (by decide +kernel)) ggX5_digest_X5_withStack
set_option maxRecDepth 20000 in
theorem ggX5_digest_X2_size : GoodIn wsX5_digest wsX2_size := goodIn_r _ [140, 141, 163, 164] (by decide +kernel) (by decide +kernel)
set_option maxRecDepth 20000 in
theorem gX5_digest_X2_size : GoodIn wsX5_digest (wsV RX5 196 RX2 yX2_size wsX2_size) := goodIn_app (goodIn_of _ (by decide +kernel)) ggX5_digest_X2_size
theorem dX5_digest_0 : decode cX5_digest 0 = .ok (.ldc2_w 202, 3) := by decide +kernel
theorem dX5_digest_3 : decode cX5_digest 3 = .ok (.aload_n 0, 1) := by decide +kernel
theorem dX5_digest_4 : decode cX5_digest 4 = .ok (.getfield 29, 3) := by decide +kernel
theorem dX5_digest_7 : decode cX5_digest 7 = .ok (.invokevirtual 177, 3) := by decide +kernel
theorem dX5_digest_10 : decode cX5_digest 10 = .ok (.i2l, 1) := by decide +kernel
theorem dX5_digest_11 : decode cX5_digest 11 = .ok (.ladd, 1) := by decide +kernel
theorem dX5_digest_12 : decode cX5_digest 12 = .ok (.lstore_n 1, 1) := by decide +kernel
theorem dX5_digest_13 : decode cX5_digest 13 = .ok (.iconst 0, 1) := by decide +kernel
theorem dX5_digest_14 : decode cX5_digest 14 = .ok (.istore_n 3, 1) := by decide +kernel
theorem dX5_digest_15 : decode cX5_digest 15 = .ok (.iload_n 3, 1) := by decide +kernel
theorem dX5_digest_16 : decode cX5_digest 16 = .ok (.bipush 8, 2) := by decide +kernel
theorem dX5_digest_18 : decode cX5_digest 18 = .ok (.if_icmp .gt 25, 3) := by decide +kernel
theorem dX5_digest_21 : decode cX5_digest 21 = .ok (.ldc2_w 204, 3) := by decide +kernel
theorem dX5_digest_24 : decode cX5_digest 24 = .ok (.lload_n 1, 1) := by decide +kernel
theorem dX5_digest_25 : decode cX5_digest 25 = .ok (.lmul, 1) := by decide +kernel
theorem dX5_digest_26 : decode cX5_digest 26 = .ok (.aload_n 0, 1) := by decide +kernel
theorem dX5_digest_27 : decode cX5_digest 27 = .ok (.getfield 10, 3) := by decide +kernel
theorem dX5_digest_30 : decode cX5_digest 30 = .ok (.iload_n 3, 1) := by decide +kernel
theorem dX5_digest_31 : decode cX5_digest 31 = .ok (.invokevirtual 85, 3) := by decide +kernel
theorem dX5_digest_34 : decode cX5_digest 34 = .ok (.i2l, 1) := by decide +kernel
theorem dX5_digest_35 : decode cX5_digest 35 = .ok (.ladd, 1) := by decide +kernel
theorem dX5_digest_36 : decode cX5_digest 36 = .ok (.lstore_n 1, 1) := by decide +kernel
theorem dX5_digest_37 : decode cX5_digest 37 = .ok (.iinc 3 1, 3) := by decide +kernel
theorem dX5_digest_40 : decode cX5_digest 40 = .ok (.goto (-25), 3) := by decide +kernel
theorem dX5_digest_43 : decode cX5_digest 43 = .ok (.aload_n 0, 1) := by decide +kernel
theorem dX5_digest_44 : decode cX5_digest 44 = .ok (.lload_n 1, 1) := by decide +kernel
theorem dX5_digest_45 : decode cX5_digest 45 = .ok (.invokevirtual 206, 3) := by decide +kernel
theorem dX5_digest_48 : decode cX5_digest 48 = .ok (.lstore_n 1, 1) := by decide +kernel
theorem dX5_digest_49 : decode cX5_digest 49 = .ok (.aload_n 0, 1) := by decide +kernel
theorem dX5_digest_50 : decode cX5_digest 50 = .ok (.lload_n 1, 1) := by decide +kernel
theorem dX5_digest_51 : decode cX5_digest 51 = .ok (.invokevirtual 210, 3) := by decide +kernel
theorem dX5_digest_54 : decode cX5_digest 54 = .ok (.lstore_n 1, 1) := by decide +kernel
theorem dX5_digest_55 : decode cX5_digest 55 = .ok (.iconst 0, 1) := by decide +kernel
theorem dX5_digest_56 : decode cX5_digest 56 = .ok (.istore_n 3, 1) := by decide +kernel
theorem dX5_digest_57 : decode cX5_digest 57 = .ok (.iload_n 3, 1) := by decide +kernel
theorem dX5_digest_58 : decode cX5_digest 58 = .ok (.aload_n 0, 1) := by decide +kernel
theorem dX5_digest_59 : decode cX5_digest 59 = .ok (.getfield 10, 3) := by decide +kernel
theorem dX5_digest_62 : decode cX5_digest 62 = .ok (.invokevirtual 88, 3) := by decide +kernel
theorem dX5_digest_65 : decode cX5_digest 65 = .ok (.if_icmp .ge 25, 3) := by decide +kernel
theorem dX5_digest_68 : decode cX5_digest 68 = .ok (.ldc2_w 204, 3) := by decide +kernel
theorem dX5_digest_71 : decode cX5_digest 71 = .ok (.lload_n 1, 1) := by decide +kernel
theorem dX5_digest_72 : decode cX5_digest 72 = .ok (.lmul, 1) := by decide +kernel
theorem dX5_digest_73 : decode cX5_digest 73 = .ok (.aload_n 0, 1) := by decide +kernel
theorem dX5_digest_74 : decode cX5_digest 74 = .ok (.getfield 10, 3) := by decide +kernel
theorem dX5_digest_77 : decode cX5_digest 77 = .ok (.iload_n 3, 1) := by decide +kernel
theorem dX5_digest_78 : decode cX5_digest 78 = .ok (.invokevirtual 96, 3) := by decide +kernel
theorem dX5_digest_81 : decode cX5_digest 81 = .ok (.i2l, 1) := by decide +kernel
theorem dX5_digest_82 : decode cX5_digest 82 = .ok (.ladd, 1) := by decide +kernel
theorem dX5_digest_83 : decode cX5_digest 83 = .ok (.lstore_n 1, 1) := by decide +kernel
theorem dX5_digest_84 : decode cX5_digest 84 = .ok (.iinc 3 1, 3) := by decide +kernel
theorem dX5_digest_87 : decode cX5_digest 87 = .ok (.goto (-30), 3) := by decide +kernel
theorem dX5_digest_90 : decode cX5_digest 90 = .ok (.aload_n 0, 1) := by decide +kernel
theorem dX5_digest_91 : decode cX5_digest 91 = .ok (.lload_n 1, 1) := by decide +kernel
theorem dX5_digest_92 : decode cX5_digest 92 = .ok (.invokevirtual 213, 3) := by decide +kernel
theorem dX5_digest_95 : decode cX5_digest 95 = .ok (.lstore_n 1, 1) := by decide +kernel
theorem dX5_digest_96 : decode cX5_digest 96 = .ok (.ldc2_w 204, 3) := by decide +kernel
theorem dX5_digest_99 : decode cX5_digest 99 = .ok (.lload_n 1, 1) := by decide +kernel
theorem dX5_digest_100 : decode cX5_digest 100 = .ok (.lmul, 1) := by decide +kernel
theorem dX5_digest_101 : decode cX5_digest 101 = .ok (.aload_n 0, 1) := by decide +kernel
theorem dX5_digest_102 : decode cX5_digest 102 = .ok (.getfield 22, 3) := by decide +kernel
theorem dX5_digest_105 : decode cX5_digest 105 = .ok (.invokevirtual 196, 3) := by decide +kernel
theorem dX5_digest_108 : decode cX5_digest 108 = .ok (.i2l, 1) := by decide +kernel
theorem dX5_digest_109 : decode cX5_digest 109 = .ok (.ladd, 1) := by decide +kernel
theorem dX5_digest_110 : decode cX5_digest 110 = .ok (.lreturn, 1) := by decide +kernel
set_option maxRecDepth 20000 in
theorem ggX5_withFighters_X1_fighterCount : GoodIn wsX5_withFighters wsX1_fighterCount := goodIn_r _ [7, 8, 9, 10, 11, 12, 13, 14, 63, 64, 65, 66, 67, 68, 69, 70, 71, 72, 73, 74, 75] (by decide +kernel) (by decide +kernel)
set_option maxRecDepth 20000 in
theorem gX5_withFighters_X1_fighterCount : GoodIn wsX5_withFighters (wsV RX5 44 RX1 yX1_fighterCount wsX1_fighterCount) := goodIn_app (goodIn_of _ (by decide +kernel)) ggX5_withFighters_X1_fighterCount
set_option maxRecDepth 20000 in
theorem ggX5_withFighters_X1_aboutFighter : GoodIn wsX5_withFighters wsX1_aboutFighter := goodIn_ca (goodIn_r _ [18, 8, 19, 20, 21, 22, 12, 23, 14, 24, 25, 26, 27, 28, 6, 29, 30, 31, 32, 33, 34, 35, 36, 37, 38, 39, 40, 10, 11, 13, 41, 42, 43, 44, 45, 46, 47, 48, 49, 50, 9, 51, 52, 53, 54, 55, 56, 57, 58, 63, 64, 65, 66, 67, 68, 69, 70, 71, 72, 73, 74, 75, 76, 77] (by decide +kernel) (by decide +kernel)) (goodIn_sub (fun _ h => List.mem_cons_of_mem _ (List.mem_append_right _ h)) (by decide +kernel))
set_option maxRecDepth 20000 in
theorem gX5_withFighters_X1_aboutFighter : GoodIn wsX5_withFighters (wsV RX5 76 RX1 yX1_aboutFighter wsX1_aboutFighter) := goodIn_app (goodIn_of _ (by decide +kernel)) ggX5_withFighters_X1_aboutFighter
theorem dX5_withFighters_0 : decode cX5_withFighters 0 = .ok (.lload_n 1, 1) := by decide +kernel
theorem dX5_withFighters_1 : decode cX5_withFighters 1 = .ok (.lstore_n 3, 1) := by decide +kernel
theorem dX5_withFighters_2 : decode cX5_withFighters 2 = .ok (.iconst 0, 1) := by decide +kernel
theorem dX5_withFighters_3 : decode cX5_withFighters 3 = .ok (.istore 5, 2) := by decide +kernel
theorem dX5_withFighters_5 : decode cX5_withFighters 5 = .ok (.iload 5, 2) := by decide +kernel
theorem dX5_withFighters_7 : decode cX5_withFighters 7 = .ok (.aload_n 0, 1) := by decide +kernel
theorem dX5_withFighters_8 : decode cX5_withFighters 8 = .ok (.getfield 10, 3) := by decide +kernel
theorem dX5_withFighters_11 : decode cX5_withFighters 11 = .ok (.invokevirtual 44, 3) := by decide +kernel
theorem dX5_withFighters_14 : decode cX5_withFighters 14 = .ok (.if_icmp .ge 44, 3) := by decide +kernel
theorem dX5_withFighters_17 : decode cX5_withFighters 17 = .ok (.iconst 0, 1) := by decide +kernel
theorem dX5_withFighters_18 : decode cX5_withFighters 18 = .ok (.istore 6, 2) := by decide +kernel
theorem dX5_withFighters_20 : decode cX5_withFighters 20 = .ok (.iload 6, 2) := by decide +kernel
theorem dX5_withFighters_22 : decode cX5_withFighters 22 = .ok (.bipush 8, 2) := by decide +kernel
theorem dX5_withFighters_24 : decode cX5_withFighters 24 = .ok (.if_icmp .gt 28, 3) := by decide +kernel
theorem dX5_withFighters_27 : decode cX5_withFighters 27 = .ok (.ldc2_w 204, 3) := by decide +kernel
theorem dX5_withFighters_30 : decode cX5_withFighters 30 = .ok (.lload_n 3, 1) := by decide +kernel
theorem dX5_withFighters_31 : decode cX5_withFighters 31 = .ok (.lmul, 1) := by decide +kernel
theorem dX5_withFighters_32 : decode cX5_withFighters 32 = .ok (.aload_n 0, 1) := by decide +kernel
theorem dX5_withFighters_33 : decode cX5_withFighters 33 = .ok (.getfield 10, 3) := by decide +kernel
theorem dX5_withFighters_36 : decode cX5_withFighters 36 = .ok (.iload 5, 2) := by decide +kernel
theorem dX5_withFighters_38 : decode cX5_withFighters 38 = .ok (.iload 6, 2) := by decide +kernel
theorem dX5_withFighters_40 : decode cX5_withFighters 40 = .ok (.invokevirtual 76, 3) := by decide +kernel
theorem dX5_withFighters_43 : decode cX5_withFighters 43 = .ok (.i2l, 1) := by decide +kernel
theorem dX5_withFighters_44 : decode cX5_withFighters 44 = .ok (.ladd, 1) := by decide +kernel
theorem dX5_withFighters_45 : decode cX5_withFighters 45 = .ok (.lstore_n 3, 1) := by decide +kernel
theorem dX5_withFighters_46 : decode cX5_withFighters 46 = .ok (.iinc 6 1, 3) := by decide +kernel
theorem dX5_withFighters_49 : decode cX5_withFighters 49 = .ok (.goto (-29), 3) := by decide +kernel
theorem dX5_withFighters_52 : decode cX5_withFighters 52 = .ok (.iinc 5 1, 3) := by decide +kernel
theorem dX5_withFighters_55 : decode cX5_withFighters 55 = .ok (.goto (-50), 3) := by decide +kernel
theorem dX5_withFighters_58 : decode cX5_withFighters 58 = .ok (.lload_n 3, 1) := by decide +kernel
theorem dX5_withFighters_59 : decode cX5_withFighters 59 = .ok (.lreturn, 1) := by decide +kernel
set_option maxRecDepth 20000 in
theorem ggX5_withEffects_X1_effectCount : GoodIn wsX5_withEffects wsX1_effectCount := goodIn_r _ [7, 8, 9, 10, 11, 12, 13, 14, 15, 16, 17, 18, 19, 20, 39, 40, 41, 42, 43, 44, 45, 46, 47, 48, 49, 50, 51, 52, 53] (by decide +kernel) (by decide +kernel)
set_option maxRecDepth 20000 in
theorem gX5_withEffects_X1_effectCount : GoodIn wsX5_withEffects (wsV RX5 216 RX1 yX1_effectCount wsX1_effectCount) := goodIn_app (goodIn_of _ (by decide +kernel)) ggX5_withEffects_X1_effectCount
set_option maxRecDepth 20000 in
theorem ggX5_withEffects_X1_aboutEffect : GoodIn wsX5_withEffects wsX1_aboutEffect := goodIn_ca (goodIn_r _ [24, 8, 25, 26, 27, 12, 28, 14, 29, 30, 31, 18, 32, 20, 33, 34, 39, 40, 41, 42, 43, 44, 45, 46, 47, 48, 49, 50, 51, 52, 53] (by decide +kernel) (by decide +kernel)) (goodIn_sub (fun _ h => List.mem_cons_of_mem _ (List.mem_append_right _ h)) (by decide +kernel))
set_option maxRecDepth 20000 in
theorem gX5_withEffects_X1_aboutEffect : GoodIn wsX5_withEffects (wsV RX5 82 RX1 yX1_aboutEffect wsX1_aboutEffect) := goodIn_app (goodIn_of _ (by decide +kernel)) ggX5_withEffects_X1_aboutEffect
theorem dX5_withEffects_0 : decode cX5_withEffects 0 = .ok (.lload_n 1, 1) := by decide +kernel
theorem dX5_withEffects_1 : decode cX5_withEffects 1 = .ok (.lstore_n 3, 1) := by decide +kernel
theorem dX5_withEffects_2 : decode cX5_withEffects 2 = .ok (.iconst 0, 1) := by decide +kernel
theorem dX5_withEffects_3 : decode cX5_withEffects 3 = .ok (.istore 5, 2) := by decide +kernel
theorem dX5_withEffects_5 : decode cX5_withEffects 5 = .ok (.iload 5, 2) := by decide +kernel
theorem dX5_withEffects_7 : decode cX5_withEffects 7 = .ok (.aload_n 0, 1) := by decide +kernel
theorem dX5_withEffects_8 : decode cX5_withEffects 8 = .ok (.getfield 10, 3) := by decide +kernel
theorem dX5_withEffects_11 : decode cX5_withEffects 11 = .ok (.invokevirtual 216, 3) := by decide +kernel
theorem dX5_withEffects_14 : decode cX5_withEffects 14 = .ok (.if_icmp .ge 44, 3) := by decide +kernel
theorem dX5_withEffects_17 : decode cX5_withEffects 17 = .ok (.iconst 0, 1) := by decide +kernel
theorem dX5_withEffects_18 : decode cX5_withEffects 18 = .ok (.istore 6, 2) := by decide +kernel
theorem dX5_withEffects_20 : decode cX5_withEffects 20 = .ok (.iload 6, 2) := by decide +kernel
theorem dX5_withEffects_22 : decode cX5_withEffects 22 = .ok (.bipush 6, 2) := by decide +kernel
theorem dX5_withEffects_24 : decode cX5_withEffects 24 = .ok (.if_icmp .gt 28, 3) := by decide +kernel
theorem dX5_withEffects_27 : decode cX5_withEffects 27 = .ok (.ldc2_w 204, 3) := by decide +kernel
theorem dX5_withEffects_30 : decode cX5_withEffects 30 = .ok (.lload_n 3, 1) := by decide +kernel
theorem dX5_withEffects_31 : decode cX5_withEffects 31 = .ok (.lmul, 1) := by decide +kernel
theorem dX5_withEffects_32 : decode cX5_withEffects 32 = .ok (.aload_n 0, 1) := by decide +kernel
theorem dX5_withEffects_33 : decode cX5_withEffects 33 = .ok (.getfield 10, 3) := by decide +kernel
theorem dX5_withEffects_36 : decode cX5_withEffects 36 = .ok (.iload 5, 2) := by decide +kernel
theorem dX5_withEffects_38 : decode cX5_withEffects 38 = .ok (.iload 6, 2) := by decide +kernel
theorem dX5_withEffects_40 : decode cX5_withEffects 40 = .ok (.invokevirtual 82, 3) := by decide +kernel
theorem dX5_withEffects_43 : decode cX5_withEffects 43 = .ok (.i2l, 1) := by decide +kernel
theorem dX5_withEffects_44 : decode cX5_withEffects 44 = .ok (.ladd, 1) := by decide +kernel
theorem dX5_withEffects_45 : decode cX5_withEffects 45 = .ok (.lstore_n 3, 1) := by decide +kernel
theorem dX5_withEffects_46 : decode cX5_withEffects 46 = .ok (.iinc 6 1, 3) := by decide +kernel
theorem dX5_withEffects_49 : decode cX5_withEffects 49 = .ok (.goto (-29), 3) := by decide +kernel
theorem dX5_withEffects_52 : decode cX5_withEffects 52 = .ok (.iinc 5 1, 3) := by decide +kernel
theorem dX5_withEffects_55 : decode cX5_withEffects 55 = .ok (.goto (-50), 3) := by decide +kernel
theorem dX5_withEffects_58 : decode cX5_withEffects 58 = .ok (.lload_n 3, 1) := by decide +kernel
theorem dX5_withEffects_59 : decode cX5_withEffects 59 = .ok (.lreturn, 1) := by decide +kernel
set_option maxRecDepth 20000 in
theorem ggX5_withStack_X1_stackSize : GoodIn wsX5_withStack wsX1_stackSize := goodIn_r _ [7, 8, 9, 10, 11, 12, 13, 14, 29, 30, 31, 32, 33, 34, 35, 36, 37, 38, 39, 40, 41] (by decide +kernel) (by decide +kernel)
set_option maxRecDepth 20000 in
theorem gX5_withStack_X1_stackSize : GoodIn wsX5_withStack (wsV RX5 145 RX1 yX1_stackSize wsX1_stackSize) := goodIn_app (goodIn_of _ (by decide +kernel)) ggX5_withStack_X1_stackSize
set_option maxRecDepth 20000 in
theorem ggX5_withStack_X1_aboutAct : GoodIn wsX5_withStack wsX1_aboutAct := goodIn_ca (goodIn_r _ [18, 8, 9, 10, 11, 12, 13, 14, 19, 20, 21, 22, 23, 24, 29, 30, 31, 32, 33, 34, 35, 36, 37, 38, 39, 40, 41] (by decide +kernel) (by decide +kernel)) (goodIn_sub (fun _ h => List.mem_cons_of_mem _ (List.mem_append_right _ h)) (by decide +kernel))
set_option maxRecDepth 20000 in
theorem gX5_withStack_X1_aboutAct : GoodIn wsX5_withStack (wsV RX5 150 RX1 yX1_aboutAct wsX1_aboutAct) := goodIn_app (goodIn_of _ (by decide +kernel)) ggX5_withStack_X1_aboutAct
theorem dX5_withStack_0 : decode cX5_withStack 0 = .ok (.lload_n 1, 1) := by decide +kernel
theorem dX5_withStack_1 : decode cX5_withStack 1 = .ok (.lstore_n 3, 1) := by decide +kernel
theorem dX5_withStack_2 : decode cX5_withStack 2 = .ok (.iconst 0, 1) := by decide +kernel
theorem dX5_withStack_3 : decode cX5_withStack 3 = .ok (.istore 5, 2) := by decide +kernel
theorem dX5_withStack_5 : decode cX5_withStack 5 = .ok (.iload 5, 2) := by decide +kernel
theorem dX5_withStack_7 : decode cX5_withStack 7 = .ok (.aload_n 0, 1) := by decide +kernel
theorem dX5_withStack_8 : decode cX5_withStack 8 = .ok (.getfield 10, 3) := by decide +kernel
theorem dX5_withStack_11 : decode cX5_withStack 11 = .ok (.invokevirtual 145, 3) := by decide +kernel
theorem dX5_withStack_14 : decode cX5_withStack 14 = .ok (.if_icmp .ge 43, 3) := by decide +kernel
theorem dX5_withStack_17 : decode cX5_withStack 17 = .ok (.iconst 0, 1) := by decide +kernel
theorem dX5_withStack_18 : decode cX5_withStack 18 = .ok (.istore 6, 2) := by decide +kernel
theorem dX5_withStack_20 : decode cX5_withStack 20 = .ok (.iload 6, 2) := by decide +kernel
theorem dX5_withStack_22 : decode cX5_withStack 22 = .ok (.iconst 3, 1) := by decide +kernel
theorem dX5_withStack_23 : decode cX5_withStack 23 = .ok (.if_icmp .gt 28, 3) := by decide +kernel
theorem dX5_withStack_26 : decode cX5_withStack 26 = .ok (.ldc2_w 204, 3) := by decide +kernel
theorem dX5_withStack_29 : decode cX5_withStack 29 = .ok (.lload_n 3, 1) := by decide +kernel
theorem dX5_withStack_30 : decode cX5_withStack 30 = .ok (.lmul, 1) := by decide +kernel
theorem dX5_withStack_31 : decode cX5_withStack 31 = .ok (.aload_n 0, 1) := by decide +kernel
theorem dX5_withStack_32 : decode cX5_withStack 32 = .ok (.getfield 10, 3) := by decide +kernel
theorem dX5_withStack_35 : decode cX5_withStack 35 = .ok (.iload 5, 2) := by decide +kernel
theorem dX5_withStack_37 : decode cX5_withStack 37 = .ok (.iload 6, 2) := by decide +kernel
theorem dX5_withStack_39 : decode cX5_withStack 39 = .ok (.invokevirtual 150, 3) := by decide +kernel
theorem dX5_withStack_42 : decode cX5_withStack 42 = .ok (.i2l, 1) := by decide +kernel
theorem dX5_withStack_43 : decode cX5_withStack 43 = .ok (.ladd, 1) := by decide +kernel
theorem dX5_withStack_44 : decode cX5_withStack 44 = .ok (.lstore_n 3, 1) := by decide +kernel
theorem dX5_withStack_45 : decode cX5_withStack 45 = .ok (.iinc 6 1, 3) := by decide +kernel
theorem dX5_withStack_48 : decode cX5_withStack 48 = .ok (.goto (-28), 3) := by decide +kernel
theorem dX5_withStack_51 : decode cX5_withStack 51 = .ok (.iinc 5 1, 3) := by decide +kernel
theorem dX5_withStack_54 : decode cX5_withStack 54 = .ok (.goto (-49), 3) := by decide +kernel
theorem dX5_withStack_57 : decode cX5_withStack 57 = .ok (.lload_n 3, 1) := by decide +kernel
theorem dX5_withStack_58 : decode cX5_withStack 58 = .ok (.lreturn, 1) := by decide +kernel
set_option maxRecDepth 20000 in
theorem ggX5_requireFighter_X1_isFighter : GoodIn wsX5_requireFighter wsX1_isFighter := goodIn_r _ [8, 9, 10, 11, 12, 13, 14, 15, 20, 21, 22, 23, 24, 25, 26, 27, 28, 29, 30, 31, 32] (by decide +kernel) (by decide +kernel)
set_option maxRecDepth 20000 in
theorem gX5_requireFighter_X1_isFighter : GoodIn wsX5_requireFighter (wsV RX5 219 RX1 yX1_isFighter wsX1_isFighter) := goodIn_app (goodIn_of _ (by decide +kernel)) ggX5_requireFighter_X1_isFighter
theorem dX5_requireFighter_0 : decode cX5_requireFighter 0 = .ok (.aload_n 0, 1) := by decide +kernel
theorem dX5_requireFighter_1 : decode cX5_requireFighter 1 = .ok (.getfield 10, 3) := by decide +kernel
theorem dX5_requireFighter_4 : decode cX5_requireFighter 4 = .ok (.iload_n 1, 1) := by decide +kernel
theorem dX5_requireFighter_5 : decode cX5_requireFighter 5 = .ok (.invokevirtual 219, 3) := by decide +kernel
theorem dX5_requireFighter_8 : decode cX5_requireFighter 8 = .ok (.ifCond .ne 13, 3) := by decide +kernel
theorem dX5_requireFighter_11 : decode cX5_requireFighter 11 = .ok (.new 91, 3) := by decide +kernel
theorem dX5_requireFighter_14 : decode cX5_requireFighter 14 = .ok (.dup, 1) := by decide +kernel
theorem dX5_requireFighter_15 : decode cX5_requireFighter 15 = .ok (.ldc 222, 2) := by decide +kernel
theorem dX5_requireFighter_17 : decode cX5_requireFighter 17 = .ok (.invokespecial 95, 3) := by decide +kernel
theorem dX5_requireFighter_20 : decode cX5_requireFighter 20 = .ok (.athrow, 1) := by decide +kernel
theorem dX5_requireFighter_21 : decode cX5_requireFighter 21 = .ok (.return_, 1) := by decide +kernel
set_option maxRecDepth 20000 in
theorem ggX5_requireEffect_X1_effectCount : GoodIn wsX5_requireEffect wsX1_effectCount := goodIn_r _ [8, 9, 10, 11, 12, 13, 14, 15, 16, 17, 18, 19, 20, 21, 30, 31, 32, 33, 34, 35, 36, 37, 38, 39, 40, 41, 42, 43, 44] (by decide +kernel) (by decide +kernel)
set_option maxRecDepth 20000 in
theorem gX5_requireEffect_X1_effectCount : GoodIn wsX5_requireEffect (wsV RX5 216 RX1 yX1_effectCount wsX1_effectCount) := goodIn_app (goodIn_of _ (by decide +kernel)) ggX5_requireEffect_X1_effectCount
set_option maxRecDepth 20000 in
theorem ggX5_requireEffect_X5_within : GoodIn wsX5_requireEffect wsX5_within := goodIn_r _ [25] (by decide +kernel) (by decide +kernel)
set_option maxRecDepth 20000 in
theorem gX5_requireEffect_X5_within : GoodIn wsX5_requireEffect (va_wsS RX5 33 yX5_within wsX5_within) := goodIn_app (goodIn_of _ (by decide +kernel)) ggX5_requireEffect_X5_within
theorem dX5_requireEffect_0 : decode cX5_requireEffect 0 = .ok (.iload_n 1, 1) := by decide +kernel
theorem dX5_requireEffect_1 : decode cX5_requireEffect 1 = .ok (.iconst 0, 1) := by decide +kernel
theorem dX5_requireEffect_2 : decode cX5_requireEffect 2 = .ok (.aload_n 0, 1) := by decide +kernel
theorem dX5_requireEffect_3 : decode cX5_requireEffect 3 = .ok (.getfield 10, 3) := by decide +kernel
theorem dX5_requireEffect_6 : decode cX5_requireEffect 6 = .ok (.invokevirtual 216, 3) := by decide +kernel
theorem dX5_requireEffect_9 : decode cX5_requireEffect 9 = .ok (.iconst 1, 1) := by decide +kernel
theorem dX5_requireEffect_10 : decode cX5_requireEffect 10 = .ok (.isub, 1) := by decide +kernel
theorem dX5_requireEffect_11 : decode cX5_requireEffect 11 = .ok (.invokestatic 33, 3) := by decide +kernel
theorem dX5_requireEffect_14 : decode cX5_requireEffect 14 = .ok (.ifCond .ne 13, 3) := by decide +kernel
theorem dX5_requireEffect_17 : decode cX5_requireEffect 17 = .ok (.new 91, 3) := by decide +kernel
theorem dX5_requireEffect_20 : decode cX5_requireEffect 20 = .ok (.dup, 1) := by decide +kernel
theorem dX5_requireEffect_21 : decode cX5_requireEffect 21 = .ok (.ldc 224, 2) := by decide +kernel
theorem dX5_requireEffect_23 : decode cX5_requireEffect 23 = .ok (.invokespecial 95, 3) := by decide +kernel
theorem dX5_requireEffect_26 : decode cX5_requireEffect 26 = .ok (.athrow, 1) := by decide +kernel
theorem dX5_requireEffect_27 : decode cX5_requireEffect 27 = .ok (.return_, 1) := by decide +kernel
set_option maxRecDepth 20000 in
theorem ggX5_requireWithin_X5_within : GoodIn wsX5_requireWithin wsX5_within := goodIn_r _ [6] (by decide +kernel) (by decide +kernel)
set_option maxRecDepth 20000 in
theorem gX5_requireWithin_X5_within : GoodIn wsX5_requireWithin (va_wsS RX5 33 yX5_within wsX5_within) := goodIn_app (goodIn_of _ (by decide +kernel)) ggX5_requireWithin_X5_within
theorem dX5_requireWithin_0 : decode cX5_requireWithin 0 = .ok (.iload_n 0, 1) := by decide +kernel
theorem dX5_requireWithin_1 : decode cX5_requireWithin 1 = .ok (.iload_n 1, 1) := by decide +kernel
theorem dX5_requireWithin_2 : decode cX5_requireWithin 2 = .ok (.iload_n 2, 1) := by decide +kernel
theorem dX5_requireWithin_3 : decode cX5_requireWithin 3 = .ok (.invokestatic 33, 3) := by decide +kernel
theorem dX5_requireWithin_6 : decode cX5_requireWithin 6 = .ok (.ifCond .ne 13, 3) := by decide +kernel
theorem dX5_requireWithin_9 : decode cX5_requireWithin 9 = .ok (.new 37, 3) := by decide +kernel
theorem dX5_requireWithin_12 : decode cX5_requireWithin 12 = .ok (.dup, 1) := by decide +kernel
theorem dX5_requireWithin_13 : decode cX5_requireWithin 13 = .ok (.ldc 226, 2) := by decide +kernel
theorem dX5_requireWithin_15 : decode cX5_requireWithin 15 = .ok (.invokespecial 41, 3) := by decide +kernel
theorem dX5_requireWithin_18 : decode cX5_requireWithin 18 = .ok (.athrow, 1) := by decide +kernel
theorem dX5_requireWithin_19 : decode cX5_requireWithin 19 = .ok (.return_, 1) := by decide +kernel
theorem dX5_requirePossible_0 : decode cX5_requirePossible 0 = .ok (.iload_n 0, 1) := by decide +kernel
theorem dX5_requirePossible_1 : decode cX5_requirePossible 1 = .ok (.ifCond .ne 13, 3) := by decide +kernel
theorem dX5_requirePossible_4 : decode cX5_requirePossible 4 = .ok (.new 48, 3) := by decide +kernel
theorem dX5_requirePossible_7 : decode cX5_requirePossible 7 = .ok (.dup, 1) := by decide +kernel
theorem dX5_requirePossible_8 : decode cX5_requirePossible 8 = .ok (.ldc 228, 2) := by decide +kernel
theorem dX5_requirePossible_10 : decode cX5_requirePossible 10 = .ok (.invokespecial 52, 3) := by decide +kernel
theorem dX5_requirePossible_13 : decode cX5_requirePossible 13 = .ok (.athrow, 1) := by decide +kernel
theorem dX5_requirePossible_14 : decode cX5_requirePossible 14 = .ok (.return_, 1) := by decide +kernel
theorem dX5_within_0 : decode cX5_within 0 = .ok (.iload_n 0, 1) := by decide +kernel
theorem dX5_within_1 : decode cX5_within 1 = .ok (.iload_n 1, 1) := by decide +kernel
theorem dX5_within_2 : decode cX5_within 2 = .ok (.if_icmp .lt 12, 3) := by decide +kernel
theorem dX5_within_5 : decode cX5_within 5 = .ok (.iload_n 0, 1) := by decide +kernel
theorem dX5_within_6 : decode cX5_within 6 = .ok (.iload_n 2, 1) := by decide +kernel
theorem dX5_within_7 : decode cX5_within 7 = .ok (.if_icmp .gt 7, 3) := by decide +kernel
theorem dX5_within_10 : decode cX5_within 10 = .ok (.iconst 1, 1) := by decide +kernel
theorem dX5_within_11 : decode cX5_within 11 = .ok (.goto 4, 3) := by decide +kernel
theorem dX5_within_14 : decode cX5_within 14 = .ok (.iconst 0, 1) := by decide +kernel
theorem dX5_within_15 : decode cX5_within 15 = .ok (.ireturn, 1) := by decide +kernel
