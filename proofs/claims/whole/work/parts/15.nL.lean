set_option maxRecDepth 20000 in
theorem ggL_add_X5_add : GoodIn wsL_add wsX5_add := goodIn_ca (goodIn_ca (goodIn_ca (goodIn_r _ [7, 8, 9, 10, 11, 12, 13, 14, 15, 6, 16, 17, 18, 19, 20, 21, 22, 23, 24, 25, 26, 27, 28, 29, 30, 31, 32, 33, 34, 35, 36, 37, 38, 39, 40, 41, 42, 43, 44, 45, 46, 47, 48, 49, 50, 51, 52, 53, 54, 55, 56, 57, 58, 59, 60, 61, 62, 63, 64, 65, 66, 67, 68, 69, 70, 71, 72, 73, 74, 75, 76, 77, 78, 79, 80, 81, 82, 83, 84, 85, 86, 87, 88, 89, 90, 91, 92, 93, 94, 95, 96, 97, 98, 99, 100, 101, 102, 103, 104, 105, 106, 107, 108, 109, 110, 111, 112, 113, 114, 115, 116, 117, 118, 119, 120, 121, 122, 123, 124, 125, 126, 127, 128, 129, 130, 131, 132, 133, 134] (by decide +kernel) (by decide +kernel)) (goodIn_sub (fun _ h => List.mem_cons_of_mem _ (List.mem_append_left _ (List.mem_append_right _ h))) (by decide +kernel))) (goodIn_sub (fun _ h => List.mem_cons_of_mem _ (List.mem_append_right _ h)) (by decide +kernel))) (goodIn_sub (fun _ h => List.mem_cons_of_mem _ (List.mem_append_left _ (List.mem_append_left _ (List.mem_append_right _ h)))) (by decide +kernel))
set_option maxRecDepth 20000 in
theorem gL_add_X5_add : GoodIn wsL_add (wsV RL 7 RX5 yX5_add wsX5_add) := goodIn_app (goodIn_of _ (by decide +kernel)) ggL_add_X5_add
theorem dL_add_0 : decode cL_add 0 = .ok (.aload_n 3, 1) := by decide +kernel
theorem dL_add_1 : decode cL_add 1 = .ok (.iconst 0, 1) := by decide +kernel
theorem dL_add_2 : decode cL_add 2 = .ok (.aload_n 0, 1) := by decide +kernel
theorem dL_add_3 : decode cL_add 3 = .ok (.iload_n 1, 1) := by decide +kernel
theorem dL_add_4 : decode cL_add 4 = .ok (.iload_n 2, 1) := by decide +kernel
theorem dL_add_5 : decode cL_add 5 = .ok (.invokevirtual 7, 3) := by decide +kernel
theorem dL_add_8 : decode cL_add 8 = .ok (.i2l, 1) := by decide +kernel
theorem dL_add_9 : decode cL_add 9 = .ok (.lastore, 1) := by decide +kernel
theorem dL_add_10 : decode cL_add 10 = .ok (.goto 11, 3) := by decide +kernel
theorem dL_add_13 : decode cL_add 13 = .ok (.astore 4, 2) := by decide +kernel
theorem dL_add_15 : decode cL_add 15 = .ok (.iconst 1, 1) := by decide +kernel
theorem dL_add_16 : decode cL_add 16 = .ok (.ireturn, 1) := by decide +kernel
theorem dL_add_17 : decode cL_add 17 = .ok (.astore 4, 2) := by decide +kernel
theorem dL_add_19 : decode cL_add 19 = .ok (.iconst 2, 1) := by decide +kernel
theorem dL_add_20 : decode cL_add 20 = .ok (.ireturn, 1) := by decide +kernel
theorem dL_add_21 : decode cL_add 21 = .ok (.iconst 0, 1) := by decide +kernel
theorem dL_add_22 : decode cL_add 22 = .ok (.ireturn, 1) := by decide +kernel
set_option maxRecDepth 20000 in
theorem ggL_setSpeed_X5_setSpeed : GoodIn wsL_setSpeed wsX5_setSpeed := goodIn_ca (goodIn_ca (goodIn_ca (goodIn_r _ [7, 8, 9, 10, 11, 12, 6, 13, 14, 15, 16, 17, 18, 19, 20, 21, 22, 23, 24, 25, 26, 27, 28, 29, 30, 31, 32, 33, 34, 35, 36, 37, 38, 39, 40, 41, 42, 43, 44, 45, 46, 47, 48, 49, 50, 51, 52, 53, 54, 55, 56, 57, 58, 59, 60, 61, 62, 63, 64, 65, 66, 67, 68, 69, 70, 71, 72, 73, 74, 75, 76, 77, 78, 79, 80, 81, 82, 83, 84, 85, 86, 87, 88, 89, 90, 91, 92, 93, 94, 95, 96, 97, 98, 99, 100, 101, 102, 103, 104, 105, 106, 107, 108, 109, 110, 111, 112, 113, 114, 115, 116, 117, 118] (by decide +kernel) (by decide +kernel)) (goodIn_sub (fun _ h => List.mem_cons_of_mem _ (List.mem_append_left _ (List.mem_append_right _ h))) (by decide +kernel))) (goodIn_sub (fun _ h => List.mem_cons_of_mem _ (List.mem_append_right _ h)) (by decide +kernel))) (goodIn_sub (fun _ h => List.mem_cons_of_mem _ (List.mem_append_left _ (List.mem_append_left _ (List.mem_append_right _ h)))) (by decide +kernel))
set_option maxRecDepth 20000 in
theorem gL_setSpeed_X5_setSpeed : GoodIn wsL_setSpeed (wsV RL 17 RX5 yX5_setSpeed wsX5_setSpeed) := goodIn_app (goodIn_of _ (by decide +kernel)) ggL_setSpeed_X5_setSpeed
theorem dL_setSpeed_0 : decode cL_setSpeed 0 = .ok (.aload_n 3, 1) := by decide +kernel
theorem dL_setSpeed_1 : decode cL_setSpeed 1 = .ok (.iconst 0, 1) := by decide +kernel
theorem dL_setSpeed_2 : decode cL_setSpeed 2 = .ok (.aload_n 0, 1) := by decide +kernel
theorem dL_setSpeed_3 : decode cL_setSpeed 3 = .ok (.iload_n 1, 1) := by decide +kernel
theorem dL_setSpeed_4 : decode cL_setSpeed 4 = .ok (.iload_n 2, 1) := by decide +kernel
theorem dL_setSpeed_5 : decode cL_setSpeed 5 = .ok (.invokevirtual 17, 3) := by decide +kernel
theorem dL_setSpeed_8 : decode cL_setSpeed 8 = .ok (.i2l, 1) := by decide +kernel
theorem dL_setSpeed_9 : decode cL_setSpeed 9 = .ok (.lastore, 1) := by decide +kernel
theorem dL_setSpeed_10 : decode cL_setSpeed 10 = .ok (.goto 11, 3) := by decide +kernel
theorem dL_setSpeed_13 : decode cL_setSpeed 13 = .ok (.astore 4, 2) := by decide +kernel
theorem dL_setSpeed_15 : decode cL_setSpeed 15 = .ok (.iconst 1, 1) := by decide +kernel
theorem dL_setSpeed_16 : decode cL_setSpeed 16 = .ok (.ireturn, 1) := by decide +kernel
theorem dL_setSpeed_17 : decode cL_setSpeed 17 = .ok (.astore 4, 2) := by decide +kernel
theorem dL_setSpeed_19 : decode cL_setSpeed 19 = .ok (.iconst 2, 1) := by decide +kernel
theorem dL_setSpeed_20 : decode cL_setSpeed 20 = .ok (.ireturn, 1) := by decide +kernel
theorem dL_setSpeed_21 : decode cL_setSpeed 21 = .ok (.iconst 0, 1) := by decide +kernel
theorem dL_setSpeed_22 : decode cL_setSpeed 22 = .ok (.ireturn, 1) := by decide +kernel
set_option maxRecDepth 20000 in
theorem ggL_setShock_X5_setShock : GoodIn wsL_setShock wsX5_setShock := goodIn_ca (goodIn_r _ [6, 7, 8, 9, 10, 5, 11, 12, 13, 14, 15, 16, 17, 18, 19, 20, 21, 22, 23, 24, 25, 26, 27, 28, 29, 30, 31, 32, 33, 34, 35, 36, 37, 38, 39, 40, 41, 42, 43, 44, 45, 46, 47, 48, 49, 50, 51, 52, 53, 54, 55, 56, 57, 58, 59, 60, 61, 62, 63, 64, 65, 66, 67, 68, 69, 70, 71, 72, 73, 74, 75, 76, 77, 78, 79, 80, 81, 82, 83, 84, 85, 86, 87, 88, 89, 90, 91, 92, 93, 94] (by decide +kernel) (by decide +kernel)) (goodIn_sub (fun _ h => List.mem_cons_of_mem _ (List.mem_append_right _ h)) (by decide +kernel))
set_option maxRecDepth 20000 in
theorem gL_setShock_X5_setShock : GoodIn wsL_setShock (wsV RL 22 RX5 yX5_setShock wsX5_setShock) := goodIn_app (goodIn_of _ (by decide +kernel)) ggL_setShock_X5_setShock
theorem dL_setShock_0 : decode cL_setShock 0 = .ok (.aload_n 2, 1) := by decide +kernel
theorem dL_setShock_1 : decode cL_setShock 1 = .ok (.iconst 0, 1) := by decide +kernel
theorem dL_setShock_2 : decode cL_setShock 2 = .ok (.aload_n 0, 1) := by decide +kernel
theorem dL_setShock_3 : decode cL_setShock 3 = .ok (.iload_n 1, 1) := by decide +kernel
theorem dL_setShock_4 : decode cL_setShock 4 = .ok (.invokevirtual 22, 3) := by decide +kernel
theorem dL_setShock_7 : decode cL_setShock 7 = .ok (.i2l, 1) := by decide +kernel
theorem dL_setShock_8 : decode cL_setShock 8 = .ok (.lastore, 1) := by decide +kernel
theorem dL_setShock_9 : decode cL_setShock 9 = .ok (.goto 6, 3) := by decide +kernel
theorem dL_setShock_12 : decode cL_setShock 12 = .ok (.astore_n 3, 1) := by decide +kernel
theorem dL_setShock_13 : decode cL_setShock 13 = .ok (.iconst 1, 1) := by decide +kernel
theorem dL_setShock_14 : decode cL_setShock 14 = .ok (.ireturn, 1) := by decide +kernel
theorem dL_setShock_15 : decode cL_setShock 15 = .ok (.iconst 0, 1) := by decide +kernel
theorem dL_setShock_16 : decode cL_setShock 16 = .ok (.ireturn, 1) := by decide +kernel
set_option maxRecDepth 20000 in
theorem ggL_fighter_X5_fighter : GoodIn wsL_fighter wsX5_fighter := goodIn_ca (goodIn_ca (goodIn_ca (goodIn_r _ [7, 8, 9, 10, 11, 6, 12, 13, 14, 15, 16, 17, 18, 19, 20, 21, 22, 23, 24, 25, 26, 27, 28, 29, 30, 31, 32, 33, 34, 35, 36, 37, 38, 39, 40, 41, 42, 43, 44, 45, 46, 47, 48, 49, 50, 51, 52, 53, 54, 55, 56, 57, 58, 59, 60, 61, 62, 63, 64, 65, 66, 67, 68, 69, 70, 71, 72, 73, 74, 75, 76, 77, 78, 79, 80, 81, 82, 83, 84, 85, 86, 87, 88, 89, 90, 91, 92, 93, 94, 95, 96, 97] (by decide +kernel) (by decide +kernel)) (goodIn_sub (fun _ h => List.mem_cons_of_mem _ (List.mem_append_left _ (List.mem_append_right _ h))) (by decide +kernel))) (goodIn_sub (fun _ h => List.mem_cons_of_mem _ (List.mem_append_right _ h)) (by decide +kernel))) (goodIn_sub (fun _ h => List.mem_cons_of_mem _ (List.mem_append_left _ (List.mem_append_left _ (List.mem_append_right _ h)))) (by decide +kernel))
set_option maxRecDepth 20000 in
theorem gL_fighter_X5_fighter : GoodIn wsL_fighter (wsV RL 26 RX5 yX5_fighter wsX5_fighter) := goodIn_app (goodIn_of _ (by decide +kernel)) ggL_fighter_X5_fighter
theorem dL_fighter_0 : decode cL_fighter 0 = .ok (.aload_n 3, 1) := by decide +kernel
theorem dL_fighter_1 : decode cL_fighter 1 = .ok (.iconst 0, 1) := by decide +kernel
theorem dL_fighter_2 : decode cL_fighter 2 = .ok (.aload_n 0, 1) := by decide +kernel
theorem dL_fighter_3 : decode cL_fighter 3 = .ok (.iload_n 1, 1) := by decide +kernel
theorem dL_fighter_4 : decode cL_fighter 4 = .ok (.iload_n 2, 1) := by decide +kernel
theorem dL_fighter_5 : decode cL_fighter 5 = .ok (.invokevirtual 26, 3) := by decide +kernel
theorem dL_fighter_8 : decode cL_fighter 8 = .ok (.i2l, 1) := by decide +kernel
theorem dL_fighter_9 : decode cL_fighter 9 = .ok (.lastore, 1) := by decide +kernel
theorem dL_fighter_10 : decode cL_fighter 10 = .ok (.goto 11, 3) := by decide +kernel
theorem dL_fighter_13 : decode cL_fighter 13 = .ok (.astore 4, 2) := by decide +kernel
theorem dL_fighter_15 : decode cL_fighter 15 = .ok (.iconst 1, 1) := by decide +kernel
theorem dL_fighter_16 : decode cL_fighter 16 = .ok (.ireturn, 1) := by decide +kernel
theorem dL_fighter_17 : decode cL_fighter 17 = .ok (.astore 4, 2) := by decide +kernel
theorem dL_fighter_19 : decode cL_fighter 19 = .ok (.iconst 2, 1) := by decide +kernel
theorem dL_fighter_20 : decode cL_fighter 20 = .ok (.ireturn, 1) := by decide +kernel
theorem dL_fighter_21 : decode cL_fighter 21 = .ok (.iconst 0, 1) := by decide +kernel
theorem dL_fighter_22 : decode cL_fighter 22 = .ok (.ireturn, 1) := by decide +kernel
set_option maxRecDepth 20000 in
theorem ggL_effect_X5_effect : GoodIn wsL_effect wsX5_effect := goodIn_ca (goodIn_ca (goodIn_ca (goodIn_r _ [7, 8, 9, 10, 11, 6, 12, 13, 14, 15, 16, 17, 18, 19, 20, 21, 22, 23, 24, 25, 26, 27, 28, 29, 30, 31, 32, 33, 34, 35, 36, 37, 38, 39, 40, 41, 42, 43, 44, 45, 46, 47, 48, 49, 50, 51, 52, 53, 54, 55, 56, 57, 58, 59, 60, 61, 62, 63, 64, 65, 66, 67, 68, 69, 70, 71, 72, 73] (by decide +kernel) (by decide +kernel)) (goodIn_sub (fun _ h => List.mem_cons_of_mem _ (List.mem_append_left _ (List.mem_append_right _ h))) (by decide +kernel))) (goodIn_sub (fun _ h => List.mem_cons_of_mem _ (List.mem_append_right _ h)) (by decide +kernel))) (goodIn_sub (fun _ h => List.mem_cons_of_mem _ (List.mem_append_left _ (List.mem_append_left _ (List.mem_append_right _ h)))) (by decide +kernel))
set_option maxRecDepth 20000 in
theorem gL_effect_X5_effect : GoodIn wsL_effect (wsV RL 29 RX5 yX5_effect wsX5_effect) := goodIn_app (goodIn_of _ (by decide +kernel)) ggL_effect_X5_effect
theorem dL_effect_0 : decode cL_effect 0 = .ok (.aload_n 3, 1) := by decide +kernel
theorem dL_effect_1 : decode cL_effect 1 = .ok (.iconst 0, 1) := by decide +kernel
theorem dL_effect_2 : decode cL_effect 2 = .ok (.aload_n 0, 1) := by decide +kernel
theorem dL_effect_3 : decode cL_effect 3 = .ok (.iload_n 1, 1) := by decide +kernel
theorem dL_effect_4 : decode cL_effect 4 = .ok (.iload_n 2, 1) := by decide +kernel
theorem dL_effect_5 : decode cL_effect 5 = .ok (.invokevirtual 29, 3) := by decide +kernel
theorem dL_effect_8 : decode cL_effect 8 = .ok (.i2l, 1) := by decide +kernel
theorem dL_effect_9 : decode cL_effect 9 = .ok (.lastore, 1) := by decide +kernel
theorem dL_effect_10 : decode cL_effect 10 = .ok (.goto 11, 3) := by decide +kernel
theorem dL_effect_13 : decode cL_effect 13 = .ok (.astore 4, 2) := by decide +kernel
theorem dL_effect_15 : decode cL_effect 15 = .ok (.iconst 1, 1) := by decide +kernel
theorem dL_effect_16 : decode cL_effect 16 = .ok (.ireturn, 1) := by decide +kernel
theorem dL_effect_17 : decode cL_effect 17 = .ok (.astore 4, 2) := by decide +kernel
theorem dL_effect_19 : decode cL_effect 19 = .ok (.iconst 2, 1) := by decide +kernel
theorem dL_effect_20 : decode cL_effect 20 = .ok (.ireturn, 1) := by decide +kernel
theorem dL_effect_21 : decode cL_effect 21 = .ok (.iconst 0, 1) := by decide +kernel
theorem dL_effect_22 : decode cL_effect 22 = .ok (.ireturn, 1) := by decide +kernel
set_option maxRecDepth 20000 in
theorem ggL_value_X5_value : GoodIn wsL_value wsX5_value := goodIn_ca (goodIn_ca (goodIn_r _ [6, 7, 8, 9, 5, 10, 11, 12, 13, 14, 15, 16, 17, 18, 19, 20, 21, 22, 23, 24, 25, 26, 27, 28, 29, 30, 31, 32, 33, 34, 35, 36, 37, 38, 39, 40, 41, 42, 43, 44, 45, 46, 47, 48, 49, 50, 51, 52, 53, 54, 55, 56, 57, 58, 59, 60, 61, 62, 63, 64, 65, 66, 67, 68, 69, 70, 71, 72, 73, 74, 75, 76, 77, 78] (by decide +kernel) (by decide +kernel)) (goodIn_sub (fun _ h => List.mem_cons_of_mem _ (List.mem_append_right _ h)) (by decide +kernel))) (goodIn_sub (fun _ h => List.mem_cons_of_mem _ (List.mem_append_left _ (List.mem_append_right _ h))) (by decide +kernel))
set_option maxRecDepth 20000 in
theorem gL_value_X5_value : GoodIn wsL_value (wsV RL 32 RX5 yX5_value wsX5_value) := goodIn_app (goodIn_of _ (by decide +kernel)) ggL_value_X5_value
theorem dL_value_0 : decode cL_value 0 = .ok (.aload_n 2, 1) := by decide +kernel
theorem dL_value_1 : decode cL_value 1 = .ok (.iconst 0, 1) := by decide +kernel
theorem dL_value_2 : decode cL_value 2 = .ok (.aload_n 0, 1) := by decide +kernel
theorem dL_value_3 : decode cL_value 3 = .ok (.iload_n 1, 1) := by decide +kernel
theorem dL_value_4 : decode cL_value 4 = .ok (.invokevirtual 32, 3) := by decide +kernel
theorem dL_value_7 : decode cL_value 7 = .ok (.i2l, 1) := by decide +kernel
theorem dL_value_8 : decode cL_value 8 = .ok (.lastore, 1) := by decide +kernel
theorem dL_value_9 : decode cL_value 9 = .ok (.goto 6, 3) := by decide +kernel
theorem dL_value_12 : decode cL_value 12 = .ok (.astore_n 3, 1) := by decide +kernel
theorem dL_value_13 : decode cL_value 13 = .ok (.iconst 1, 1) := by decide +kernel
theorem dL_value_14 : decode cL_value 14 = .ok (.ireturn, 1) := by decide +kernel
theorem dL_value_15 : decode cL_value 15 = .ok (.iconst 0, 1) := by decide +kernel
theorem dL_value_16 : decode cL_value 16 = .ok (.ireturn, 1) := by decide +kernel
set_option maxRecDepth 20000 in
theorem ggL_inList_X5_inList : GoodIn wsL_inList wsX5_inList := goodIn_ca (goodIn_ca (goodIn_r _ [6, 7, 8, 9, 10, 11, 12, 13, 14, 15, 16, 17, 18, 19, 20, 21, 22, 23, 5, 24, 25, 26, 27, 28, 29, 30, 31, 32, 33, 34, 35, 36, 37, 38, 39, 40, 41, 42, 43, 44, 45, 46, 47, 48, 49, 50, 51] (by decide +kernel) (by decide +kernel)) (goodIn_sub (fun _ h => List.mem_cons_of_mem _ (List.mem_append_right _ h)) (by decide +kernel))) (goodIn_sub (fun _ h => List.mem_cons_of_mem _ (List.mem_append_left _ (List.mem_append_right _ h))) (by decide +kernel))
set_option maxRecDepth 20000 in
theorem gL_inList_X5_inList : GoodIn wsL_inList (wsV RL 35 RX5 yX5_inList wsX5_inList) := goodIn_app (goodIn_of _ (by decide +kernel)) ggL_inList_X5_inList
theorem dL_inList_0 : decode cL_inList 0 = .ok (.aload_n 2, 1) := by decide +kernel
theorem dL_inList_1 : decode cL_inList 1 = .ok (.iconst 0, 1) := by decide +kernel
theorem dL_inList_2 : decode cL_inList 2 = .ok (.aload_n 0, 1) := by decide +kernel
theorem dL_inList_3 : decode cL_inList 3 = .ok (.iload_n 1, 1) := by decide +kernel
theorem dL_inList_4 : decode cL_inList 4 = .ok (.invokevirtual 35, 3) := by decide +kernel
theorem dL_inList_7 : decode cL_inList 7 = .ok (.i2l, 1) := by decide +kernel
theorem dL_inList_8 : decode cL_inList 8 = .ok (.lastore, 1) := by decide +kernel
theorem dL_inList_9 : decode cL_inList 9 = .ok (.goto 6, 3) := by decide +kernel
theorem dL_inList_12 : decode cL_inList 12 = .ok (.astore_n 3, 1) := by decide +kernel
theorem dL_inList_13 : decode cL_inList 13 = .ok (.iconst 1, 1) := by decide +kernel
theorem dL_inList_14 : decode cL_inList 14 = .ok (.ireturn, 1) := by decide +kernel
theorem dL_inList_15 : decode cL_inList 15 = .ok (.iconst 0, 1) := by decide +kernel
theorem dL_inList_16 : decode cL_inList 16 = .ok (.ireturn, 1) := by decide +kernel
set_option maxRecDepth 20000 in
theorem ggL_next_X5_next : GoodIn wsL_next wsX5_next := goodIn_ca (goodIn_ca (goodIn_r _ [6, 7, 8, 9, 10, 11, 12, 13, 14, 15, 16, 5, 17, 18, 19, 20, 21, 22, 23, 24, 25, 26, 27, 28, 29, 30, 31, 32, 33, 34, 35, 36, 37, 38, 39, 40, 41, 42, 43, 44, 45, 46, 47, 48, 49, 50, 51, 52, 53, 54, 55, 56, 57, 58, 59, 60, 61, 62, 63, 64, 65, 66, 67, 68, 69, 70, 71, 72, 73, 74, 75, 76, 77, 78, 79, 80, 81, 82, 83, 84, 85, 86, 87, 88, 89, 90, 91, 92, 93, 94, 95, 96, 97, 98, 99, 100, 101, 102, 103, 104, 105, 106, 107, 108, 109, 110, 111, 112, 113, 114, 115, 116, 117, 118, 119, 120, 121, 122, 123, 124, 125, 126, 127, 128, 129, 130, 131, 132, 133, 134, 135, 136, 137, 138, 139, 140, 141, 142, 143, 144, 145, 146, 147, 148, 149, 150, 151, 152, 153, 154, 155, 156, 157, 158, 159, 160, 161, 162, 163, 164, 165, 166, 167, 168, 169, 170, 171, 172, 173, 174, 175, 176, 177, 178, 179, 180, 181, 182, 183, 184, 185, 186, 187, 188, 189, 190, 191, 192, 193, 194, 195, 196, 197, 198, 199, 200, 201, 202, 203, 204, 205, 206, 207, 208, 209, 210, 211, 212, 213, 214, 215, 216, 217, 218, 219, 220, 221, 222] (by decide +kernel) (by decide +kernel)) (goodIn_sub (fun _ h => List.mem_cons_of_mem _ (List.mem_append_right _ h)) (by decide +kernel))) (goodIn_sub (fun _ h => List.mem_cons_of_mem _ (List.mem_append_left _ (List.mem_append_right _ h))) (by decide +kernel))
set_option maxRecDepth 20000 in
theorem gL_next_X5_next : GoodIn wsL_next (wsV RL 38 RX5 yX5_next wsX5_next) := goodIn_app (goodIn_of _ (by decide +kernel)) ggL_next_X5_next
theorem dL_next_0 : decode cL_next 0 = .ok (.aload_n 1, 1) := by decide +kernel
theorem dL_next_1 : decode cL_next 1 = .ok (.iconst 0, 1) := by decide +kernel
theorem dL_next_2 : decode cL_next 2 = .ok (.aload_n 0, 1) := by decide +kernel
theorem dL_next_3 : decode cL_next 3 = .ok (.invokevirtual 38, 3) := by decide +kernel
theorem dL_next_6 : decode cL_next 6 = .ok (.i2l, 1) := by decide +kernel
theorem dL_next_7 : decode cL_next 7 = .ok (.lastore, 1) := by decide +kernel
theorem dL_next_8 : decode cL_next 8 = .ok (.goto 6, 3) := by decide +kernel
theorem dL_next_11 : decode cL_next 11 = .ok (.astore_n 2, 1) := by decide +kernel
theorem dL_next_12 : decode cL_next 12 = .ok (.iconst 1, 1) := by decide +kernel
theorem dL_next_13 : decode cL_next 13 = .ok (.ireturn, 1) := by decide +kernel
theorem dL_next_14 : decode cL_next 14 = .ok (.iconst 0, 1) := by decide +kernel
theorem dL_next_15 : decode cL_next 15 = .ok (.ireturn, 1) := by decide +kernel
set_option maxRecDepth 20000 in
theorem ggL_end_X5_end : GoodIn wsL_end wsX5_end := goodIn_ca (goodIn_ca (goodIn_r _ [6, 7, 8, 9, 10, 11, 12, 13, 14, 15, 16, 17, 18, 19, 20, 21, 22, 23, 5, 24, 25, 26, 27, 28, 29, 30, 31, 32, 33, 34, 35, 36, 37, 38, 39, 40, 41, 42, 43, 44, 45, 46, 47, 48, 49, 50, 51, 52, 53, 54, 55, 56, 57, 58, 59, 60, 61, 62, 63, 64, 65, 66, 67, 68, 69, 70, 71, 72, 73, 74, 75, 76, 77, 78, 79, 80, 81, 82, 83, 84, 85, 86, 87, 88, 89, 90, 91, 92, 93, 94, 95, 96, 97, 98, 99, 100, 101, 102, 103, 104, 105, 106, 107, 108, 109, 110, 111, 112, 113, 114, 115, 116, 117] (by decide +kernel) (by decide +kernel)) (goodIn_sub (fun _ h => List.mem_cons_of_mem _ (List.mem_append_right _ h)) (by decide +kernel))) (goodIn_sub (fun _ h => List.mem_cons_of_mem _ (List.mem_append_left _ (List.mem_append_right _ h))) (by decide +kernel))
set_option maxRecDepth 20000 in
theorem gL_end_X5_end : GoodIn wsL_end (wsV RL 42 RX5 yX5_end wsX5_end) := goodIn_app (goodIn_of _ (by decide +kernel)) ggL_end_X5_end
theorem dL_end_0 : decode cL_end 0 = .ok (.aload_n 1, 1) := by decide +kernel
theorem dL_end_1 : decode cL_end 1 = .ok (.iconst 0, 1) := by decide +kernel
theorem dL_end_2 : decode cL_end 2 = .ok (.aload_n 0, 1) := by decide +kernel
theorem dL_end_3 : decode cL_end 3 = .ok (.invokevirtual 42, 3) := by decide +kernel
theorem dL_end_6 : decode cL_end 6 = .ok (.i2l, 1) := by decide +kernel
theorem dL_end_7 : decode cL_end 7 = .ok (.lastore, 1) := by decide +kernel
theorem dL_end_8 : decode cL_end 8 = .ok (.goto 6, 3) := by decide +kernel
theorem dL_end_11 : decode cL_end 11 = .ok (.astore_n 2, 1) := by decide +kernel
theorem dL_end_12 : decode cL_end 12 = .ok (.iconst 1, 1) := by decide +kernel
theorem dL_end_13 : decode cL_end 13 = .ok (.ireturn, 1) := by decide +kernel
theorem dL_end_14 : decode cL_end 14 = .ok (.iconst 0, 1) := by decide +kernel
theorem dL_end_15 : decode cL_end 15 = .ok (.ireturn, 1) := by decide +kernel
set_option maxRecDepth 20000 in
theorem ggL_delay_X5_delay : GoodIn wsL_delay wsX5_delay := goodIn_ca (goodIn_ca (goodIn_r _ [6, 7, 8, 9, 10, 11, 12, 13, 14, 15, 16, 17, 5, 18, 19, 20, 21, 22, 23, 24, 25, 26, 27, 28, 29, 30, 31, 32, 33, 34, 35, 36, 37, 38, 39, 40, 41, 42, 43, 44, 45, 46, 47, 48, 49, 50, 51, 52, 53, 54, 55, 56, 57, 58, 59, 60, 61, 62, 63, 64, 65, 66, 67, 68, 69, 70, 71, 72, 73, 74, 75, 76, 77, 78, 79, 80, 81, 82, 83, 84, 85, 86, 87, 88, 89, 90, 91, 92, 93, 94, 95, 96, 97, 98, 99, 100, 101, 102, 103, 104, 105, 106, 107, 108, 109, 110, 111, 112] (by decide +kernel) (by decide +kernel)) (goodIn_sub (fun _ h => List.mem_cons_of_mem _ (List.mem_append_right _ h)) (by decide +kernel))) (goodIn_sub (fun _ h => List.mem_cons_of_mem _ (List.mem_append_left _ (List.mem_append_right _ h))) (by decide +kernel))
set_option maxRecDepth 20000 in
theorem gL_delay_X5_delay : GoodIn wsL_delay (wsV RL 45 RX5 yX5_delay wsX5_delay) := goodIn_app (goodIn_of _ (by decide +kernel)) ggL_delay_X5_delay
theorem dL_delay_0 : decode cL_delay 0 = .ok (.aload_n 1, 1) := by decide +kernel
theorem dL_delay_1 : decode cL_delay 1 = .ok (.iconst 0, 1) := by decide +kernel
theorem dL_delay_2 : decode cL_delay 2 = .ok (.aload_n 0, 1) := by decide +kernel
theorem dL_delay_3 : decode cL_delay 3 = .ok (.invokevirtual 45, 3) := by decide +kernel
theorem dL_delay_6 : decode cL_delay 6 = .ok (.i2l, 1) := by decide +kernel
theorem dL_delay_7 : decode cL_delay 7 = .ok (.lastore, 1) := by decide +kernel
theorem dL_delay_8 : decode cL_delay 8 = .ok (.goto 6, 3) := by decide +kernel
theorem dL_delay_11 : decode cL_delay 11 = .ok (.astore_n 2, 1) := by decide +kernel
theorem dL_delay_12 : decode cL_delay 12 = .ok (.iconst 1, 1) := by decide +kernel
theorem dL_delay_13 : decode cL_delay 13 = .ok (.ireturn, 1) := by decide +kernel
theorem dL_delay_14 : decode cL_delay 14 = .ok (.iconst 0, 1) := by decide +kernel
theorem dL_delay_15 : decode cL_delay 15 = .ok (.ireturn, 1) := by decide +kernel
set_option maxRecDepth 20000 in
theorem ggL_comeIn_X5_comeIn : GoodIn wsL_comeIn wsX5_comeIn := goodIn_ca (goodIn_ca (goodIn_ca (goodIn_r _ [7, 8, 9, 10, 11, 12, 6, 13, 14, 15, 16, 17, 18, 19, 20, 21, 22, 23, 24, 25, 26, 27, 28, 29, 30, 31, 32, 33, 34, 35, 36, 37, 38, 39, 40, 41, 42, 43, 44, 45, 46, 47, 48, 49, 50, 51, 52, 53, 54, 55, 56, 57, 58, 59, 60, 61, 62, 63, 64, 65, 66, 67, 68, 69, 70, 71, 72, 73, 74, 75, 76, 77, 78, 79, 80, 81, 82, 83, 84, 85, 86, 87, 88, 89, 90, 91, 92, 93, 94, 95, 96, 97, 98, 99, 100, 101, 102, 103, 104, 105, 106, 107, 108, 109, 110, 111, 112, 113, 114, 115, 116, 117, 118, 119, 120, 121, 122, 123, 124, 125, 126, 127, 128, 129, 130, 131, 132, 133, 134, 135, 136, 137, 138, 139, 140, 141, 142, 143, 144, 145, 146, 147, 148, 149, 150, 151, 152, 153, 154, 155, 156, 157, 158, 159, 160, 161, 162, 163, 164, 165, 166] (by decide +kernel) (by decide +kernel)) (goodIn_sub (fun _ h => List.mem_cons_of_mem _ (List.mem_append_left _ (List.mem_append_right _ h))) (by decide +kernel))) (goodIn_sub (fun _ h => List.mem_cons_of_mem _ (List.mem_append_left _ (List.mem_append_left _ (List.mem_append_right _ h)))) (by decide +kernel))) (goodIn_sub (fun _ h => List.mem_cons_of_mem _ (List.mem_append_right _ h)) (by decide +kernel))
set_option maxRecDepth 20000 in
theorem gL_comeIn_X5_comeIn : GoodIn wsL_comeIn (wsV RL 48 RX5 yX5_comeIn wsX5_comeIn) := goodIn_app (goodIn_of _ (by decide +kernel)) ggL_comeIn_X5_comeIn
theorem dL_comeIn_0 : decode cL_comeIn 0 = .ok (.aload_n 2, 1) := by decide +kernel
theorem dL_comeIn_1 : decode cL_comeIn 1 = .ok (.iconst 0, 1) := by decide +kernel
theorem dL_comeIn_2 : decode cL_comeIn 2 = .ok (.aload_n 0, 1) := by decide +kernel
theorem dL_comeIn_3 : decode cL_comeIn 3 = .ok (.iload_n 1, 1) := by decide +kernel
theorem dL_comeIn_4 : decode cL_comeIn 4 = .ok (.invokevirtual 48, 3) := by decide +kernel
theorem dL_comeIn_7 : decode cL_comeIn 7 = .ok (.i2l, 1) := by decide +kernel
theorem dL_comeIn_8 : decode cL_comeIn 8 = .ok (.lastore, 1) := by decide +kernel
theorem dL_comeIn_9 : decode cL_comeIn 9 = .ok (.goto 9, 3) := by decide +kernel
theorem dL_comeIn_12 : decode cL_comeIn 12 = .ok (.astore_n 3, 1) := by decide +kernel
theorem dL_comeIn_13 : decode cL_comeIn 13 = .ok (.iconst 1, 1) := by decide +kernel
theorem dL_comeIn_14 : decode cL_comeIn 14 = .ok (.ireturn, 1) := by decide +kernel
theorem dL_comeIn_15 : decode cL_comeIn 15 = .ok (.astore_n 3, 1) := by decide +kernel
theorem dL_comeIn_16 : decode cL_comeIn 16 = .ok (.iconst 2, 1) := by decide +kernel
theorem dL_comeIn_17 : decode cL_comeIn 17 = .ok (.ireturn, 1) := by decide +kernel
theorem dL_comeIn_18 : decode cL_comeIn 18 = .ok (.iconst 0, 1) := by decide +kernel
theorem dL_comeIn_19 : decode cL_comeIn 19 = .ok (.ireturn, 1) := by decide +kernel
set_option maxRecDepth 20000 in
theorem ggL_act_X5_act : GoodIn wsL_act wsX5_act := goodIn_ca (goodIn_ca (goodIn_ca (goodIn_ca (goodIn_r _ [8, 9, 10, 11, 12, 13, 14, 15, 7, 16, 17, 18, 19, 20, 21, 22, 23, 24, 25, 26, 27, 28, 29, 30, 31, 32, 33, 34, 35, 36, 37, 38, 39, 40, 41, 42, 43, 44, 45, 46, 47, 48, 49, 50, 51, 52, 53, 54, 55, 56, 57, 58, 59, 60, 61, 62, 63, 64, 65, 66, 67, 68, 69, 70, 71, 72, 73, 74, 75, 76, 77, 78, 79, 80, 81, 82, 83, 84, 85, 86, 87, 88, 89, 90, 91, 92, 93, 94, 95, 96, 97, 98, 99, 100, 101, 102, 103, 104, 105, 106, 107, 108, 109, 110, 111, 112, 113, 114, 115, 116, 117, 118, 119, 120, 121, 122, 123, 124, 125, 126, 127, 128, 129, 130, 131, 132, 133, 134, 135, 136, 137, 138, 139, 140, 141, 142, 143, 144, 145, 146, 147, 148, 149, 150, 151, 152, 153, 154, 155, 156, 157, 158, 159, 160, 161, 162, 163, 164, 165, 166, 167, 168, 169, 170, 171] (by decide +kernel) (by decide +kernel)) (goodIn_sub (fun _ h => List.mem_cons_of_mem _ (List.mem_append_left _ (List.mem_append_left _ (List.mem_append_right _ h)))) (by decide +kernel))) (goodIn_sub (fun _ h => List.mem_cons_of_mem _ (List.mem_append_left _ (List.mem_append_right _ h))) (by decide +kernel))) (goodIn_sub (fun _ h => List.mem_cons_of_mem _ (List.mem_append_left _ (List.mem_append_left _ (List.mem_append_left _ (List.mem_append_right _ h))))) (by decide +kernel))) (goodIn_sub (fun _ h => List.mem_cons_of_mem _ (List.mem_append_right _ h)) (by decide +kernel))
set_option maxRecDepth 20000 in
theorem gL_act_X5_act : GoodIn wsL_act (wsV RL 51 RX5 yX5_act wsX5_act) := goodIn_app (goodIn_of _ (by decide +kernel)) ggL_act_X5_act
theorem dL_act_0 : decode cL_act 0 = .ok (.aload 5, 2) := by decide +kernel
theorem dL_act_2 : decode cL_act 2 = .ok (.iconst 0, 1) := by decide +kernel
theorem dL_act_3 : decode cL_act 3 = .ok (.aload_n 0, 1) := by decide +kernel
theorem dL_act_4 : decode cL_act 4 = .ok (.iload_n 1, 1) := by decide +kernel
theorem dL_act_5 : decode cL_act 5 = .ok (.iload_n 2, 1) := by decide +kernel
theorem dL_act_6 : decode cL_act 6 = .ok (.iload_n 3, 1) := by decide +kernel
theorem dL_act_7 : decode cL_act 7 = .ok (.iload 4, 2) := by decide +kernel
theorem dL_act_9 : decode cL_act 9 = .ok (.invokevirtual 51, 3) := by decide +kernel
theorem dL_act_12 : decode cL_act 12 = .ok (.i2l, 1) := by decide +kernel
theorem dL_act_13 : decode cL_act 13 = .ok (.lastore, 1) := by decide +kernel
theorem dL_act_14 : decode cL_act 14 = .ok (.goto 15, 3) := by decide +kernel
theorem dL_act_17 : decode cL_act 17 = .ok (.astore 6, 2) := by decide +kernel
theorem dL_act_19 : decode cL_act 19 = .ok (.iconst 1, 1) := by decide +kernel
theorem dL_act_20 : decode cL_act 20 = .ok (.ireturn, 1) := by decide +kernel
theorem dL_act_21 : decode cL_act 21 = .ok (.astore 6, 2) := by decide +kernel
theorem dL_act_23 : decode cL_act 23 = .ok (.iconst 2, 1) := by decide +kernel
theorem dL_act_24 : decode cL_act 24 = .ok (.ireturn, 1) := by decide +kernel
theorem dL_act_25 : decode cL_act 25 = .ok (.astore 6, 2) := by decide +kernel
theorem dL_act_27 : decode cL_act 27 = .ok (.iconst 3, 1) := by decide +kernel
theorem dL_act_28 : decode cL_act 28 = .ok (.ireturn, 1) := by decide +kernel
theorem dL_act_29 : decode cL_act 29 = .ok (.iconst 0, 1) := by decide +kernel
theorem dL_act_30 : decode cL_act 30 = .ok (.ireturn, 1) := by decide +kernel
set_option maxRecDepth 20000 in
theorem ggL_cast_X5_cast : GoodIn wsL_cast wsX5_cast := goodIn_ca (goodIn_ca (goodIn_ca (goodIn_ca (goodIn_r _ [8, 9, 10, 11, 12, 13, 7, 14, 15, 16, 17, 18, 19, 20, 21, 22, 23, 24, 25, 26, 27, 28, 29, 30, 31, 32, 33, 34, 35, 36, 37, 38, 39, 40, 41, 42, 43, 44, 45, 46, 47, 48, 49, 50, 51, 52, 53, 54, 55, 56, 57, 58, 59, 60, 61, 62, 63, 64, 65, 66, 67, 68, 69, 70, 71, 72, 73, 74, 75, 76, 77, 78, 79, 80, 81, 82, 83, 84, 85, 86, 87, 88, 89, 90, 91, 92, 93, 94, 95, 96, 97, 98, 99, 100, 101, 102, 103, 104, 105, 106, 107, 108, 109, 110, 111, 112, 113, 114, 115, 116, 117, 118, 119, 120, 121, 122, 123, 124, 125, 126, 127, 128, 129, 130, 131, 132, 133, 134, 135, 136, 137, 138, 139, 140, 141, 142, 143, 144, 145, 146, 147, 148, 149, 150, 151, 152, 153, 154, 155, 156, 157, 158, 159, 160, 161, 162, 163, 164, 165, 166, 167, 168, 169, 170, 171] (by decide +kernel) (by decide +kernel)) (goodIn_sub (fun _ h => List.mem_cons_of_mem _ (List.mem_append_left _ (List.mem_append_left _ (List.mem_append_right _ h)))) (by decide +kernel))) (goodIn_sub (fun _ h => List.mem_cons_of_mem _ (List.mem_append_left _ (List.mem_append_right _ h))) (by decide +kernel))) (goodIn_sub (fun _ h => List.mem_cons_of_mem _ (List.mem_append_left _ (List.mem_append_left _ (List.mem_append_left _ (List.mem_append_right _ h))))) (by decide +kernel))) (goodIn_sub (fun _ h => List.mem_cons_of_mem _ (List.mem_append_right _ h)) (by decide +kernel))
set_option maxRecDepth 20000 in
theorem gL_cast_X5_cast : GoodIn wsL_cast (wsV RL 55 RX5 yX5_cast wsX5_cast) := goodIn_app (goodIn_of _ (by decide +kernel)) ggL_cast_X5_cast
theorem dL_cast_0 : decode cL_cast 0 = .ok (.aload 7, 2) := by decide +kernel
theorem dL_cast_2 : decode cL_cast 2 = .ok (.iconst 0, 1) := by decide +kernel
theorem dL_cast_3 : decode cL_cast 3 = .ok (.aload_n 0, 1) := by decide +kernel
theorem dL_cast_4 : decode cL_cast 4 = .ok (.iload_n 1, 1) := by decide +kernel
theorem dL_cast_5 : decode cL_cast 5 = .ok (.iload_n 2, 1) := by decide +kernel
theorem dL_cast_6 : decode cL_cast 6 = .ok (.iload_n 3, 1) := by decide +kernel
theorem dL_cast_7 : decode cL_cast 7 = .ok (.iload 4, 2) := by decide +kernel
theorem dL_cast_9 : decode cL_cast 9 = .ok (.iload 5, 2) := by decide +kernel
theorem dL_cast_11 : decode cL_cast 11 = .ok (.iload 6, 2) := by decide +kernel
theorem dL_cast_13 : decode cL_cast 13 = .ok (.invokevirtual 55, 3) := by decide +kernel
theorem dL_cast_16 : decode cL_cast 16 = .ok (.i2l, 1) := by decide +kernel
theorem dL_cast_17 : decode cL_cast 17 = .ok (.lastore, 1) := by decide +kernel
theorem dL_cast_18 : decode cL_cast 18 = .ok (.goto 15, 3) := by decide +kernel
theorem dL_cast_21 : decode cL_cast 21 = .ok (.astore 8, 2) := by decide +kernel
theorem dL_cast_23 : decode cL_cast 23 = .ok (.iconst 1, 1) := by decide +kernel
theorem dL_cast_24 : decode cL_cast 24 = .ok (.ireturn, 1) := by decide +kernel
theorem dL_cast_25 : decode cL_cast 25 = .ok (.astore 8, 2) := by decide +kernel
theorem dL_cast_27 : decode cL_cast 27 = .ok (.iconst 2, 1) := by decide +kernel
theorem dL_cast_28 : decode cL_cast 28 = .ok (.ireturn, 1) := by decide +kernel
theorem dL_cast_29 : decode cL_cast 29 = .ok (.astore 8, 2) := by decide +kernel
theorem dL_cast_31 : decode cL_cast 31 = .ok (.iconst 3, 1) := by decide +kernel
theorem dL_cast_32 : decode cL_cast 32 = .ok (.ireturn, 1) := by decide +kernel
theorem dL_cast_33 : decode cL_cast 33 = .ok (.iconst 0, 1) := by decide +kernel
theorem dL_cast_34 : decode cL_cast 34 = .ok (.ireturn, 1) := by decide +kernel
set_option maxRecDepth 20000 in
theorem ggL_settle_X5_settle : GoodIn wsL_settle wsX5_settle := goodIn_ca (goodIn_ca (goodIn_r _ [6, 7, 8, 9, 10, 11, 12, 13, 14, 15, 16, 17, 18, 19, 20, 21, 22, 5, 23, 24, 25, 26, 27, 28, 29, 30, 31, 32, 33, 34, 35, 36, 37, 38, 39, 40, 41, 42, 43, 44, 45, 46, 47, 48, 49, 50, 51, 52, 53, 54, 55, 56, 57, 58, 59, 60, 61, 62, 63, 64, 65, 66, 67, 68, 69, 70, 71, 72, 73, 74, 75, 76, 77, 78, 79, 80, 81, 82, 83, 84, 85, 86, 87, 88, 89, 90, 91, 92, 93, 94, 95, 96, 97, 98, 99, 100, 101, 102, 103, 104, 105, 106, 107, 108, 109, 110, 111, 112, 113, 114, 115, 116, 117, 118, 119, 120, 121, 122, 123, 124, 125, 126, 127, 128, 129, 130, 131, 132, 133, 134, 135, 136, 137, 138, 139, 140, 141, 142, 143, 144, 145, 146, 147, 148, 149, 150, 151, 152, 153, 154, 155, 156, 157, 158, 159, 160, 161, 162, 163, 164, 165, 166, 167, 168, 169, 170, 171, 172, 173, 174, 175, 176, 177, 178, 179, 180, 181, 182, 183, 184, 185, 186, 187, 188, 189, 190, 191, 192, 193, 194, 195, 196] (by decide +kernel) (by decide +kernel)) (goodIn_sub (fun _ h => List.mem_cons_of_mem _ (List.mem_append_right _ h)) (by decide +kernel))) (goodIn_sub (fun _ h => List.mem_cons_of_mem _ (List.mem_append_left _ (List.mem_append_right _ h))) (by decide +kernel))
set_option maxRecDepth 20000 in
theorem gL_settle_X5_settle : GoodIn wsL_settle (wsV RL 59 RX5 yX5_settle wsX5_settle) := goodIn_app (goodIn_of _ (by decide +kernel)) ggL_settle_X5_settle
theorem dL_settle_0 : decode cL_settle 0 = .ok (.aload_n 1, 1) := by decide +kernel
theorem dL_settle_1 : decode cL_settle 1 = .ok (.iconst 0, 1) := by decide +kernel
theorem dL_settle_2 : decode cL_settle 2 = .ok (.aload_n 0, 1) := by decide +kernel
theorem dL_settle_3 : decode cL_settle 3 = .ok (.invokevirtual 59, 3) := by decide +kernel
theorem dL_settle_6 : decode cL_settle 6 = .ok (.i2l, 1) := by decide +kernel
theorem dL_settle_7 : decode cL_settle 7 = .ok (.lastore, 1) := by decide +kernel
theorem dL_settle_8 : decode cL_settle 8 = .ok (.goto 6, 3) := by decide +kernel
theorem dL_settle_11 : decode cL_settle 11 = .ok (.astore_n 2, 1) := by decide +kernel
theorem dL_settle_12 : decode cL_settle 12 = .ok (.iconst 1, 1) := by decide +kernel
theorem dL_settle_13 : decode cL_settle 13 = .ok (.ireturn, 1) := by decide +kernel
theorem dL_settle_14 : decode cL_settle 14 = .ok (.iconst 0, 1) := by decide +kernel
theorem dL_settle_15 : decode cL_settle 15 = .ok (.ireturn, 1) := by decide +kernel
set_option maxRecDepth 20000 in
theorem ggL_stacked_X5_stacked : GoodIn wsL_stacked wsX5_stacked := goodIn_ca (goodIn_ca (goodIn_ca (goodIn_r _ [7, 8, 9, 10, 11, 12, 13, 14, 15, 16, 17, 18, 19, 20, 21, 22, 23, 24, 6, 25, 26, 27, 28, 29, 30, 31, 32, 33, 34, 35, 36, 37, 38, 39, 40, 41, 42, 43, 44, 45, 46, 47, 48, 49, 50, 51, 52, 53, 54, 55, 56, 57] (by decide +kernel) (by decide +kernel)) (goodIn_sub (fun _ h => List.mem_cons_of_mem _ (List.mem_append_left _ (List.mem_append_right _ h))) (by decide +kernel))) (goodIn_sub (fun _ h => List.mem_cons_of_mem _ (List.mem_append_right _ h)) (by decide +kernel))) (goodIn_sub (fun _ h => List.mem_cons_of_mem _ (List.mem_append_left _ (List.mem_append_left _ (List.mem_append_right _ h)))) (by decide +kernel))
set_option maxRecDepth 20000 in
theorem gL_stacked_X5_stacked : GoodIn wsL_stacked (wsV RL 62 RX5 yX5_stacked wsX5_stacked) := goodIn_app (goodIn_of _ (by decide +kernel)) ggL_stacked_X5_stacked
theorem dL_stacked_0 : decode cL_stacked 0 = .ok (.aload_n 3, 1) := by decide +kernel
theorem dL_stacked_1 : decode cL_stacked 1 = .ok (.iconst 0, 1) := by decide +kernel
theorem dL_stacked_2 : decode cL_stacked 2 = .ok (.aload_n 0, 1) := by decide +kernel
theorem dL_stacked_3 : decode cL_stacked 3 = .ok (.iload_n 1, 1) := by decide +kernel
theorem dL_stacked_4 : decode cL_stacked 4 = .ok (.iload_n 2, 1) := by decide +kernel
theorem dL_stacked_5 : decode cL_stacked 5 = .ok (.invokevirtual 62, 3) := by decide +kernel
theorem dL_stacked_8 : decode cL_stacked 8 = .ok (.i2l, 1) := by decide +kernel
theorem dL_stacked_9 : decode cL_stacked 9 = .ok (.lastore, 1) := by decide +kernel
theorem dL_stacked_10 : decode cL_stacked 10 = .ok (.goto 11, 3) := by decide +kernel
theorem dL_stacked_13 : decode cL_stacked 13 = .ok (.astore 4, 2) := by decide +kernel
theorem dL_stacked_15 : decode cL_stacked 15 = .ok (.iconst 1, 1) := by decide +kernel
theorem dL_stacked_16 : decode cL_stacked 16 = .ok (.ireturn, 1) := by decide +kernel
theorem dL_stacked_17 : decode cL_stacked 17 = .ok (.astore 4, 2) := by decide +kernel
theorem dL_stacked_19 : decode cL_stacked 19 = .ok (.iconst 2, 1) := by decide +kernel
theorem dL_stacked_20 : decode cL_stacked 20 = .ok (.ireturn, 1) := by decide +kernel
theorem dL_stacked_21 : decode cL_stacked 21 = .ok (.iconst 0, 1) := by decide +kernel
theorem dL_stacked_22 : decode cL_stacked 22 = .ok (.ireturn, 1) := by decide +kernel
set_option maxRecDepth 20000 in
theorem ggL_mayAnswer_X5_mayAnswer : GoodIn wsL_mayAnswer wsX5_mayAnswer := goodIn_ca (goodIn_ca (goodIn_r _ [6, 7, 8, 9, 10, 5, 11, 12, 13, 14, 15, 16, 17, 18, 19, 20, 21, 22, 23, 24, 25, 26, 27, 28, 29, 30, 31, 32, 33, 34, 35, 36, 37, 38, 39, 40, 41, 42, 43, 44, 45, 46, 47, 48, 49, 50, 51, 52, 53, 54, 55, 56, 57, 58, 59, 60, 61, 62, 63, 64, 65] (by decide +kernel) (by decide +kernel)) (goodIn_sub (fun _ h => List.mem_cons_of_mem _ (List.mem_append_right _ h)) (by decide +kernel))) (goodIn_sub (fun _ h => List.mem_cons_of_mem _ (List.mem_append_left _ (List.mem_append_right _ h))) (by decide +kernel))
set_option maxRecDepth 20000 in
theorem gL_mayAnswer_X5_mayAnswer : GoodIn wsL_mayAnswer (wsV RL 65 RX5 yX5_mayAnswer wsX5_mayAnswer) := goodIn_app (goodIn_of _ (by decide +kernel)) ggL_mayAnswer_X5_mayAnswer
theorem dL_mayAnswer_0 : decode cL_mayAnswer 0 = .ok (.aload_n 2, 1) := by decide +kernel
theorem dL_mayAnswer_1 : decode cL_mayAnswer 1 = .ok (.iconst 0, 1) := by decide +kernel
theorem dL_mayAnswer_2 : decode cL_mayAnswer 2 = .ok (.aload_n 0, 1) := by decide +kernel
theorem dL_mayAnswer_3 : decode cL_mayAnswer 3 = .ok (.iload_n 1, 1) := by decide +kernel
theorem dL_mayAnswer_4 : decode cL_mayAnswer 4 = .ok (.invokevirtual 65, 3) := by decide +kernel
theorem dL_mayAnswer_7 : decode cL_mayAnswer 7 = .ok (.ifCond .eq 7, 3) := by decide +kernel
theorem dL_mayAnswer_10 : decode cL_mayAnswer 10 = .ok (.lconst 1, 1) := by decide +kernel
theorem dL_mayAnswer_11 : decode cL_mayAnswer 11 = .ok (.goto 4, 3) := by decide +kernel
theorem dL_mayAnswer_14 : decode cL_mayAnswer 14 = .ok (.lconst 0, 1) := by decide +kernel
theorem dL_mayAnswer_15 : decode cL_mayAnswer 15 = .ok (.lastore, 1) := by decide +kernel
theorem dL_mayAnswer_16 : decode cL_mayAnswer 16 = .ok (.goto 6, 3) := by decide +kernel
theorem dL_mayAnswer_19 : decode cL_mayAnswer 19 = .ok (.astore_n 3, 1) := by decide +kernel
theorem dL_mayAnswer_20 : decode cL_mayAnswer 20 = .ok (.iconst 1, 1) := by decide +kernel
theorem dL_mayAnswer_21 : decode cL_mayAnswer 21 = .ok (.ireturn, 1) := by decide +kernel
theorem dL_mayAnswer_22 : decode cL_mayAnswer 22 = .ok (.iconst 0, 1) := by decide +kernel
theorem dL_mayAnswer_23 : decode cL_mayAnswer 23 = .ok (.ireturn, 1) := by decide +kernel
set_option maxRecDepth 20000 in
theorem ggL_upcoming_X5_upcoming : GoodIn wsL_upcoming wsX5_upcoming := goodIn_ca (goodIn_ca (goodIn_r _ [6, 7, 8, 9, 10, 5, 11, 12, 13, 14, 15, 16, 17, 18, 19, 20, 21, 22, 23, 24, 25, 26, 27, 28, 29, 30, 31, 32, 33, 34, 35, 36, 37, 38, 39, 40, 41, 42, 43, 44, 45, 46, 47, 48, 49, 50, 51, 52, 53, 54, 55, 56, 57, 58, 59, 60, 61, 62, 63, 64, 65, 66, 67, 68, 69, 70, 71, 72, 73, 74, 75, 76, 77, 78, 79, 80, 81, 82, 83, 84, 85, 86, 87, 88, 89, 90, 91, 92, 93, 94, 95, 96, 97, 98, 99, 100, 101, 102, 103, 104, 105, 106, 107, 108, 109, 110, 111, 112, 113, 114, 115, 116, 117, 118, 119, 120, 121, 122, 123, 124, 125, 126, 127, 128, 129, 130, 131, 132, 133, 134, 135, 136, 137, 138, 139, 140, 141, 142, 143, 144, 145, 146, 147, 148, 149, 150, 151, 152, 153, 154, 155, 156, 157, 158, 159, 160, 161, 162, 163, 164, 165, 166, 167, 168, 169, 170, 171, 172, 173, 174, 175, 176, 177, 178, 179, 180, 181, 182, 183, 184, 185, 186, 187, 188, 189, 190, 191, 192, 193, 194, 195, 196, 197, 198, 199, 200, 201, 202, 203, 204, 205, 206, 207, 208, 209, 210, 211, 212] (by decide +kernel) (by decide +kernel)) (goodIn_sub (fun _ h => List.mem_cons_of_mem _ (List.mem_append_right _ h)) (by decide +kernel))) (goodIn_sub (fun _ h => List.mem_cons_of_mem _ (List.mem_append_left _ (List.mem_append_right _ h))) (by decide +kernel))
set_option maxRecDepth 20000 in
theorem gL_upcoming_X5_upcoming : GoodIn wsL_upcoming (wsV RL 69 RX5 yX5_upcoming wsX5_upcoming) := goodIn_app (goodIn_of _ (by decide +kernel)) ggL_upcoming_X5_upcoming
theorem dL_upcoming_0 : decode cL_upcoming 0 = .ok (.aload_n 2, 1) := by decide +kernel
theorem dL_upcoming_1 : decode cL_upcoming 1 = .ok (.iconst 0, 1) := by decide +kernel
theorem dL_upcoming_2 : decode cL_upcoming 2 = .ok (.aload_n 0, 1) := by decide +kernel
theorem dL_upcoming_3 : decode cL_upcoming 3 = .ok (.iload_n 1, 1) := by decide +kernel
theorem dL_upcoming_4 : decode cL_upcoming 4 = .ok (.invokevirtual 69, 3) := by decide +kernel
theorem dL_upcoming_7 : decode cL_upcoming 7 = .ok (.i2l, 1) := by decide +kernel
theorem dL_upcoming_8 : decode cL_upcoming 8 = .ok (.lastore, 1) := by decide +kernel
theorem dL_upcoming_9 : decode cL_upcoming 9 = .ok (.goto 6, 3) := by decide +kernel
theorem dL_upcoming_12 : decode cL_upcoming 12 = .ok (.astore_n 3, 1) := by decide +kernel
theorem dL_upcoming_13 : decode cL_upcoming 13 = .ok (.iconst 1, 1) := by decide +kernel
theorem dL_upcoming_14 : decode cL_upcoming 14 = .ok (.ireturn, 1) := by decide +kernel
theorem dL_upcoming_15 : decode cL_upcoming 15 = .ok (.iconst 0, 1) := by decide +kernel
theorem dL_upcoming_16 : decode cL_upcoming 16 = .ok (.ireturn, 1) := by decide +kernel
set_option maxRecDepth 20000 in
theorem ggL_goneAfter_X5_goneAfter : GoodIn wsL_goneAfter wsX5_goneAfter := goodIn_ca (goodIn_ca (goodIn_r _ [6, 7, 8, 9, 10, 11, 5, 12, 13, 14, 15, 16, 17, 18, 19, 20, 21, 22, 23, 24, 25, 26, 27, 28, 29, 30, 31, 32, 33, 34, 35, 36, 37, 38, 39, 40, 41, 42, 43, 44, 45, 46, 47, 48, 49, 50, 51, 52, 53, 54, 55, 56, 57, 58, 59, 60, 61, 62, 63, 64, 65, 66, 67, 68, 69, 70, 71, 72, 73, 74, 75, 76, 77, 78, 79, 80, 81, 82, 83, 84, 85, 86, 87, 88, 89, 90, 91, 92, 93, 94, 95, 96, 97, 98, 99, 100, 101, 102, 103, 104, 105, 106, 107, 108, 109, 110, 111, 112, 113, 114, 115, 116, 117, 118, 119, 120, 121, 122, 123, 124, 125, 126, 127, 128, 129, 130, 131, 132, 133, 134, 135, 136, 137, 138, 139, 140, 141, 142, 143, 144, 145, 146, 147, 148, 149, 150, 151, 152, 153, 154, 155, 156, 157, 158, 159, 160, 161, 162, 163, 164, 165, 166, 167, 168, 169, 170, 171, 172, 173, 174, 175, 176, 177, 178, 179, 180, 181, 182, 183, 184, 185, 186, 187, 188, 189, 190, 191, 192, 193, 194, 195, 196, 197, 198, 199, 200, 201, 202, 203, 204, 205, 206, 207, 208, 209, 210, 211, 212, 213, 214, 215, 216, 217, 218, 219, 220, 221, 222, 223, 224, 225, 226, 227, 228, 229, 230, 231, 232, 233] (by decide +kernel) (by decide +kernel)) (goodIn_sub (fun _ h => List.mem_cons_of_mem _ (List.mem_append_right _ h)) (by decide +kernel))) (goodIn_sub (fun _ h => List.mem_cons_of_mem _ (List.mem_append_left _ (List.mem_append_right _ h))) (by decide +kernel))
set_option maxRecDepth 20000 in
theorem gL_goneAfter_X5_goneAfter : GoodIn wsL_goneAfter (wsV RL 72 RX5 yX5_goneAfter wsX5_goneAfter) := goodIn_app (goodIn_of _ (by decide +kernel)) ggL_goneAfter_X5_goneAfter
theorem dL_goneAfter_0 : decode cL_goneAfter 0 = .ok (.aload_n 2, 1) := by decide +kernel
theorem dL_goneAfter_1 : decode cL_goneAfter 1 = .ok (.iconst 0, 1) := by decide +kernel
theorem dL_goneAfter_2 : decode cL_goneAfter 2 = .ok (.aload_n 0, 1) := by decide +kernel
theorem dL_goneAfter_3 : decode cL_goneAfter 3 = .ok (.iload_n 1, 1) := by decide +kernel
theorem dL_goneAfter_4 : decode cL_goneAfter 4 = .ok (.invokevirtual 72, 3) := by decide +kernel
theorem dL_goneAfter_7 : decode cL_goneAfter 7 = .ok (.i2l, 1) := by decide +kernel
theorem dL_goneAfter_8 : decode cL_goneAfter 8 = .ok (.lastore, 1) := by decide +kernel
theorem dL_goneAfter_9 : decode cL_goneAfter 9 = .ok (.goto 6, 3) := by decide +kernel
theorem dL_goneAfter_12 : decode cL_goneAfter 12 = .ok (.astore_n 3, 1) := by decide +kernel
theorem dL_goneAfter_13 : decode cL_goneAfter 13 = .ok (.iconst 1, 1) := by decide +kernel
theorem dL_goneAfter_14 : decode cL_goneAfter 14 = .ok (.ireturn, 1) := by decide +kernel
theorem dL_goneAfter_15 : decode cL_goneAfter 15 = .ok (.iconst 0, 1) := by decide +kernel
theorem dL_goneAfter_16 : decode cL_goneAfter 16 = .ok (.ireturn, 1) := by decide +kernel
set_option maxRecDepth 20000 in
theorem ggL_append_X5_append : GoodIn wsL_append wsX5_append := goodIn_ca (goodIn_ca (goodIn_ca (goodIn_r _ [7, 8, 9, 10, 6, 11, 12, 13, 14, 15, 16, 17, 18, 19, 20, 21, 22, 23, 24, 25, 26, 27, 28, 29, 30, 31, 32, 33, 34, 35, 36, 37, 38, 39, 40, 41, 42, 43, 44, 45, 46, 47, 48, 49, 50, 51, 52, 53, 54, 55, 56, 57, 58, 59, 60, 61, 62, 63, 64, 65, 66, 67, 68, 69, 70, 71, 72, 73, 74, 75, 76, 77, 78, 79, 80, 81, 82, 83] (by decide +kernel) (by decide +kernel)) (goodIn_sub (fun _ h => List.mem_cons_of_mem _ (List.mem_append_left _ (List.mem_append_right _ h))) (by decide +kernel))) (goodIn_sub (fun _ h => List.mem_cons_of_mem _ (List.mem_append_right _ h)) (by decide +kernel))) (goodIn_sub (fun _ h => List.mem_cons_of_mem _ (List.mem_append_left _ (List.mem_append_left _ (List.mem_append_right _ h)))) (by decide +kernel))
set_option maxRecDepth 20000 in
theorem gL_append_X5_append : GoodIn wsL_append (wsV RL 75 RX5 yX5_append wsX5_append) := goodIn_app (goodIn_of _ (by decide +kernel)) ggL_append_X5_append
theorem dL_append_0 : decode cL_append 0 = .ok (.aload_n 2, 1) := by decide +kernel
theorem dL_append_1 : decode cL_append 1 = .ok (.iconst 0, 1) := by decide +kernel
theorem dL_append_2 : decode cL_append 2 = .ok (.aload_n 0, 1) := by decide +kernel
theorem dL_append_3 : decode cL_append 3 = .ok (.iload_n 1, 1) := by decide +kernel
theorem dL_append_4 : decode cL_append 4 = .ok (.invokevirtual 75, 3) := by decide +kernel
theorem dL_append_7 : decode cL_append 7 = .ok (.i2l, 1) := by decide +kernel
theorem dL_append_8 : decode cL_append 8 = .ok (.lastore, 1) := by decide +kernel
theorem dL_append_9 : decode cL_append 9 = .ok (.goto 9, 3) := by decide +kernel
theorem dL_append_12 : decode cL_append 12 = .ok (.astore_n 3, 1) := by decide +kernel
theorem dL_append_13 : decode cL_append 13 = .ok (.iconst 1, 1) := by decide +kernel
theorem dL_append_14 : decode cL_append 14 = .ok (.ireturn, 1) := by decide +kernel
theorem dL_append_15 : decode cL_append 15 = .ok (.astore_n 3, 1) := by decide +kernel
theorem dL_append_16 : decode cL_append 16 = .ok (.iconst 2, 1) := by decide +kernel
theorem dL_append_17 : decode cL_append 17 = .ok (.ireturn, 1) := by decide +kernel
theorem dL_append_18 : decode cL_append 18 = .ok (.iconst 0, 1) := by decide +kernel
theorem dL_append_19 : decode cL_append 19 = .ok (.ireturn, 1) := by decide +kernel
set_option maxRecDepth 20000 in
theorem ggL_undo_X5_undo : GoodIn wsL_undo wsX5_undo := goodIn_ca (goodIn_r _ [6, 7, 8, 9, 10, 11, 12, 13, 14, 15, 16, 5, 17, 18, 19, 20, 21, 22, 23, 24, 25, 26, 27, 28, 29, 30, 31, 32, 33, 34, 35, 36, 37, 38, 39, 40, 41, 42, 43, 44, 45, 46, 47, 48, 49, 50, 51, 52, 53, 54, 55, 56, 57, 58, 59, 60, 61, 62, 63, 64, 65, 66, 67, 68, 69, 70, 71, 72, 73, 74, 75, 76, 77, 78, 79, 80, 81, 82, 83, 84, 85, 86, 87] (by decide +kernel) (by decide +kernel)) (goodIn_sub (fun _ h => List.mem_cons_of_mem _ (List.mem_append_right _ h)) (by decide +kernel))
set_option maxRecDepth 20000 in
theorem gL_undo_X5_undo : GoodIn wsL_undo (wsV RL 78 RX5 yX5_undo wsX5_undo) := goodIn_app (goodIn_of _ (by decide +kernel)) ggL_undo_X5_undo
theorem dL_undo_0 : decode cL_undo 0 = .ok (.aload_n 1, 1) := by decide +kernel
theorem dL_undo_1 : decode cL_undo 1 = .ok (.iconst 0, 1) := by decide +kernel
theorem dL_undo_2 : decode cL_undo 2 = .ok (.aload_n 0, 1) := by decide +kernel
theorem dL_undo_3 : decode cL_undo 3 = .ok (.invokevirtual 78, 3) := by decide +kernel
theorem dL_undo_6 : decode cL_undo 6 = .ok (.i2l, 1) := by decide +kernel
theorem dL_undo_7 : decode cL_undo 7 = .ok (.lastore, 1) := by decide +kernel
theorem dL_undo_8 : decode cL_undo 8 = .ok (.goto 6, 3) := by decide +kernel
theorem dL_undo_11 : decode cL_undo 11 = .ok (.astore_n 2, 1) := by decide +kernel
theorem dL_undo_12 : decode cL_undo 12 = .ok (.iconst 1, 1) := by decide +kernel
theorem dL_undo_13 : decode cL_undo 13 = .ok (.ireturn, 1) := by decide +kernel
theorem dL_undo_14 : decode cL_undo 14 = .ok (.iconst 0, 1) := by decide +kernel
theorem dL_undo_15 : decode cL_undo 15 = .ok (.ireturn, 1) := by decide +kernel
