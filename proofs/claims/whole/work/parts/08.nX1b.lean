theorem dX1_settleStack_20 : decode cX1_settleStack 20 = .ok (.aload_n 0, 1) := by decide +kernel
theorem dX1_settleStack_21 : decode cX1_settleStack 21 = .ok (.invokevirtual 175, 3) := by decide +kernel
theorem dX1_settleStack_24 : decode cX1_settleStack 24 = .ok (.ifCond .eq 6, 3) := by decide +kernel
theorem dX1_settleStack_27 : decode cX1_settleStack 27 = .ok (.iinc 1 1, 3) := by decide +kernel
theorem dX1_settleStack_30 : decode cX1_settleStack 30 = .ok (.iinc 2 1, 3) := by decide +kernel
theorem dX1_settleStack_33 : decode cX1_settleStack 33 = .ok (.goto (-29), 3) := by decide +kernel
theorem dX1_settleStack_36 : decode cX1_settleStack 36 = .ok (.aload_n 0, 1) := by decide +kernel
theorem dX1_settleStack_37 : decode cX1_settleStack 37 = .ok (.getfield 37, 3) := by decide +kernel
theorem dX1_settleStack_40 : decode cX1_settleStack 40 = .ok (.iconst (-1), 1) := by decide +kernel
theorem dX1_settleStack_41 : decode cX1_settleStack 41 = .ok (.if_icmp .eq 19, 3) := by decide +kernel
theorem dX1_settleStack_44 : decode cX1_settleStack 44 = .ok (.aload_n 0, 1) := by decide +kernel
theorem dX1_settleStack_45 : decode cX1_settleStack 45 = .ok (.aload_n 0, 1) := by decide +kernel
theorem dX1_settleStack_46 : decode cX1_settleStack 46 = .ok (.getfield 37, 3) := by decide +kernel
theorem dX1_settleStack_49 : decode cX1_settleStack 49 = .ok (.invokevirtual 104, 3) := by decide +kernel
theorem dX1_settleStack_52 : decode cX1_settleStack 52 = .ok (.ifCond .ne 8, 3) := by decide +kernel
theorem dX1_settleStack_55 : decode cX1_settleStack 55 = .ok (.aload_n 0, 1) := by decide +kernel
theorem dX1_settleStack_56 : decode cX1_settleStack 56 = .ok (.iconst (-1), 1) := by decide +kernel
theorem dX1_settleStack_57 : decode cX1_settleStack 57 = .ok (.putfield 37, 3) := by decide +kernel
theorem dX1_settleStack_60 : decode cX1_settleStack 60 = .ok (.iload_n 1, 1) := by decide +kernel
theorem dX1_settleStack_61 : decode cX1_settleStack 61 = .ok (.ireturn, 1) := by decide +kernel
set_option maxRecDepth 20000 in
theorem ggX1_settleTop_X1_aboutAct : GoodIn wsX1_settleTop wsX1_aboutAct := goodIn_ca (goodIn_r _ [10, 11, 12, 13, 14, 15, 16, 17, 18, 19, 20, 21, 22, 23, 106, 107, 108, 109, 110, 111, 112, 113, 114, 115, 116, 117, 118] (by decide +kernel) (by decide +kernel)) (goodIn_sub (fun _ h => List.mem_cons_of_mem _ (List.mem_append_right _ h)) (by decide +kernel))
set_option maxRecDepth 20000 in
theorem gX1_settleTop_X1_aboutAct : GoodIn wsX1_settleTop (wsV RX1 169 RX1 yX1_aboutAct wsX1_aboutAct) := goodIn_app (goodIn_of _ (by decide +kernel)) ggX1_settleTop_X1_aboutAct
set_option maxRecDepth 20000 in
theorem ggX1_settleTop_X1_dropTop : GoodIn wsX1_settleTop wsX1_dropTop := goodIn_r _ [27, 11, 12, 13, 14, 15, 16, 17, 28, 29, 30, 31, 22, 23, 32, 33, 34, 35, 106, 107, 108, 109, 110, 111, 112, 113, 114, 115, 116, 117, 118] (by decide +kernel) (by decide +kernel)
set_option maxRecDepth 20000 in
theorem gX1_settleTop_X1_dropTop : GoodIn wsX1_settleTop (wsV RX1 178 RX1 yX1_dropTop wsX1_dropTop) := goodIn_app (goodIn_of _ (by decide +kernel)) ggX1_settleTop_X1_dropTop
set_option maxRecDepth 20000 in
theorem ggX1_settleTop_X1_stands : GoodIn wsX1_settleTop wsX1_stands := goodIn_ca (goodIn_r _ [39, 40, 18, 19, 20, 15, 21, 17, 22, 23, 106, 107, 108, 109, 110, 111, 112, 113, 114, 115, 116, 117, 118] (by decide +kernel) (by decide +kernel)) (goodIn_sub (fun _ h => List.mem_cons_of_mem _ (List.mem_append_right _ h)) (by decide +kernel))
set_option maxRecDepth 20000 in
theorem gX1_settleTop_X1_stands : GoodIn wsX1_settleTop (wsV RX1 104 RX1 yX1_stands wsX1_stands) := goodIn_app (goodIn_of _ (by decide +kernel)) ggX1_settleTop_X1_stands
set_option maxRecDepth 20000 in
theorem ggX1_settleTop_X0_powerOn : GoodIn wsX1_settleTop wsX0_powerOn := goodIn_ca (goodIn_r _ [45, 46, 47, 13, 14, 15, 16, 17, 48, 19, 20, 21, 22, 23, 119, 120, 116, 117, 118] (by decide +kernel) (by decide +kernel)) (goodIn_sub (fun _ h => List.mem_cons_of_mem _ (List.mem_append_right _ h)) (by decide +kernel))
set_option maxRecDepth 20000 in
theorem gX1_settleTop_X0_powerOn : GoodIn wsX1_settleTop (wsV RX1 107 RX0 yX0_powerOn wsX0_powerOn) := goodIn_app (goodIn_of _ (by decide +kernel)) ggX1_settleTop_X0_powerOn
set_option maxRecDepth 20000 in
theorem ggX1_settleTop_X1_harm : GoodIn wsX1_settleTop wsX1_harm := goodIn_ca (goodIn_r _ [52, 40, 53, 54, 4, 55, 1, 56, 18, 19, 20, 15, 21, 17, 22, 23, 57, 58, 59, 60, 61, 62, 63, 44, 64, 46, 47, 13, 14, 16, 48, 65, 29, 30, 31, 32, 33, 34, 35, 66, 67, 68, 69, 70, 71, 72, 73, 106, 107, 108, 109, 110, 111, 112, 113, 114, 115, 116, 117, 118, 119, 120] (by decide +kernel) (by decide +kernel)) (goodIn_sub (fun _ h => List.mem_cons_of_mem _ (List.mem_append_right _ h)) (by decide +kernel))
set_option maxRecDepth 20000 in
theorem gX1_settleTop_X1_harm : GoodIn wsX1_settleTop (wsV RX1 147 RX1 yX1_harm wsX1_harm) := goodIn_app (goodIn_of _ (by decide +kernel)) ggX1_settleTop_X1_harm
set_option maxRecDepth 20000 in
theorem ggX1_settleTop_X1_heal : GoodIn wsX1_settleTop wsX1_heal := goodIn_ca (goodIn_r _ [77, 40, 53, 54, 4, 55, 18, 19, 20, 15, 21, 17, 22, 23, 57, 58, 59, 60, 106, 107, 108, 109, 110, 111, 112, 113, 114, 115, 116, 117, 118] (by decide +kernel) (by decide +kernel)) (goodIn_sub (fun _ h => List.mem_cons_of_mem _ (List.mem_append_right _ h)) (by decide +kernel))
set_option maxRecDepth 20000 in
theorem gX1_settleTop_X1_heal : GoodIn wsX1_settleTop (wsV RX1 181 RX1 yX1_heal wsX1_heal) := goodIn_app (goodIn_of _ (by decide +kernel)) ggX1_settleTop_X1_heal
set_option maxRecDepth 20000 in
theorem ggX1_settleTop_X0_begin : GoodIn wsX1_settleTop wsX0_begin := goodIn_ca (goodIn_r _ [81, 46, 82, 83, 67, 68, 44, 69, 70, 71, 72, 73, 47, 13, 14, 15, 16, 17, 48, 19, 20, 21, 22, 23, 65, 29, 30, 31, 32, 33, 34, 35, 84, 85, 86, 87, 88, 89, 90, 91, 92, 93, 94, 95, 96, 97, 98, 99, 100, 101, 102, 103, 104, 105, 58, 59, 60, 119, 120, 116, 117, 118, 121, 122, 123, 124, 125, 126, 127, 128, 129, 130] (by decide +kernel) (by decide +kernel)) (goodIn_sub (fun _ h => List.mem_cons_of_mem _ (List.mem_append_right _ h)) (by decide +kernel))
set_option maxRecDepth 20000 in
theorem gX1_settleTop_X0_begin : GoodIn wsX1_settleTop (wsV RX1 184 RX0 yX0_begin wsX0_begin) := goodIn_app (goodIn_of _ (by decide +kernel)) ggX1_settleTop_X0_begin
theorem dX1_settleTop_0 : decode cX1_settleTop 0 = .ok (.aload_n 0, 1) := by decide +kernel
theorem dX1_settleTop_1 : decode cX1_settleTop 1 = .ok (.iconst 0, 1) := by decide +kernel
theorem dX1_settleTop_2 : decode cX1_settleTop 2 = .ok (.iconst 0, 1) := by decide +kernel
theorem dX1_settleTop_3 : decode cX1_settleTop 3 = .ok (.invokevirtual 169, 3) := by decide +kernel
theorem dX1_settleTop_6 : decode cX1_settleTop 6 = .ok (.istore_n 1, 1) := by decide +kernel
theorem dX1_settleTop_7 : decode cX1_settleTop 7 = .ok (.aload_n 0, 1) := by decide +kernel
theorem dX1_settleTop_8 : decode cX1_settleTop 8 = .ok (.iconst 0, 1) := by decide +kernel
theorem dX1_settleTop_9 : decode cX1_settleTop 9 = .ok (.iconst 1, 1) := by decide +kernel
theorem dX1_settleTop_10 : decode cX1_settleTop 10 = .ok (.invokevirtual 169, 3) := by decide +kernel
theorem dX1_settleTop_13 : decode cX1_settleTop 13 = .ok (.istore_n 2, 1) := by decide +kernel
theorem dX1_settleTop_14 : decode cX1_settleTop 14 = .ok (.aload_n 0, 1) := by decide +kernel
theorem dX1_settleTop_15 : decode cX1_settleTop 15 = .ok (.iconst 0, 1) := by decide +kernel
theorem dX1_settleTop_16 : decode cX1_settleTop 16 = .ok (.iconst 2, 1) := by decide +kernel
theorem dX1_settleTop_17 : decode cX1_settleTop 17 = .ok (.invokevirtual 169, 3) := by decide +kernel
theorem dX1_settleTop_20 : decode cX1_settleTop 20 = .ok (.istore_n 3, 1) := by decide +kernel
theorem dX1_settleTop_21 : decode cX1_settleTop 21 = .ok (.aload_n 0, 1) := by decide +kernel
theorem dX1_settleTop_22 : decode cX1_settleTop 22 = .ok (.iconst 0, 1) := by decide +kernel
theorem dX1_settleTop_23 : decode cX1_settleTop 23 = .ok (.iconst 3, 1) := by decide +kernel
theorem dX1_settleTop_24 : decode cX1_settleTop 24 = .ok (.invokevirtual 169, 3) := by decide +kernel
theorem dX1_settleTop_27 : decode cX1_settleTop 27 = .ok (.istore 4, 2) := by decide +kernel
theorem dX1_settleTop_29 : decode cX1_settleTop 29 = .ok (.aload_n 0, 1) := by decide +kernel
theorem dX1_settleTop_30 : decode cX1_settleTop 30 = .ok (.iconst 0, 1) := by decide +kernel
theorem dX1_settleTop_31 : decode cX1_settleTop 31 = .ok (.iconst 4, 1) := by decide +kernel
theorem dX1_settleTop_32 : decode cX1_settleTop 32 = .ok (.invokevirtual 169, 3) := by decide +kernel
theorem dX1_settleTop_35 : decode cX1_settleTop 35 = .ok (.istore 5, 2) := by decide +kernel
theorem dX1_settleTop_37 : decode cX1_settleTop 37 = .ok (.aload_n 0, 1) := by decide +kernel
theorem dX1_settleTop_38 : decode cX1_settleTop 38 = .ok (.iconst 0, 1) := by decide +kernel
theorem dX1_settleTop_39 : decode cX1_settleTop 39 = .ok (.iconst 5, 1) := by decide +kernel
theorem dX1_settleTop_40 : decode cX1_settleTop 40 = .ok (.invokevirtual 169, 3) := by decide +kernel
theorem dX1_settleTop_43 : decode cX1_settleTop 43 = .ok (.istore 6, 2) := by decide +kernel
theorem dX1_settleTop_45 : decode cX1_settleTop 45 = .ok (.aload_n 0, 1) := by decide +kernel
theorem dX1_settleTop_46 : decode cX1_settleTop 46 = .ok (.iconst 0, 1) := by decide +kernel
theorem dX1_settleTop_47 : decode cX1_settleTop 47 = .ok (.bipush 6, 2) := by decide +kernel
theorem dX1_settleTop_49 : decode cX1_settleTop 49 = .ok (.invokevirtual 169, 3) := by decide +kernel
theorem dX1_settleTop_52 : decode cX1_settleTop 52 = .ok (.istore 7, 2) := by decide +kernel
theorem dX1_settleTop_54 : decode cX1_settleTop 54 = .ok (.aload_n 0, 1) := by decide +kernel
theorem dX1_settleTop_55 : decode cX1_settleTop 55 = .ok (.invokevirtual 178, 3) := by decide +kernel
theorem dX1_settleTop_58 : decode cX1_settleTop 58 = .ok (.aload_n 0, 1) := by decide +kernel
theorem dX1_settleTop_59 : decode cX1_settleTop 59 = .ok (.iload_n 2, 1) := by decide +kernel
theorem dX1_settleTop_60 : decode cX1_settleTop 60 = .ok (.invokevirtual 104, 3) := by decide +kernel
theorem dX1_settleTop_63 : decode cX1_settleTop 63 = .ok (.ifCond .eq 16, 3) := by decide +kernel
theorem dX1_settleTop_66 : decode cX1_settleTop 66 = .ok (.iload_n 1, 1) := by decide +kernel
theorem dX1_settleTop_67 : decode cX1_settleTop 67 = .ok (.iconst 3, 1) := by decide +kernel
theorem dX1_settleTop_68 : decode cX1_settleTop 68 = .ok (.if_icmp .eq 13, 3) := by decide +kernel
theorem dX1_settleTop_71 : decode cX1_settleTop 71 = .ok (.aload_n 0, 1) := by decide +kernel
theorem dX1_settleTop_72 : decode cX1_settleTop 72 = .ok (.iload_n 3, 1) := by decide +kernel
theorem dX1_settleTop_73 : decode cX1_settleTop 73 = .ok (.invokevirtual 104, 3) := by decide +kernel
theorem dX1_settleTop_76 : decode cX1_settleTop 76 = .ok (.ifCond .ne 5, 3) := by decide +kernel
theorem dX1_settleTop_79 : decode cX1_settleTop 79 = .ok (.iconst 0, 1) := by decide +kernel
theorem dX1_settleTop_80 : decode cX1_settleTop 80 = .ok (.ireturn, 1) := by decide +kernel
theorem dX1_settleTop_81 : decode cX1_settleTop 81 = .ok (.iload_n 1, 1) := by decide +kernel
theorem dX1_settleTop_82 : decode cX1_settleTop 82 = .ok (.tableswitch 80 0 2 #[26, 50, 60], 26) := by decide +kernel
theorem dX1_settleTop_108 : decode cX1_settleTop 108 = .ok (.aload_n 0, 1) := by decide +kernel
theorem dX1_settleTop_109 : decode cX1_settleTop 109 = .ok (.iload_n 3, 1) := by decide +kernel
theorem dX1_settleTop_110 : decode cX1_settleTop 110 = .ok (.iconst 0, 1) := by decide +kernel
theorem dX1_settleTop_111 : decode cX1_settleTop 111 = .ok (.iload 4, 2) := by decide +kernel
theorem dX1_settleTop_113 : decode cX1_settleTop 113 = .ok (.aload_n 0, 1) := by decide +kernel
theorem dX1_settleTop_114 : decode cX1_settleTop 114 = .ok (.getfield 23, 3) := by decide +kernel
theorem dX1_settleTop_117 : decode cX1_settleTop 117 = .ok (.iload_n 3, 1) := by decide +kernel
theorem dX1_settleTop_118 : decode cX1_settleTop 118 = .ok (.iconst 3, 1) := by decide +kernel
theorem dX1_settleTop_119 : decode cX1_settleTop 119 = .ok (.invokevirtual 107, 3) := by decide +kernel
theorem dX1_settleTop_122 : decode cX1_settleTop 122 = .ok (.isub, 1) := by decide +kernel
theorem dX1_settleTop_123 : decode cX1_settleTop 123 = .ok (.invokestatic 110, 3) := by decide +kernel
theorem dX1_settleTop_126 : decode cX1_settleTop 126 = .ok (.invokevirtual 147, 3) := by decide +kernel
theorem dX1_settleTop_129 : decode cX1_settleTop 129 = .ok (.goto 37, 3) := by decide +kernel
theorem dX1_settleTop_132 : decode cX1_settleTop 132 = .ok (.aload_n 0, 1) := by decide +kernel
theorem dX1_settleTop_133 : decode cX1_settleTop 133 = .ok (.iload_n 3, 1) := by decide +kernel
theorem dX1_settleTop_134 : decode cX1_settleTop 134 = .ok (.iload 4, 2) := by decide +kernel
theorem dX1_settleTop_136 : decode cX1_settleTop 136 = .ok (.invokevirtual 181, 3) := by decide +kernel
theorem dX1_settleTop_139 : decode cX1_settleTop 139 = .ok (.goto 27, 3) := by decide +kernel
theorem dX1_settleTop_142 : decode cX1_settleTop 142 = .ok (.aload_n 0, 1) := by decide +kernel
theorem dX1_settleTop_143 : decode cX1_settleTop 143 = .ok (.getfield 23, 3) := by decide +kernel
theorem dX1_settleTop_146 : decode cX1_settleTop 146 = .ok (.iload 5, 2) := by decide +kernel
theorem dX1_settleTop_148 : decode cX1_settleTop 148 = .ok (.iload 4, 2) := by decide +kernel
theorem dX1_settleTop_150 : decode cX1_settleTop 150 = .ok (.iload_n 2, 1) := by decide +kernel
theorem dX1_settleTop_151 : decode cX1_settleTop 151 = .ok (.iload_n 3, 1) := by decide +kernel
theorem dX1_settleTop_152 : decode cX1_settleTop 152 = .ok (.iload 6, 2) := by decide +kernel
theorem dX1_settleTop_154 : decode cX1_settleTop 154 = .ok (.iload 7, 2) := by decide +kernel
theorem dX1_settleTop_156 : decode cX1_settleTop 156 = .ok (.invokevirtual 184, 3) := by decide +kernel
theorem dX1_settleTop_159 : decode cX1_settleTop 159 = .ok (.goto 7, 3) := by decide +kernel
theorem dX1_settleTop_162 : decode cX1_settleTop 162 = .ok (.aload_n 0, 1) := by decide +kernel
theorem dX1_settleTop_163 : decode cX1_settleTop 163 = .ok (.invokevirtual 178, 3) := by decide +kernel
theorem dX1_settleTop_166 : decode cX1_settleTop 166 = .ok (.iconst 1, 1) := by decide +kernel
theorem dX1_settleTop_167 : decode cX1_settleTop 167 = .ok (.ireturn, 1) := by decide +kernel
set_option maxRecDepth 20000 in
theorem ggX1_dropTop_X4_count : GoodIn wsX1_dropTop wsX4_count := goodIn_r _ [6, 7, 28, 29, 30] (by decide +kernel) (by decide +kernel)
set_option maxRecDepth 20000 in
theorem gX1_dropTop_X4_count : GoodIn wsX1_dropTop (wsV RX1 60 RX4 yX4_count wsX4_count) := goodIn_app (goodIn_of _ (by decide +kernel)) ggX1_dropTop_X4_count
set_option maxRecDepth 20000 in
theorem ggX1_dropTop_X4_remove : GoodIn wsX1_dropTop wsX4_remove := goodIn_r _ [11, 7, 12, 13, 14, 15, 16, 17, 28, 29, 30] (by decide +kernel) (by decide +kernel)
set_option maxRecDepth 20000 in
theorem gX1_dropTop_X4_remove : GoodIn wsX1_dropTop (wsV RX1 162 RX4 yX4_remove wsX4_remove) := goodIn_app (goodIn_of _ (by decide +kernel)) ggX1_dropTop_X4_remove
theorem dX1_dropTop_0 : decode cX1_dropTop 0 = .ok (.aload_n 0, 1) := by decide +kernel
theorem dX1_dropTop_1 : decode cX1_dropTop 1 = .ok (.getfield 30, 3) := by decide +kernel
theorem dX1_dropTop_4 : decode cX1_dropTop 4 = .ok (.aload_n 0, 1) := by decide +kernel
theorem dX1_dropTop_5 : decode cX1_dropTop 5 = .ok (.getfield 30, 3) := by decide +kernel
theorem dX1_dropTop_8 : decode cX1_dropTop 8 = .ok (.invokevirtual 60, 3) := by decide +kernel
theorem dX1_dropTop_11 : decode cX1_dropTop 11 = .ok (.iconst 1, 1) := by decide +kernel
theorem dX1_dropTop_12 : decode cX1_dropTop 12 = .ok (.isub, 1) := by decide +kernel
theorem dX1_dropTop_13 : decode cX1_dropTop 13 = .ok (.invokevirtual 162, 3) := by decide +kernel
theorem dX1_dropTop_16 : decode cX1_dropTop 16 = .ok (.return_, 1) := by decide +kernel
set_option maxRecDepth 20000 in
theorem ggX1_heal_X4_at : GoodIn wsX1_heal wsX4_at := goodIn_ca (goodIn_r _ [10, 11, 12, 13, 28, 29, 30] (by decide +kernel) (by decide +kernel)) (goodIn_sub (fun _ h => List.mem_cons_of_mem _ (List.mem_append_right _ h)) (by decide +kernel))
set_option maxRecDepth 20000 in
theorem gX1_heal_X4_at : GoodIn wsX1_heal (wsV RX1 64 RX4 yX4_at wsX4_at) := goodIn_app (goodIn_of _ (by decide +kernel)) ggX1_heal_X4_at
set_option maxRecDepth 20000 in
theorem ggX1_heal_X4_put : GoodIn wsX1_heal wsX4_put := goodIn_ca (goodIn_r _ [17, 11, 12, 13, 28, 29, 30] (by decide +kernel) (by decide +kernel)) (goodIn_sub (fun _ h => List.mem_cons_of_mem _ (List.mem_append_right _ h)) (by decide +kernel))
set_option maxRecDepth 20000 in
theorem gX1_heal_X4_put : GoodIn wsX1_heal (wsV RX1 119 RX4 yX4_put wsX4_put) := goodIn_app (goodIn_of _ (by decide +kernel)) ggX1_heal_X4_put
theorem dX1_heal_0 : decode cX1_heal 0 = .ok (.aload_n 0, 1) := by decide +kernel
theorem dX1_heal_1 : decode cX1_heal 1 = .ok (.getfield 16, 3) := by decide +kernel
theorem dX1_heal_4 : decode cX1_heal 4 = .ok (.iload_n 1, 1) := by decide +kernel
theorem dX1_heal_5 : decode cX1_heal 5 = .ok (.iconst 2, 1) := by decide +kernel
theorem dX1_heal_6 : decode cX1_heal 6 = .ok (.invokevirtual 64, 3) := by decide +kernel
theorem dX1_heal_9 : decode cX1_heal 9 = .ok (.iload_n 2, 1) := by decide +kernel
theorem dX1_heal_10 : decode cX1_heal 10 = .ok (.iadd, 1) := by decide +kernel
theorem dX1_heal_11 : decode cX1_heal 11 = .ok (.istore_n 3, 1) := by decide +kernel
theorem dX1_heal_12 : decode cX1_heal 12 = .ok (.aload_n 0, 1) := by decide +kernel
theorem dX1_heal_13 : decode cX1_heal 13 = .ok (.getfield 16, 3) := by decide +kernel
theorem dX1_heal_16 : decode cX1_heal 16 = .ok (.iload_n 1, 1) := by decide +kernel
theorem dX1_heal_17 : decode cX1_heal 17 = .ok (.iconst 2, 1) := by decide +kernel
theorem dX1_heal_18 : decode cX1_heal 18 = .ok (.iload_n 3, 1) := by decide +kernel
theorem dX1_heal_19 : decode cX1_heal 19 = .ok (.aload_n 0, 1) := by decide +kernel
theorem dX1_heal_20 : decode cX1_heal 20 = .ok (.getfield 16, 3) := by decide +kernel
theorem dX1_heal_23 : decode cX1_heal 23 = .ok (.iload_n 1, 1) := by decide +kernel
theorem dX1_heal_24 : decode cX1_heal 24 = .ok (.iconst 1, 1) := by decide +kernel
theorem dX1_heal_25 : decode cX1_heal 25 = .ok (.invokevirtual 64, 3) := by decide +kernel
theorem dX1_heal_28 : decode cX1_heal 28 = .ok (.invokestatic 150, 3) := by decide +kernel
theorem dX1_heal_31 : decode cX1_heal 31 = .ok (.invokevirtual 119, 3) := by decide +kernel
theorem dX1_heal_34 : decode cX1_heal 34 = .ok (.return_, 1) := by decide +kernel
set_option maxRecDepth 20000 in
theorem ggX1_abandonTurn_X4_clear : GoodIn wsX1_abandonTurn wsX4_clear := goodIn_r _ [7, 8, 53, 54, 55] (by decide +kernel) (by decide +kernel)
set_option maxRecDepth 20000 in
theorem gX1_abandonTurn_X4_clear : GoodIn wsX1_abandonTurn (wsV RX1 138 RX4 yX4_clear wsX4_clear) := goodIn_app (goodIn_of _ (by decide +kernel)) ggX1_abandonTurn_X4_clear
set_option maxRecDepth 20000 in
theorem ggX1_abandonTurn_X1_endTurn : GoodIn wsX1_abandonTurn wsX1_endTurn := goodIn_ca (goodIn_r _ [13, 14, 2, 15, 16, 17, 18, 19, 20, 21, 22, 23, 6, 24, 8, 25, 26, 27, 28, 29, 30, 31, 32, 33, 34, 35, 36, 37, 38, 39, 40, 41, 42, 43, 44, 45, 46, 47, 48, 49, 50, 51, 52, 56, 57, 53, 54, 55] (by decide +kernel) (by decide +kernel)) (goodIn_sub (fun _ h => List.mem_cons_of_mem _ (List.mem_append_right _ h)) (by decide +kernel))
set_option maxRecDepth 20000 in
theorem gX1_abandonTurn_X1_endTurn : GoodIn wsX1_abandonTurn (wsV RX1 135 RX1 yX1_endTurn wsX1_endTurn) := goodIn_app (goodIn_of _ (by decide +kernel)) ggX1_abandonTurn_X1_endTurn
theorem dX1_abandonTurn_0 : decode cX1_abandonTurn 0 = .ok (.aload_n 0, 1) := by decide +kernel
theorem dX1_abandonTurn_1 : decode cX1_abandonTurn 1 = .ok (.getfield 30, 3) := by decide +kernel
theorem dX1_abandonTurn_4 : decode cX1_abandonTurn 4 = .ok (.invokevirtual 138, 3) := by decide +kernel
theorem dX1_abandonTurn_7 : decode cX1_abandonTurn 7 = .ok (.aload_n 0, 1) := by decide +kernel
theorem dX1_abandonTurn_8 : decode cX1_abandonTurn 8 = .ok (.getfield 37, 3) := by decide +kernel
theorem dX1_abandonTurn_11 : decode cX1_abandonTurn 11 = .ok (.iconst (-1), 1) := by decide +kernel
theorem dX1_abandonTurn_12 : decode cX1_abandonTurn 12 = .ok (.if_icmp .eq 8, 3) := by decide +kernel
theorem dX1_abandonTurn_15 : decode cX1_abandonTurn 15 = .ok (.aload_n 0, 1) := by decide +kernel
theorem dX1_abandonTurn_16 : decode cX1_abandonTurn 16 = .ok (.invokevirtual 135, 3) := by decide +kernel
theorem dX1_abandonTurn_19 : decode cX1_abandonTurn 19 = .ok (.pop, 1) := by decide +kernel
theorem dX1_abandonTurn_20 : decode cX1_abandonTurn 20 = .ok (.return_, 1) := by decide +kernel
set_option maxRecDepth 20000 in
theorem ggX1_passTurn_X1_beginTurn : GoodIn wsX1_passTurn wsX1_beginTurn := goodIn_ca (goodIn_r _ [6, 7, 8, 9, 1, 10, 11, 12, 13, 5, 14, 15, 16, 17, 18, 19, 20, 21, 22, 23, 24, 25, 26, 27, 28, 29, 30, 31, 32, 33, 34, 35, 36, 37, 38, 39, 40, 41, 42, 43, 44, 45, 46, 47, 48, 49, 50, 51, 52, 53, 54, 55, 56, 57, 58, 59, 60, 61, 62, 63, 64, 65, 66, 67, 68, 69, 70, 71, 72, 73, 74, 75, 76, 77, 78, 79, 80, 81, 82, 83, 84, 85, 86, 87, 88, 89, 90, 91, 92, 93, 94, 95, 96, 97, 98, 99, 100, 101, 102, 103, 104, 105, 106, 107, 108, 109, 110, 111, 112, 113, 114, 115, 116, 117, 118, 119, 120, 121, 122, 123, 124, 125, 126, 127, 128, 129, 130, 131, 132, 133, 134, 135, 136, 137, 138, 139, 140, 141, 142, 143, 144, 145, 146, 147, 148, 149, 150, 151, 152, 153, 154, 155, 156, 157, 158, 159, 160, 161, 162, 163, 164, 165, 166, 167, 168] (by decide +kernel) (by decide +kernel)) (goodIn_sub (fun _ h => List.mem_cons_of_mem _ (List.mem_append_right _ h)) (by decide +kernel))
set_option maxRecDepth 20000 in
theorem gX1_passTurn_X1_beginTurn : GoodIn wsX1_passTurn (wsV RX1 188 RX1 yX1_beginTurn wsX1_beginTurn) := goodIn_app (goodIn_of _ (by decide +kernel)) ggX1_passTurn_X1_beginTurn
set_option maxRecDepth 20000 in
theorem ggX1_passTurn_X1_endTurn : GoodIn wsX1_passTurn wsX1_endTurn := goodIn_ca (goodIn_r _ [138, 10, 1, 139, 140, 141, 56, 142, 58, 59, 17, 18, 19, 20, 21, 60, 23, 24, 25, 26, 27, 143, 83, 84, 85, 123, 124, 125, 126, 65, 66, 67, 68, 144, 145, 146, 147, 148, 149, 150, 151, 152, 153, 157, 158, 154, 155, 156] (by decide +kernel) (by decide +kernel)) (goodIn_sub (fun _ h => List.mem_cons_of_mem _ (List.mem_append_right _ h)) (by decide +kernel))
set_option maxRecDepth 20000 in
theorem gX1_passTurn_X1_endTurn : GoodIn wsX1_passTurn (wsV RX1 135 RX1 yX1_endTurn wsX1_endTurn) := goodIn_app (goodIn_of _ (by decide +kernel)) ggX1_passTurn_X1_endTurn
theorem dX1_passTurn_0 : decode cX1_passTurn 0 = .ok (.aload_n 0, 1) := by decide +kernel
theorem dX1_passTurn_1 : decode cX1_passTurn 1 = .ok (.invokevirtual 188, 3) := by decide +kernel
theorem dX1_passTurn_4 : decode cX1_passTurn 4 = .ok (.istore_n 1, 1) := by decide +kernel
theorem dX1_passTurn_5 : decode cX1_passTurn 5 = .ok (.aload_n 0, 1) := by decide +kernel
theorem dX1_passTurn_6 : decode cX1_passTurn 6 = .ok (.getfield 37, 3) := by decide +kernel
theorem dX1_passTurn_9 : decode cX1_passTurn 9 = .ok (.iconst (-1), 1) := by decide +kernel
theorem dX1_passTurn_10 : decode cX1_passTurn 10 = .ok (.if_icmp .eq 8, 3) := by decide +kernel
theorem dX1_passTurn_13 : decode cX1_passTurn 13 = .ok (.aload_n 0, 1) := by decide +kernel
theorem dX1_passTurn_14 : decode cX1_passTurn 14 = .ok (.invokevirtual 135, 3) := by decide +kernel
theorem dX1_passTurn_17 : decode cX1_passTurn 17 = .ok (.pop, 1) := by decide +kernel
theorem dX1_passTurn_18 : decode cX1_passTurn 18 = .ok (.iload_n 1, 1) := by decide +kernel
theorem dX1_passTurn_19 : decode cX1_passTurn 19 = .ok (.ireturn, 1) := by decide +kernel
