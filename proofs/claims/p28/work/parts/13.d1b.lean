theorem dX1_resumeTurn_60 : decode cX1_resumeTurn 60 = .ok (.iload_n 1, 1) := by decide +kernel
theorem dX1_resumeTurn_61 : decode cX1_resumeTurn 61 = .ok (.invokevirtual 75, 3) := by decide +kernel
theorem dX1_resumeTurn_64 : decode cX1_resumeTurn 64 = .ok (.ireturn, 1) := by decide +kernel
theorem dX1_canAnswer_0 : decode cX1_canAnswer 0 = .ok (.aload_n 0, 1) := by decide +kernel
theorem dX1_canAnswer_1 : decode cX1_canAnswer 1 = .ok (.getfield 30, 3) := by decide +kernel
theorem dX1_canAnswer_4 : decode cX1_canAnswer 4 = .ok (.invokevirtual 60, 3) := by decide +kernel
theorem dX1_canAnswer_7 : decode cX1_canAnswer 7 = .ok (.ifCond .le 17, 3) := by decide +kernel
theorem dX1_canAnswer_10 : decode cX1_canAnswer 10 = .ok (.aload_n 0, 1) := by decide +kernel
theorem dX1_canAnswer_11 : decode cX1_canAnswer 11 = .ok (.getfield 30, 3) := by decide +kernel
theorem dX1_canAnswer_14 : decode cX1_canAnswer 14 = .ok (.invokevirtual 165, 3) := by decide +kernel
theorem dX1_canAnswer_17 : decode cX1_canAnswer 17 = .ok (.ifCond .ne 7, 3) := by decide +kernel
theorem dX1_canAnswer_20 : decode cX1_canAnswer 20 = .ok (.iconst 1, 1) := by decide +kernel
theorem dX1_canAnswer_21 : decode cX1_canAnswer 21 = .ok (.goto 4, 3) := by decide +kernel
theorem dX1_canAnswer_24 : decode cX1_canAnswer 24 = .ok (.iconst 0, 1) := by decide +kernel
theorem dX1_canAnswer_25 : decode cX1_canAnswer 25 = .ok (.istore_n 2, 1) := by decide +kernel
theorem dX1_canAnswer_26 : decode cX1_canAnswer 26 = .ok (.aload_n 0, 1) := by decide +kernel
theorem dX1_canAnswer_27 : decode cX1_canAnswer 27 = .ok (.iload_n 1, 1) := by decide +kernel
theorem dX1_canAnswer_28 : decode cX1_canAnswer 28 = .ok (.invokevirtual 104, 3) := by decide +kernel
theorem dX1_canAnswer_31 : decode cX1_canAnswer 31 = .ok (.ifCond .eq 20, 3) := by decide +kernel
theorem dX1_canAnswer_34 : decode cX1_canAnswer 34 = .ok (.aload_n 0, 1) := by decide +kernel
theorem dX1_canAnswer_35 : decode cX1_canAnswer 35 = .ok (.getfield 16, 3) := by decide +kernel
theorem dX1_canAnswer_38 : decode cX1_canAnswer 38 = .ok (.iload_n 1, 1) := by decide +kernel
theorem dX1_canAnswer_39 : decode cX1_canAnswer 39 = .ok (.iconst 3, 1) := by decide +kernel
theorem dX1_canAnswer_40 : decode cX1_canAnswer 40 = .ok (.invokevirtual 64, 3) := by decide +kernel
theorem dX1_canAnswer_43 : decode cX1_canAnswer 43 = .ok (.iconst 1, 1) := by decide +kernel
theorem dX1_canAnswer_44 : decode cX1_canAnswer 44 = .ok (.if_icmp .ne 7, 3) := by decide +kernel
theorem dX1_canAnswer_47 : decode cX1_canAnswer 47 = .ok (.iconst 1, 1) := by decide +kernel
theorem dX1_canAnswer_48 : decode cX1_canAnswer 48 = .ok (.goto 4, 3) := by decide +kernel
theorem dX1_canAnswer_51 : decode cX1_canAnswer 51 = .ok (.iconst 0, 1) := by decide +kernel
theorem dX1_canAnswer_52 : decode cX1_canAnswer 52 = .ok (.istore_n 3, 1) := by decide +kernel
theorem dX1_canAnswer_53 : decode cX1_canAnswer 53 = .ok (.iload_n 2, 1) := by decide +kernel
theorem dX1_canAnswer_54 : decode cX1_canAnswer 54 = .ok (.ifCond .eq 21, 3) := by decide +kernel
theorem dX1_canAnswer_57 : decode cX1_canAnswer 57 = .ok (.iload_n 3, 1) := by decide +kernel
theorem dX1_canAnswer_58 : decode cX1_canAnswer 58 = .ok (.ifCond .eq 17, 3) := by decide +kernel
theorem dX1_canAnswer_61 : decode cX1_canAnswer 61 = .ok (.aload_n 0, 1) := by decide +kernel
theorem dX1_canAnswer_62 : decode cX1_canAnswer 62 = .ok (.iconst 0, 1) := by decide +kernel
theorem dX1_canAnswer_63 : decode cX1_canAnswer 63 = .ok (.iconst 1, 1) := by decide +kernel
theorem dX1_canAnswer_64 : decode cX1_canAnswer 64 = .ok (.invokevirtual 169, 3) := by decide +kernel
theorem dX1_canAnswer_67 : decode cX1_canAnswer 67 = .ok (.iload_n 1, 1) := by decide +kernel
theorem dX1_canAnswer_68 : decode cX1_canAnswer 68 = .ok (.if_icmp .eq 7, 3) := by decide +kernel
theorem dX1_canAnswer_71 : decode cX1_canAnswer 71 = .ok (.iconst 1, 1) := by decide +kernel
theorem dX1_canAnswer_72 : decode cX1_canAnswer 72 = .ok (.goto 4, 3) := by decide +kernel
theorem dX1_canAnswer_75 : decode cX1_canAnswer 75 = .ok (.iconst 0, 1) := by decide +kernel
theorem dX1_canAnswer_76 : decode cX1_canAnswer 76 = .ok (.ireturn, 1) := by decide +kernel
theorem dX1_mayAct_0 : decode cX1_mayAct 0 = .ok (.aload_n 0, 1) := by decide +kernel
theorem dX1_mayAct_1 : decode cX1_mayAct 1 = .ok (.getfield 30, 3) := by decide +kernel
theorem dX1_mayAct_4 : decode cX1_mayAct 4 = .ok (.invokevirtual 60, 3) := by decide +kernel
theorem dX1_mayAct_7 : decode cX1_mayAct 7 = .ok (.ifCond .le 9, 3) := by decide +kernel
theorem dX1_mayAct_10 : decode cX1_mayAct 10 = .ok (.aload_n 0, 1) := by decide +kernel
theorem dX1_mayAct_11 : decode cX1_mayAct 11 = .ok (.iload_n 1, 1) := by decide +kernel
theorem dX1_mayAct_12 : decode cX1_mayAct 12 = .ok (.invokevirtual 172, 3) := by decide +kernel
theorem dX1_mayAct_15 : decode cX1_mayAct 15 = .ok (.ireturn, 1) := by decide +kernel
theorem dX1_mayAct_16 : decode cX1_mayAct 16 = .ok (.aload_n 0, 1) := by decide +kernel
theorem dX1_mayAct_17 : decode cX1_mayAct 17 = .ok (.getfield 37, 3) := by decide +kernel
theorem dX1_mayAct_20 : decode cX1_mayAct 20 = .ok (.iconst (-1), 1) := by decide +kernel
theorem dX1_mayAct_21 : decode cX1_mayAct 21 = .ok (.if_icmp .eq 20, 3) := by decide +kernel
theorem dX1_mayAct_24 : decode cX1_mayAct 24 = .ok (.iload_n 1, 1) := by decide +kernel
theorem dX1_mayAct_25 : decode cX1_mayAct 25 = .ok (.aload_n 0, 1) := by decide +kernel
theorem dX1_mayAct_26 : decode cX1_mayAct 26 = .ok (.getfield 37, 3) := by decide +kernel
theorem dX1_mayAct_29 : decode cX1_mayAct 29 = .ok (.if_icmp .ne 12, 3) := by decide +kernel
theorem dX1_mayAct_32 : decode cX1_mayAct 32 = .ok (.iload_n 2, 1) := by decide +kernel
theorem dX1_mayAct_33 : decode cX1_mayAct 33 = .ok (.iconst 3, 1) := by decide +kernel
theorem dX1_mayAct_34 : decode cX1_mayAct 34 = .ok (.if_icmp .eq 7, 3) := by decide +kernel
theorem dX1_mayAct_37 : decode cX1_mayAct 37 = .ok (.iconst 1, 1) := by decide +kernel
theorem dX1_mayAct_38 : decode cX1_mayAct 38 = .ok (.goto 4, 3) := by decide +kernel
theorem dX1_mayAct_41 : decode cX1_mayAct 41 = .ok (.iconst 0, 1) := by decide +kernel
theorem dX1_mayAct_42 : decode cX1_mayAct 42 = .ok (.ireturn, 1) := by decide +kernel
theorem dX1_beginAct_0 : decode cX1_beginAct 0 = .ok (.aload_n 0, 1) := by decide +kernel
theorem dX1_beginAct_1 : decode cX1_beginAct 1 = .ok (.getfield 30, 3) := by decide +kernel
theorem dX1_beginAct_4 : decode cX1_beginAct 4 = .ok (.invokevirtual 60, 3) := by decide +kernel
theorem dX1_beginAct_7 : decode cX1_beginAct 7 = .ok (.ifCond .le 13, 3) := by decide +kernel
theorem dX1_beginAct_10 : decode cX1_beginAct 10 = .ok (.aload_n 0, 1) := by decide +kernel
theorem dX1_beginAct_11 : decode cX1_beginAct 11 = .ok (.getfield 16, 3) := by decide +kernel
theorem dX1_beginAct_14 : decode cX1_beginAct 14 = .ok (.iload_n 2, 1) := by decide +kernel
theorem dX1_beginAct_15 : decode cX1_beginAct 15 = .ok (.iconst 3, 1) := by decide +kernel
theorem dX1_beginAct_16 : decode cX1_beginAct 16 = .ok (.iconst 0, 1) := by decide +kernel
theorem dX1_beginAct_17 : decode cX1_beginAct 17 = .ok (.invokevirtual 119, 3) := by decide +kernel
theorem dX1_beginAct_20 : decode cX1_beginAct 20 = .ok (.aload_n 0, 1) := by decide +kernel
theorem dX1_beginAct_21 : decode cX1_beginAct 21 = .ok (.iconst 0, 1) := by decide +kernel
theorem dX1_beginAct_22 : decode cX1_beginAct 22 = .ok (.putfield 43, 3) := by decide +kernel
theorem dX1_beginAct_25 : decode cX1_beginAct 25 = .ok (.aload_n 0, 1) := by decide +kernel
theorem dX1_beginAct_26 : decode cX1_beginAct 26 = .ok (.getfield 30, 3) := by decide +kernel
theorem dX1_beginAct_29 : decode cX1_beginAct 29 = .ok (.invokevirtual 60, 3) := by decide +kernel
theorem dX1_beginAct_32 : decode cX1_beginAct 32 = .ok (.istore 8, 2) := by decide +kernel
theorem dX1_beginAct_34 : decode cX1_beginAct 34 = .ok (.aload_n 0, 1) := by decide +kernel
theorem dX1_beginAct_35 : decode cX1_beginAct 35 = .ok (.getfield 30, 3) := by decide +kernel
theorem dX1_beginAct_38 : decode cX1_beginAct 38 = .ok (.iload 8, 2) := by decide +kernel
theorem dX1_beginAct_40 : decode cX1_beginAct 40 = .ok (.invokevirtual 115, 3) := by decide +kernel
theorem dX1_beginAct_43 : decode cX1_beginAct 43 = .ok (.aload_n 0, 1) := by decide +kernel
theorem dX1_beginAct_44 : decode cX1_beginAct 44 = .ok (.getfield 30, 3) := by decide +kernel
theorem dX1_beginAct_47 : decode cX1_beginAct 47 = .ok (.iload 8, 2) := by decide +kernel
theorem dX1_beginAct_49 : decode cX1_beginAct 49 = .ok (.iconst 0, 1) := by decide +kernel
theorem dX1_beginAct_50 : decode cX1_beginAct 50 = .ok (.iload_n 1, 1) := by decide +kernel
theorem dX1_beginAct_51 : decode cX1_beginAct 51 = .ok (.invokevirtual 119, 3) := by decide +kernel
theorem dX1_beginAct_54 : decode cX1_beginAct 54 = .ok (.aload_n 0, 1) := by decide +kernel
theorem dX1_beginAct_55 : decode cX1_beginAct 55 = .ok (.getfield 30, 3) := by decide +kernel
theorem dX1_beginAct_58 : decode cX1_beginAct 58 = .ok (.iload 8, 2) := by decide +kernel
theorem dX1_beginAct_60 : decode cX1_beginAct 60 = .ok (.iconst 1, 1) := by decide +kernel
theorem dX1_beginAct_61 : decode cX1_beginAct 61 = .ok (.iload_n 2, 1) := by decide +kernel
theorem dX1_beginAct_62 : decode cX1_beginAct 62 = .ok (.invokevirtual 119, 3) := by decide +kernel
theorem dX1_beginAct_65 : decode cX1_beginAct 65 = .ok (.aload_n 0, 1) := by decide +kernel
theorem dX1_beginAct_66 : decode cX1_beginAct 66 = .ok (.getfield 30, 3) := by decide +kernel
theorem dX1_beginAct_69 : decode cX1_beginAct 69 = .ok (.iload 8, 2) := by decide +kernel
theorem dX1_beginAct_71 : decode cX1_beginAct 71 = .ok (.iconst 2, 1) := by decide +kernel
theorem dX1_beginAct_72 : decode cX1_beginAct 72 = .ok (.iload_n 3, 1) := by decide +kernel
theorem dX1_beginAct_73 : decode cX1_beginAct 73 = .ok (.invokevirtual 119, 3) := by decide +kernel
theorem dX1_beginAct_76 : decode cX1_beginAct 76 = .ok (.aload_n 0, 1) := by decide +kernel
theorem dX1_beginAct_77 : decode cX1_beginAct 77 = .ok (.getfield 30, 3) := by decide +kernel
theorem dX1_beginAct_80 : decode cX1_beginAct 80 = .ok (.iload 8, 2) := by decide +kernel
theorem dX1_beginAct_82 : decode cX1_beginAct 82 = .ok (.iconst 3, 1) := by decide +kernel
theorem dX1_beginAct_83 : decode cX1_beginAct 83 = .ok (.iload 4, 2) := by decide +kernel
theorem dX1_beginAct_85 : decode cX1_beginAct 85 = .ok (.invokevirtual 119, 3) := by decide +kernel
theorem dX1_beginAct_88 : decode cX1_beginAct 88 = .ok (.aload_n 0, 1) := by decide +kernel
theorem dX1_beginAct_89 : decode cX1_beginAct 89 = .ok (.getfield 30, 3) := by decide +kernel
theorem dX1_beginAct_92 : decode cX1_beginAct 92 = .ok (.iload 8, 2) := by decide +kernel
theorem dX1_beginAct_94 : decode cX1_beginAct 94 = .ok (.iconst 4, 1) := by decide +kernel
theorem dX1_beginAct_95 : decode cX1_beginAct 95 = .ok (.iload 5, 2) := by decide +kernel
theorem dX1_beginAct_97 : decode cX1_beginAct 97 = .ok (.invokevirtual 119, 3) := by decide +kernel
theorem dX1_beginAct_100 : decode cX1_beginAct 100 = .ok (.aload_n 0, 1) := by decide +kernel
theorem dX1_beginAct_101 : decode cX1_beginAct 101 = .ok (.getfield 30, 3) := by decide +kernel
theorem dX1_beginAct_104 : decode cX1_beginAct 104 = .ok (.iload 8, 2) := by decide +kernel
theorem dX1_beginAct_106 : decode cX1_beginAct 106 = .ok (.iconst 5, 1) := by decide +kernel
theorem dX1_beginAct_107 : decode cX1_beginAct 107 = .ok (.iload 6, 2) := by decide +kernel
theorem dX1_beginAct_109 : decode cX1_beginAct 109 = .ok (.invokevirtual 119, 3) := by decide +kernel
theorem dX1_beginAct_112 : decode cX1_beginAct 112 = .ok (.aload_n 0, 1) := by decide +kernel
theorem dX1_beginAct_113 : decode cX1_beginAct 113 = .ok (.getfield 30, 3) := by decide +kernel
theorem dX1_beginAct_116 : decode cX1_beginAct 116 = .ok (.iload 8, 2) := by decide +kernel
theorem dX1_beginAct_118 : decode cX1_beginAct 118 = .ok (.bipush 6, 2) := by decide +kernel
theorem dX1_beginAct_120 : decode cX1_beginAct 120 = .ok (.iload 7, 2) := by decide +kernel
theorem dX1_beginAct_122 : decode cX1_beginAct 122 = .ok (.invokevirtual 119, 3) := by decide +kernel
theorem dX1_beginAct_125 : decode cX1_beginAct 125 = .ok (.aload_n 0, 1) := by decide +kernel
theorem dX1_beginAct_126 : decode cX1_beginAct 126 = .ok (.getfield 30, 3) := by decide +kernel
theorem dX1_beginAct_129 : decode cX1_beginAct 129 = .ok (.invokevirtual 60, 3) := by decide +kernel
theorem dX1_beginAct_132 : decode cX1_beginAct 132 = .ok (.ireturn, 1) := by decide +kernel
theorem dX1_maySettle_0 : decode cX1_maySettle 0 = .ok (.aload_n 0, 1) := by decide +kernel
theorem dX1_maySettle_1 : decode cX1_maySettle 1 = .ok (.getfield 30, 3) := by decide +kernel
theorem dX1_maySettle_4 : decode cX1_maySettle 4 = .ok (.invokevirtual 60, 3) := by decide +kernel
theorem dX1_maySettle_7 : decode cX1_maySettle 7 = .ok (.ifCond .le 7, 3) := by decide +kernel
theorem dX1_maySettle_10 : decode cX1_maySettle 10 = .ok (.iconst 1, 1) := by decide +kernel
theorem dX1_maySettle_11 : decode cX1_maySettle 11 = .ok (.goto 4, 3) := by decide +kernel
theorem dX1_maySettle_14 : decode cX1_maySettle 14 = .ok (.iconst 0, 1) := by decide +kernel
theorem dX1_maySettle_15 : decode cX1_maySettle 15 = .ok (.ireturn, 1) := by decide +kernel
theorem dX1_dropTop_0 : decode cX1_dropTop 0 = .ok (.aload_n 0, 1) := by decide +kernel
theorem dX1_dropTop_1 : decode cX1_dropTop 1 = .ok (.getfield 30, 3) := by decide +kernel
theorem dX1_dropTop_4 : decode cX1_dropTop 4 = .ok (.aload_n 0, 1) := by decide +kernel
theorem dX1_dropTop_5 : decode cX1_dropTop 5 = .ok (.getfield 30, 3) := by decide +kernel
theorem dX1_dropTop_8 : decode cX1_dropTop 8 = .ok (.invokevirtual 60, 3) := by decide +kernel
theorem dX1_dropTop_11 : decode cX1_dropTop 11 = .ok (.iconst 1, 1) := by decide +kernel
theorem dX1_dropTop_12 : decode cX1_dropTop 12 = .ok (.isub, 1) := by decide +kernel
theorem dX1_dropTop_13 : decode cX1_dropTop 13 = .ok (.invokevirtual 162, 3) := by decide +kernel
theorem dX1_dropTop_16 : decode cX1_dropTop 16 = .ok (.return_, 1) := by decide +kernel
theorem dX1_heal_0 : decode cX1_heal 0 = .ok (.aload_n 0, 1) := by decide +kernel
theorem dX1_heal_1 : decode cX1_heal 1 = .ok (.getfield 16, 3) := by decide +kernel
theorem dX1_heal_4 : decode cX1_heal 4 = .ok (.iload_n 1, 1) := by decide +kernel
theorem dX1_heal_5 : decode cX1_heal 5 = .ok (.iconst 2, 1) := by decide +kernel
theorem dX1_heal_6 : decode cX1_heal 6 = .ok (.invokevirtual 64, 3) := by decide +kernel
theorem dX1_heal_9 : decode cX1_heal 9 = .ok (.iload_n 2, 1) := by decide +kernel
theorem dX1_heal_10 : decode cX1_heal 10 = .ok (.iadd, 1) := by decide +kernel
theorem dX1_heal_11 : decode cX1_heal 11 = .ok (.istore_n 3, 1) := by decide +kernel
theorem dX1_heal_12 : decode cX1_heal 12 = .ok (.aload_n 0, 1) := by decide +kernel
theorem dX1_heal_13 : decode cX1_heal 13 = .ok (.getfield 16, 3) := by decide +kernel
theorem dX1_heal_16 : decode cX1_heal 16 = .ok (.iload_n 1, 1) := by decide +kernel
theorem dX1_heal_17 : decode cX1_heal 17 = .ok (.iconst 2, 1) := by decide +kernel
theorem dX1_heal_18 : decode cX1_heal 18 = .ok (.iload_n 3, 1) := by decide +kernel
theorem dX1_heal_19 : decode cX1_heal 19 = .ok (.aload_n 0, 1) := by decide +kernel
theorem dX1_heal_20 : decode cX1_heal 20 = .ok (.getfield 16, 3) := by decide +kernel
theorem dX1_heal_23 : decode cX1_heal 23 = .ok (.iload_n 1, 1) := by decide +kernel
theorem dX1_heal_24 : decode cX1_heal 24 = .ok (.iconst 1, 1) := by decide +kernel
theorem dX1_heal_25 : decode cX1_heal 25 = .ok (.invokevirtual 64, 3) := by decide +kernel
theorem dX1_heal_28 : decode cX1_heal 28 = .ok (.invokestatic 150, 3) := by decide +kernel
theorem dX1_heal_31 : decode cX1_heal 31 = .ok (.invokevirtual 119, 3) := by decide +kernel
theorem dX1_heal_34 : decode cX1_heal 34 = .ok (.return_, 1) := by decide +kernel
theorem dX1_settleTop_0 : decode cX1_settleTop 0 = .ok (.aload_n 0, 1) := by decide +kernel
theorem dX1_settleTop_1 : decode cX1_settleTop 1 = .ok (.iconst 0, 1) := by decide +kernel
theorem dX1_settleTop_2 : decode cX1_settleTop 2 = .ok (.iconst 0, 1) := by decide +kernel
theorem dX1_settleTop_3 : decode cX1_settleTop 3 = .ok (.invokevirtual 169, 3) := by decide +kernel
theorem dX1_settleTop_6 : decode cX1_settleTop 6 = .ok (.istore_n 1, 1) := by decide +kernel
theorem dX1_settleTop_7 : decode cX1_settleTop 7 = .ok (.aload_n 0, 1) := by decide +kernel
theorem dX1_settleTop_8 : decode cX1_settleTop 8 = .ok (.iconst 0, 1) := by decide +kernel
theorem dX1_settleTop_9 : decode cX1_settleTop 9 = .ok (.iconst 1, 1) := by decide +kernel
theorem dX1_settleTop_10 : decode cX1_settleTop 10 = .ok (.invokevirtual 169, 3) := by decide +kernel
theorem dX1_settleTop_13 : decode cX1_settleTop 13 = .ok (.istore_n 2, 1) := by decide +kernel
theorem dX1_settleTop_14 : decode cX1_settleTop 14 = .ok (.aload_n 0, 1) := by decide +kernel
theorem dX1_settleTop_15 : decode cX1_settleTop 15 = .ok (.iconst 0, 1) := by decide +kernel
theorem dX1_settleTop_16 : decode cX1_settleTop 16 = .ok (.iconst 2, 1) := by decide +kernel
theorem dX1_settleTop_17 : decode cX1_settleTop 17 = .ok (.invokevirtual 169, 3) := by decide +kernel
theorem dX1_settleTop_20 : decode cX1_settleTop 20 = .ok (.istore_n 3, 1) := by decide +kernel
theorem dX1_settleTop_21 : decode cX1_settleTop 21 = .ok (.aload_n 0, 1) := by decide +kernel
theorem dX1_settleTop_22 : decode cX1_settleTop 22 = .ok (.iconst 0, 1) := by decide +kernel
theorem dX1_settleTop_23 : decode cX1_settleTop 23 = .ok (.iconst 3, 1) := by decide +kernel
theorem dX1_settleTop_24 : decode cX1_settleTop 24 = .ok (.invokevirtual 169, 3) := by decide +kernel
theorem dX1_settleTop_27 : decode cX1_settleTop 27 = .ok (.istore 4, 2) := by decide +kernel
theorem dX1_settleTop_29 : decode cX1_settleTop 29 = .ok (.aload_n 0, 1) := by decide +kernel
theorem dX1_settleTop_30 : decode cX1_settleTop 30 = .ok (.iconst 0, 1) := by decide +kernel
theorem dX1_settleTop_31 : decode cX1_settleTop 31 = .ok (.iconst 4, 1) := by decide +kernel
theorem dX1_settleTop_32 : decode cX1_settleTop 32 = .ok (.invokevirtual 169, 3) := by decide +kernel
theorem dX1_settleTop_35 : decode cX1_settleTop 35 = .ok (.istore 5, 2) := by decide +kernel
theorem dX1_settleTop_37 : decode cX1_settleTop 37 = .ok (.aload_n 0, 1) := by decide +kernel
theorem dX1_settleTop_38 : decode cX1_settleTop 38 = .ok (.iconst 0, 1) := by decide +kernel
theorem dX1_settleTop_39 : decode cX1_settleTop 39 = .ok (.iconst 5, 1) := by decide +kernel
theorem dX1_settleTop_40 : decode cX1_settleTop 40 = .ok (.invokevirtual 169, 3) := by decide +kernel
theorem dX1_settleTop_43 : decode cX1_settleTop 43 = .ok (.istore 6, 2) := by decide +kernel
theorem dX1_settleTop_45 : decode cX1_settleTop 45 = .ok (.aload_n 0, 1) := by decide +kernel
theorem dX1_settleTop_46 : decode cX1_settleTop 46 = .ok (.iconst 0, 1) := by decide +kernel
theorem dX1_settleTop_47 : decode cX1_settleTop 47 = .ok (.bipush 6, 2) := by decide +kernel
theorem dX1_settleTop_49 : decode cX1_settleTop 49 = .ok (.invokevirtual 169, 3) := by decide +kernel
theorem dX1_settleTop_52 : decode cX1_settleTop 52 = .ok (.istore 7, 2) := by decide +kernel
theorem dX1_settleTop_54 : decode cX1_settleTop 54 = .ok (.aload_n 0, 1) := by decide +kernel
theorem dX1_settleTop_55 : decode cX1_settleTop 55 = .ok (.invokevirtual 178, 3) := by decide +kernel
theorem dX1_settleTop_58 : decode cX1_settleTop 58 = .ok (.aload_n 0, 1) := by decide +kernel
theorem dX1_settleTop_59 : decode cX1_settleTop 59 = .ok (.iload_n 2, 1) := by decide +kernel
theorem dX1_settleTop_60 : decode cX1_settleTop 60 = .ok (.invokevirtual 104, 3) := by decide +kernel
theorem dX1_settleTop_63 : decode cX1_settleTop 63 = .ok (.ifCond .eq 16, 3) := by decide +kernel
theorem dX1_settleTop_66 : decode cX1_settleTop 66 = .ok (.iload_n 1, 1) := by decide +kernel
theorem dX1_settleTop_67 : decode cX1_settleTop 67 = .ok (.iconst 3, 1) := by decide +kernel
theorem dX1_settleTop_68 : decode cX1_settleTop 68 = .ok (.if_icmp .eq 13, 3) := by decide +kernel
theorem dX1_settleTop_71 : decode cX1_settleTop 71 = .ok (.aload_n 0, 1) := by decide +kernel
theorem dX1_settleTop_72 : decode cX1_settleTop 72 = .ok (.iload_n 3, 1) := by decide +kernel
theorem dX1_settleTop_73 : decode cX1_settleTop 73 = .ok (.invokevirtual 104, 3) := by decide +kernel
theorem dX1_settleTop_76 : decode cX1_settleTop 76 = .ok (.ifCond .ne 5, 3) := by decide +kernel
theorem dX1_settleTop_79 : decode cX1_settleTop 79 = .ok (.iconst 0, 1) := by decide +kernel
theorem dX1_settleTop_80 : decode cX1_settleTop 80 = .ok (.ireturn, 1) := by decide +kernel
theorem dX1_settleTop_81 : decode cX1_settleTop 81 = .ok (.iload_n 1, 1) := by decide +kernel
theorem dX1_settleTop_82 : decode cX1_settleTop 82 = .ok (.tableswitch 80 0 2 #[26, 50, 60], 26) := by decide +kernel
theorem dX1_settleTop_108 : decode cX1_settleTop 108 = .ok (.aload_n 0, 1) := by decide +kernel
theorem dX1_settleTop_109 : decode cX1_settleTop 109 = .ok (.iload_n 3, 1) := by decide +kernel
theorem dX1_settleTop_110 : decode cX1_settleTop 110 = .ok (.iconst 0, 1) := by decide +kernel
theorem dX1_settleTop_111 : decode cX1_settleTop 111 = .ok (.iload 4, 2) := by decide +kernel
theorem dX1_settleTop_113 : decode cX1_settleTop 113 = .ok (.aload_n 0, 1) := by decide +kernel
theorem dX1_settleTop_114 : decode cX1_settleTop 114 = .ok (.getfield 23, 3) := by decide +kernel
theorem dX1_settleTop_117 : decode cX1_settleTop 117 = .ok (.iload_n 3, 1) := by decide +kernel
theorem dX1_settleTop_118 : decode cX1_settleTop 118 = .ok (.iconst 3, 1) := by decide +kernel
theorem dX1_settleTop_119 : decode cX1_settleTop 119 = .ok (.invokevirtual 107, 3) := by decide +kernel
theorem dX1_settleTop_122 : decode cX1_settleTop 122 = .ok (.isub, 1) := by decide +kernel
theorem dX1_settleTop_123 : decode cX1_settleTop 123 = .ok (.invokestatic 110, 3) := by decide +kernel
theorem dX1_settleTop_126 : decode cX1_settleTop 126 = .ok (.invokevirtual 147, 3) := by decide +kernel
theorem dX1_settleTop_129 : decode cX1_settleTop 129 = .ok (.goto 37, 3) := by decide +kernel
theorem dX1_settleTop_132 : decode cX1_settleTop 132 = .ok (.aload_n 0, 1) := by decide +kernel
theorem dX1_settleTop_133 : decode cX1_settleTop 133 = .ok (.iload_n 3, 1) := by decide +kernel
theorem dX1_settleTop_134 : decode cX1_settleTop 134 = .ok (.iload 4, 2) := by decide +kernel
theorem dX1_settleTop_136 : decode cX1_settleTop 136 = .ok (.invokevirtual 181, 3) := by decide +kernel
theorem dX1_settleTop_139 : decode cX1_settleTop 139 = .ok (.goto 27, 3) := by decide +kernel
theorem dX1_settleTop_142 : decode cX1_settleTop 142 = .ok (.aload_n 0, 1) := by decide +kernel
theorem dX1_settleTop_143 : decode cX1_settleTop 143 = .ok (.getfield 23, 3) := by decide +kernel
theorem dX1_settleTop_146 : decode cX1_settleTop 146 = .ok (.iload 5, 2) := by decide +kernel
theorem dX1_settleTop_148 : decode cX1_settleTop 148 = .ok (.iload 4, 2) := by decide +kernel
theorem dX1_settleTop_150 : decode cX1_settleTop 150 = .ok (.iload_n 2, 1) := by decide +kernel
theorem dX1_settleTop_151 : decode cX1_settleTop 151 = .ok (.iload_n 3, 1) := by decide +kernel
theorem dX1_settleTop_152 : decode cX1_settleTop 152 = .ok (.iload 6, 2) := by decide +kernel
theorem dX1_settleTop_154 : decode cX1_settleTop 154 = .ok (.iload 7, 2) := by decide +kernel
theorem dX1_settleTop_156 : decode cX1_settleTop 156 = .ok (.invokevirtual 184, 3) := by decide +kernel
theorem dX1_settleTop_159 : decode cX1_settleTop 159 = .ok (.goto 7, 3) := by decide +kernel
theorem dX1_settleTop_162 : decode cX1_settleTop 162 = .ok (.aload_n 0, 1) := by decide +kernel
theorem dX1_settleTop_163 : decode cX1_settleTop 163 = .ok (.invokevirtual 178, 3) := by decide +kernel
theorem dX1_settleTop_166 : decode cX1_settleTop 166 = .ok (.iconst 1, 1) := by decide +kernel
theorem dX1_settleTop_167 : decode cX1_settleTop 167 = .ok (.ireturn, 1) := by decide +kernel
theorem dX1_settleStack_0 : decode cX1_settleStack 0 = .ok (.iconst 0, 1) := by decide +kernel
theorem dX1_settleStack_1 : decode cX1_settleStack 1 = .ok (.istore_n 1, 1) := by decide +kernel
theorem dX1_settleStack_2 : decode cX1_settleStack 2 = .ok (.iconst 0, 1) := by decide +kernel
theorem dX1_settleStack_3 : decode cX1_settleStack 3 = .ok (.istore_n 2, 1) := by decide +kernel
theorem dX1_settleStack_4 : decode cX1_settleStack 4 = .ok (.iload_n 2, 1) := by decide +kernel
theorem dX1_settleStack_5 : decode cX1_settleStack 5 = .ok (.bipush 8, 2) := by decide +kernel
theorem dX1_settleStack_7 : decode cX1_settleStack 7 = .ok (.if_icmp .ge 29, 3) := by decide +kernel
theorem dX1_settleStack_10 : decode cX1_settleStack 10 = .ok (.aload_n 0, 1) := by decide +kernel
theorem dX1_settleStack_11 : decode cX1_settleStack 11 = .ok (.getfield 30, 3) := by decide +kernel
theorem dX1_settleStack_14 : decode cX1_settleStack 14 = .ok (.invokevirtual 60, 3) := by decide +kernel
theorem dX1_settleStack_17 : decode cX1_settleStack 17 = .ok (.ifCond .le 19, 3) := by decide +kernel
theorem dX1_settleStack_20 : decode cX1_settleStack 20 = .ok (.aload_n 0, 1) := by decide +kernel
theorem dX1_settleStack_21 : decode cX1_settleStack 21 = .ok (.invokevirtual 175, 3) := by decide +kernel
theorem dX1_settleStack_24 : decode cX1_settleStack 24 = .ok (.ifCond .eq 6, 3) := by decide +kernel
theorem dX1_settleStack_27 : decode cX1_settleStack 27 = .ok (.iinc 1 1, 3) := by decide +kernel
theorem dX1_settleStack_30 : decode cX1_settleStack 30 = .ok (.iinc 2 1, 3) := by decide +kernel
theorem dX1_settleStack_33 : decode cX1_settleStack 33 = .ok (.goto (-29), 3) := by decide +kernel
theorem dX1_settleStack_36 : decode cX1_settleStack 36 = .ok (.aload_n 0, 1) := by decide +kernel
theorem dX1_settleStack_37 : decode cX1_settleStack 37 = .ok (.getfield 37, 3) := by decide +kernel
theorem dX1_settleStack_40 : decode cX1_settleStack 40 = .ok (.iconst (-1), 1) := by decide +kernel
theorem dX1_settleStack_41 : decode cX1_settleStack 41 = .ok (.if_icmp .eq 19, 3) := by decide +kernel
theorem dX1_settleStack_44 : decode cX1_settleStack 44 = .ok (.aload_n 0, 1) := by decide +kernel
theorem dX1_settleStack_45 : decode cX1_settleStack 45 = .ok (.aload_n 0, 1) := by decide +kernel
theorem dX1_settleStack_46 : decode cX1_settleStack 46 = .ok (.getfield 37, 3) := by decide +kernel
theorem dX1_settleStack_49 : decode cX1_settleStack 49 = .ok (.invokevirtual 104, 3) := by decide +kernel
theorem dX1_settleStack_52 : decode cX1_settleStack 52 = .ok (.ifCond .ne 8, 3) := by decide +kernel
theorem dX1_settleStack_55 : decode cX1_settleStack 55 = .ok (.aload_n 0, 1) := by decide +kernel
theorem dX1_settleStack_56 : decode cX1_settleStack 56 = .ok (.iconst (-1), 1) := by decide +kernel
theorem dX1_settleStack_57 : decode cX1_settleStack 57 = .ok (.putfield 37, 3) := by decide +kernel
theorem dX1_settleStack_60 : decode cX1_settleStack 60 = .ok (.iload_n 1, 1) := by decide +kernel
theorem dX1_settleStack_61 : decode cX1_settleStack 61 = .ok (.ireturn, 1) := by decide +kernel
theorem dX1_abandonTurn_0 : decode cX1_abandonTurn 0 = .ok (.aload_n 0, 1) := by decide +kernel
theorem dX1_abandonTurn_1 : decode cX1_abandonTurn 1 = .ok (.getfield 30, 3) := by decide +kernel
theorem dX1_abandonTurn_4 : decode cX1_abandonTurn 4 = .ok (.invokevirtual 138, 3) := by decide +kernel
theorem dX1_abandonTurn_7 : decode cX1_abandonTurn 7 = .ok (.aload_n 0, 1) := by decide +kernel
theorem dX1_abandonTurn_8 : decode cX1_abandonTurn 8 = .ok (.getfield 37, 3) := by decide +kernel
theorem dX1_abandonTurn_11 : decode cX1_abandonTurn 11 = .ok (.iconst (-1), 1) := by decide +kernel
theorem dX1_abandonTurn_12 : decode cX1_abandonTurn 12 = .ok (.if_icmp .eq 8, 3) := by decide +kernel
theorem dX1_abandonTurn_15 : decode cX1_abandonTurn 15 = .ok (.aload_n 0, 1) := by decide +kernel
theorem dX1_abandonTurn_16 : decode cX1_abandonTurn 16 = .ok (.invokevirtual 135, 3) := by decide +kernel
theorem dX1_abandonTurn_19 : decode cX1_abandonTurn 19 = .ok (.pop, 1) := by decide +kernel
theorem dX1_abandonTurn_20 : decode cX1_abandonTurn 20 = .ok (.return_, 1) := by decide +kernel
theorem dX1_passTurn_0 : decode cX1_passTurn 0 = .ok (.aload_n 0, 1) := by decide +kernel
theorem dX1_passTurn_1 : decode cX1_passTurn 1 = .ok (.invokevirtual 188, 3) := by decide +kernel
theorem dX1_passTurn_4 : decode cX1_passTurn 4 = .ok (.istore_n 1, 1) := by decide +kernel
theorem dX1_passTurn_5 : decode cX1_passTurn 5 = .ok (.aload_n 0, 1) := by decide +kernel
theorem dX1_passTurn_6 : decode cX1_passTurn 6 = .ok (.getfield 37, 3) := by decide +kernel
theorem dX1_passTurn_9 : decode cX1_passTurn 9 = .ok (.iconst (-1), 1) := by decide +kernel
theorem dX1_passTurn_10 : decode cX1_passTurn 10 = .ok (.if_icmp .eq 8, 3) := by decide +kernel
theorem dX1_passTurn_13 : decode cX1_passTurn 13 = .ok (.aload_n 0, 1) := by decide +kernel
theorem dX1_passTurn_14 : decode cX1_passTurn 14 = .ok (.invokevirtual 135, 3) := by decide +kernel
theorem dX1_passTurn_17 : decode cX1_passTurn 17 = .ok (.pop, 1) := by decide +kernel
theorem dX1_passTurn_18 : decode cX1_passTurn 18 = .ok (.iload_n 1, 1) := by decide +kernel
theorem dX1_passTurn_19 : decode cX1_passTurn 19 = .ok (.ireturn, 1) := by decide +kernel
theorem dX1_init_0 : decode cX1_init 0 = .ok (.aload_n 0, 1) := by decide +kernel
theorem dX1_init_1 : decode cX1_init 1 = .ok (.invokespecial 3, 3) := by decide +kernel
theorem dX1_init_4 : decode cX1_init 4 = .ok (.aload_n 0, 1) := by decide +kernel
theorem dX1_init_5 : decode cX1_init 5 = .ok (.new 9, 3) := by decide +kernel
theorem dX1_init_8 : decode cX1_init 8 = .ok (.dup, 1) := by decide +kernel
theorem dX1_init_9 : decode cX1_init 9 = .ok (.bipush 10, 2) := by decide +kernel
theorem dX1_init_11 : decode cX1_init 11 = .ok (.iconst 4, 1) := by decide +kernel
theorem dX1_init_12 : decode cX1_init 12 = .ok (.invokespecial 13, 3) := by decide +kernel
theorem dX1_init_15 : decode cX1_init 15 = .ok (.putfield 16, 3) := by decide +kernel
theorem dX1_init_18 : decode cX1_init 18 = .ok (.aload_n 0, 1) := by decide +kernel
theorem dX1_init_19 : decode cX1_init 19 = .ok (.new 20, 3) := by decide +kernel
theorem dX1_init_22 : decode cX1_init 22 = .ok (.dup, 1) := by decide +kernel
theorem dX1_init_23 : decode cX1_init 23 = .ok (.invokespecial 22, 3) := by decide +kernel
theorem dX1_init_26 : decode cX1_init 26 = .ok (.putfield 23, 3) := by decide +kernel
theorem dX1_init_29 : decode cX1_init 29 = .ok (.aload_n 0, 1) := by decide +kernel
theorem dX1_init_30 : decode cX1_init 30 = .ok (.new 9, 3) := by decide +kernel
theorem dX1_init_33 : decode cX1_init 33 = .ok (.dup, 1) := by decide +kernel
theorem dX1_init_34 : decode cX1_init 34 = .ok (.bipush 10, 2) := by decide +kernel
theorem dX1_init_36 : decode cX1_init 36 = .ok (.iconst 2, 1) := by decide +kernel
theorem dX1_init_37 : decode cX1_init 37 = .ok (.invokespecial 13, 3) := by decide +kernel
theorem dX1_init_40 : decode cX1_init 40 = .ok (.putfield 27, 3) := by decide +kernel
theorem dX1_init_43 : decode cX1_init 43 = .ok (.aload_n 0, 1) := by decide +kernel
theorem dX1_init_44 : decode cX1_init 44 = .ok (.new 9, 3) := by decide +kernel
theorem dX1_init_47 : decode cX1_init 47 = .ok (.dup, 1) := by decide +kernel
theorem dX1_init_48 : decode cX1_init 48 = .ok (.bipush 8, 2) := by decide +kernel
theorem dX1_init_50 : decode cX1_init 50 = .ok (.bipush 7, 2) := by decide +kernel
theorem dX1_init_52 : decode cX1_init 52 = .ok (.invokespecial 13, 3) := by decide +kernel
theorem dX1_init_55 : decode cX1_init 55 = .ok (.putfield 30, 3) := by decide +kernel
theorem dX1_init_58 : decode cX1_init 58 = .ok (.aload_n 0, 1) := by decide +kernel
theorem dX1_init_59 : decode cX1_init 59 = .ok (.iconst 0, 1) := by decide +kernel
theorem dX1_init_60 : decode cX1_init 60 = .ok (.putfield 33, 3) := by decide +kernel
theorem dX1_init_63 : decode cX1_init 63 = .ok (.aload_n 0, 1) := by decide +kernel
theorem dX1_init_64 : decode cX1_init 64 = .ok (.iconst (-1), 1) := by decide +kernel
theorem dX1_init_65 : decode cX1_init 65 = .ok (.putfield 37, 3) := by decide +kernel
theorem dX1_init_68 : decode cX1_init 68 = .ok (.aload_n 0, 1) := by decide +kernel
theorem dX1_init_69 : decode cX1_init 69 = .ok (.iconst (-1), 1) := by decide +kernel
theorem dX1_init_70 : decode cX1_init 70 = .ok (.putfield 40, 3) := by decide +kernel
theorem dX1_init_73 : decode cX1_init 73 = .ok (.aload_n 0, 1) := by decide +kernel
theorem dX1_init_74 : decode cX1_init 74 = .ok (.iconst 0, 1) := by decide +kernel
theorem dX1_init_75 : decode cX1_init 75 = .ok (.putfield 43, 3) := by decide +kernel
theorem dX1_init_78 : decode cX1_init 78 = .ok (.aload_n 0, 1) := by decide +kernel
theorem dX1_init_79 : decode cX1_init 79 = .ok (.bipush 10, 2) := by decide +kernel
theorem dX1_init_81 : decode cX1_init 81 = .ok (.putfield 47, 3) := by decide +kernel
theorem dX1_init_84 : decode cX1_init 84 = .ok (.aload_n 0, 1) := by decide +kernel
theorem dX1_init_85 : decode cX1_init 85 = .ok (.iconst 0, 1) := by decide +kernel
theorem dX1_init_86 : decode cX1_init 86 = .ok (.putfield 50, 3) := by decide +kernel
theorem dX1_init_89 : decode cX1_init 89 = .ok (.return_, 1) := by decide +kernel
