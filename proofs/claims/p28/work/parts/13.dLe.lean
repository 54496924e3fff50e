theorem dL_isRight_651 : decode cL_isRight 651 = .ok (.invokevirtual 8, 3) := by decide +kernel
theorem dL_isRight_654 : decode cL_isRight 654 = .ok (.ifCond .gt 11, 3) := by decide +kernel
theorem dL_isRight_657 : decode cL_isRight 657 = .ok (.aload_n 0, 1) := by decide +kernel
theorem dL_isRight_658 : decode cL_isRight 658 = .ok (.invokevirtual 70, 3) := by decide +kernel
theorem dL_isRight_661 : decode cL_isRight 661 = .ok (.iload_n 3, 1) := by decide +kernel
theorem dL_isRight_662 : decode cL_isRight 662 = .ok (.if_icmp .ne 7, 3) := by decide +kernel
theorem dL_isRight_665 : decode cL_isRight 665 = .ok (.iconst 1, 1) := by decide +kernel
theorem dL_isRight_666 : decode cL_isRight 666 = .ok (.goto 4, 3) := by decide +kernel
theorem dL_isRight_669 : decode cL_isRight 669 = .ok (.iconst 0, 1) := by decide +kernel
theorem dL_isRight_670 : decode cL_isRight 670 = .ok (.ireturn, 1) := by decide +kernel
theorem dL_comesTrue_0 : decode cL_comesTrue 0 = .ok (.aload_n 0, 1) := by decide +kernel
theorem dL_comesTrue_1 : decode cL_comesTrue 1 = .ok (.iconst 2, 1) := by decide +kernel
theorem dL_comesTrue_2 : decode cL_comesTrue 2 = .ok (.invokevirtual 8, 3) := by decide +kernel
theorem dL_comesTrue_5 : decode cL_comesTrue 5 = .ok (.ifCond .le 11, 3) := by decide +kernel
theorem dL_comesTrue_8 : decode cL_comesTrue 8 = .ok (.aload_n 0, 1) := by decide +kernel
theorem dL_comesTrue_9 : decode cL_comesTrue 9 = .ok (.iconst 0, 1) := by decide +kernel
theorem dL_comesTrue_10 : decode cL_comesTrue 10 = .ok (.invokevirtual 101, 3) := by decide +kernel
theorem dL_comesTrue_13 : decode cL_comesTrue 13 = .ok (.goto 4, 3) := by decide +kernel
theorem dL_comesTrue_16 : decode cL_comesTrue 16 = .ok (.iconst 0, 1) := by decide +kernel
theorem dL_comesTrue_17 : decode cL_comesTrue 17 = .ok (.istore_n 2, 1) := by decide +kernel
theorem dL_comesTrue_18 : decode cL_comesTrue 18 = .ok (.aload_n 0, 1) := by decide +kernel
theorem dL_comesTrue_19 : decode cL_comesTrue 19 = .ok (.bipush 8, 2) := by decide +kernel
theorem dL_comesTrue_21 : decode cL_comesTrue 21 = .ok (.invokevirtual 8, 3) := by decide +kernel
theorem dL_comesTrue_24 : decode cL_comesTrue 24 = .ok (.istore_n 3, 1) := by decide +kernel
theorem dL_comesTrue_25 : decode cL_comesTrue 25 = .ok (.aload_n 0, 1) := by decide +kernel
theorem dL_comesTrue_26 : decode cL_comesTrue 26 = .ok (.iconst 2, 1) := by decide +kernel
theorem dL_comesTrue_27 : decode cL_comesTrue 27 = .ok (.invokevirtual 8, 3) := by decide +kernel
theorem dL_comesTrue_30 : decode cL_comesTrue 30 = .ok (.istore 4, 2) := by decide +kernel
theorem dL_comesTrue_32 : decode cL_comesTrue 32 = .ok (.aload_n 0, 1) := by decide +kernel
theorem dL_comesTrue_33 : decode cL_comesTrue 33 = .ok (.iconst 4, 1) := by decide +kernel
theorem dL_comesTrue_34 : decode cL_comesTrue 34 = .ok (.invokevirtual 8, 3) := by decide +kernel
theorem dL_comesTrue_37 : decode cL_comesTrue 37 = .ok (.ifCond .lt 10, 3) := by decide +kernel
theorem dL_comesTrue_40 : decode cL_comesTrue 40 = .ok (.aload_n 0, 1) := by decide +kernel
theorem dL_comesTrue_41 : decode cL_comesTrue 41 = .ok (.invokevirtual 44, 3) := by decide +kernel
theorem dL_comesTrue_44 : decode cL_comesTrue 44 = .ok (.goto 4, 3) := by decide +kernel
theorem dL_comesTrue_47 : decode cL_comesTrue 47 = .ok (.iconst 0, 1) := by decide +kernel
theorem dL_comesTrue_48 : decode cL_comesTrue 48 = .ok (.istore 5, 2) := by decide +kernel
theorem dL_comesTrue_50 : decode cL_comesTrue 50 = .ok (.iload 5, 2) := by decide +kernel
theorem dL_comesTrue_52 : decode cL_comesTrue 52 = .ok (.iload 4, 2) := by decide +kernel
theorem dL_comesTrue_54 : decode cL_comesTrue 54 = .ok (.if_icmp .gt 22, 3) := by decide +kernel
theorem dL_comesTrue_57 : decode cL_comesTrue 57 = .ok (.iload_n 2, 1) := by decide +kernel
theorem dL_comesTrue_58 : decode cL_comesTrue 58 = .ok (.ifCond .ne 20, 3) := by decide +kernel
theorem dL_comesTrue_61 : decode cL_comesTrue 61 = .ok (.iload 4, 2) := by decide +kernel
theorem dL_comesTrue_63 : decode cL_comesTrue 63 = .ok (.ifCond .le 15, 3) := by decide +kernel
theorem dL_comesTrue_66 : decode cL_comesTrue 66 = .ok (.aload_n 0, 1) := by decide +kernel
theorem dL_comesTrue_67 : decode cL_comesTrue 67 = .ok (.bipush 8, 2) := by decide +kernel
theorem dL_comesTrue_69 : decode cL_comesTrue 69 = .ok (.invokevirtual 8, 3) := by decide +kernel
theorem dL_comesTrue_72 : decode cL_comesTrue 72 = .ok (.iload_n 3, 1) := by decide +kernel
theorem dL_comesTrue_73 : decode cL_comesTrue 73 = .ok (.if_icmp .ne 5, 3) := by decide +kernel
theorem dL_comesTrue_76 : decode cL_comesTrue 76 = .ok (.iconst 0, 1) := by decide +kernel
theorem dL_comesTrue_77 : decode cL_comesTrue 77 = .ok (.ireturn, 1) := by decide +kernel
theorem dL_comesTrue_78 : decode cL_comesTrue 78 = .ok (.aload_n 0, 1) := by decide +kernel
theorem dL_comesTrue_79 : decode cL_comesTrue 79 = .ok (.invokevirtual 40, 3) := by decide +kernel
theorem dL_comesTrue_82 : decode cL_comesTrue 82 = .ok (.iload_n 1, 1) := by decide +kernel
theorem dL_comesTrue_83 : decode cL_comesTrue 83 = .ok (.if_icmp .ne 7, 3) := by decide +kernel
theorem dL_comesTrue_86 : decode cL_comesTrue 86 = .ok (.iconst 1, 1) := by decide +kernel
theorem dL_comesTrue_87 : decode cL_comesTrue 87 = .ok (.goto 4, 3) := by decide +kernel
theorem dL_comesTrue_90 : decode cL_comesTrue 90 = .ok (.iconst 0, 1) := by decide +kernel
theorem dL_comesTrue_91 : decode cL_comesTrue 91 = .ok (.ireturn, 1) := by decide +kernel
theorem dL_cell_0 : decode cL_cell 0 = .ok (.iload_n 1, 1) := by decide +kernel
theorem dL_cell_1 : decode cL_cell 1 = .ok (.aload_n 0, 1) := by decide +kernel
theorem dL_cell_2 : decode cL_cell 2 = .ok (.arraylength, 1) := by decide +kernel
theorem dL_cell_3 : decode cL_cell 3 = .ok (.if_icmp .ge 9, 3) := by decide +kernel
theorem dL_cell_6 : decode cL_cell 6 = .ok (.aload_n 0, 1) := by decide +kernel
theorem dL_cell_7 : decode cL_cell 7 = .ok (.iload_n 1, 1) := by decide +kernel
theorem dL_cell_8 : decode cL_cell 8 = .ok (.iaload, 1) := by decide +kernel
theorem dL_cell_9 : decode cL_cell 9 = .ok (.goto 15, 3) := by decide +kernel
theorem dL_cell_12 : decode cL_cell 12 = .ok (.sipush 7919, 3) := by decide +kernel
theorem dL_cell_15 : decode cL_cell 15 = .ok (.iload_n 1, 1) := by decide +kernel
theorem dL_cell_16 : decode cL_cell 16 = .ok (.iconst 3, 1) := by decide +kernel
theorem dL_cell_17 : decode cL_cell 17 = .ok (.iadd, 1) := by decide +kernel
theorem dL_cell_18 : decode cL_cell 18 = .ok (.imul, 1) := by decide +kernel
theorem dL_cell_19 : decode cL_cell 19 = .ok (.iload_n 1, 1) := by decide +kernel
theorem dL_cell_20 : decode cL_cell 20 = .ok (.bipush 11, 2) := by decide +kernel
theorem dL_cell_22 : decode cL_cell 22 = .ok (.iadd, 1) := by decide +kernel
theorem dL_cell_23 : decode cL_cell 23 = .ok (.imul, 1) := by decide +kernel
theorem dL_cell_24 : decode cL_cell 24 = .ok (.ireturn, 1) := by decide +kernel
theorem dL_law_0 : decode cL_law 0 = .ok (.new 9, 3) := by decide +kernel
theorem dL_law_3 : decode cL_law 3 = .ok (.dup, 1) := by decide +kernel
theorem dL_law_4 : decode cL_law 4 = .ok (.invokespecial 73, 3) := by decide +kernel
theorem dL_law_7 : decode cL_law 7 = .ok (.astore_n 1, 1) := by decide +kernel
theorem dL_law_8 : decode cL_law 8 = .ok (.iconst 0, 1) := by decide +kernel
theorem dL_law_9 : decode cL_law 9 = .ok (.istore_n 2, 1) := by decide +kernel
theorem dL_law_10 : decode cL_law 10 = .ok (.iload_n 2, 1) := by decide +kernel
theorem dL_law_11 : decode cL_law 11 = .ok (.iconst 3, 1) := by decide +kernel
theorem dL_law_12 : decode cL_law 12 = .ok (.if_icmp .ge 44, 3) := by decide +kernel
theorem dL_law_15 : decode cL_law 15 = .ok (.aload_n 0, 1) := by decide +kernel
theorem dL_law_16 : decode cL_law 16 = .ok (.iload_n 2, 1) := by decide +kernel
theorem dL_law_17 : decode cL_law 17 = .ok (.invokestatic 74, 3) := by decide +kernel
theorem dL_law_20 : decode cL_law 20 = .ok (.istore_n 3, 1) := by decide +kernel
theorem dL_law_21 : decode cL_law 21 = .ok (.aload_n 1, 1) := by decide +kernel
theorem dL_law_22 : decode cL_law 22 = .ok (.iconst 1, 1) := by decide +kernel
theorem dL_law_23 : decode cL_law 23 = .ok (.iload_n 3, 1) := by decide +kernel
theorem dL_law_24 : decode cL_law 24 = .ok (.bipush 30, 2) := by decide +kernel
theorem dL_law_26 : decode cL_law 26 = .ok (.invokestatic 14, 3) := by decide +kernel
theorem dL_law_29 : decode cL_law 29 = .ok (.iadd, 1) := by decide +kernel
theorem dL_law_30 : decode cL_law 30 = .ok (.bipush 30, 2) := by decide +kernel
theorem dL_law_32 : decode cL_law 32 = .ok (.iload_n 3, 1) := by decide +kernel
theorem dL_law_33 : decode cL_law 33 = .ok (.iconst 5, 1) := by decide +kernel
theorem dL_law_34 : decode cL_law 34 = .ok (.ishr, 1) := by decide +kernel
theorem dL_law_35 : decode cL_law 35 = .ok (.bipush 120, 2) := by decide +kernel
theorem dL_law_37 : decode cL_law 37 = .ok (.invokestatic 14, 3) := by decide +kernel
theorem dL_law_40 : decode cL_law 40 = .ok (.iadd, 1) := by decide +kernel
theorem dL_law_41 : decode cL_law 41 = .ok (.invokevirtual 24, 3) := by decide +kernel
theorem dL_law_44 : decode cL_law 44 = .ok (.iload_n 2, 1) := by decide +kernel
theorem dL_law_45 : decode cL_law 45 = .ok (.if_icmp .eq 5, 3) := by decide +kernel
theorem dL_law_48 : decode cL_law 48 = .ok (.iconst 0, 1) := by decide +kernel
theorem dL_law_49 : decode cL_law 49 = .ok (.ireturn, 1) := by decide +kernel
theorem dL_law_50 : decode cL_law 50 = .ok (.iinc 2 1, 3) := by decide +kernel
theorem dL_law_53 : decode cL_law 53 = .ok (.goto (-43), 3) := by decide +kernel
theorem dL_law_56 : decode cL_law 56 = .ok (.aload_n 1, 1) := by decide +kernel
theorem dL_law_57 : decode cL_law 57 = .ok (.iconst 3, 1) := by decide +kernel
theorem dL_law_58 : decode cL_law 58 = .ok (.invokevirtual 8, 3) := by decide +kernel
theorem dL_law_61 : decode cL_law 61 = .ok (.ifCond .ne 10, 3) := by decide +kernel
theorem dL_law_64 : decode cL_law 64 = .ok (.aload_n 1, 1) := by decide +kernel
theorem dL_law_65 : decode cL_law 65 = .ok (.invokevirtual 40, 3) := by decide +kernel
theorem dL_law_68 : decode cL_law 68 = .ok (.ifCond .ge 5, 3) := by decide +kernel
theorem dL_law_71 : decode cL_law 71 = .ok (.iconst 0, 1) := by decide +kernel
theorem dL_law_72 : decode cL_law 72 = .ok (.ireturn, 1) := by decide +kernel
theorem dL_law_73 : decode cL_law 73 = .ok (.iconst 0, 1) := by decide +kernel
theorem dL_law_74 : decode cL_law 74 = .ok (.istore_n 2, 1) := by decide +kernel
theorem dL_law_75 : decode cL_law 75 = .ok (.iload_n 2, 1) := by decide +kernel
theorem dL_law_76 : decode cL_law 76 = .ok (.bipush 17, 2) := by decide +kernel
theorem dL_law_78 : decode cL_law 78 = .ok (.if_icmp .ge 280, 3) := by decide +kernel
theorem dL_law_81 : decode cL_law 81 = .ok (.aload_n 0, 1) := by decide +kernel
theorem dL_law_82 : decode cL_law 82 = .ok (.iconst 3, 1) := by decide +kernel
theorem dL_law_83 : decode cL_law 83 = .ok (.iload_n 2, 1) := by decide +kernel
theorem dL_law_84 : decode cL_law 84 = .ok (.iadd, 1) := by decide +kernel
theorem dL_law_85 : decode cL_law 85 = .ok (.invokestatic 74, 3) := by decide +kernel
theorem dL_law_88 : decode cL_law 88 = .ok (.istore_n 3, 1) := by decide +kernel
theorem dL_law_89 : decode cL_law 89 = .ok (.aload_n 1, 1) := by decide +kernel
theorem dL_law_90 : decode cL_law 90 = .ok (.invokevirtual 78, 3) := by decide +kernel
theorem dL_law_93 : decode cL_law 93 = .ok (.lstore 4, 2) := by decide +kernel
theorem dL_law_95 : decode cL_law 95 = .ok (.aload_n 1, 1) := by decide +kernel
theorem dL_law_96 : decode cL_law 96 = .ok (.iload_n 3, 1) := by decide +kernel
theorem dL_law_97 : decode cL_law 97 = .ok (.invokestatic 82, 3) := by decide +kernel
theorem dL_law_100 : decode cL_law 100 = .ok (.istore 6, 2) := by decide +kernel
theorem dL_law_102 : decode cL_law 102 = .ok (.iload 6, 2) := by decide +kernel
theorem dL_law_104 : decode cL_law 104 = .ok (.sipush (-200), 3) := by decide +kernel
theorem dL_law_107 : decode cL_law 107 = .ok (.if_icmp .ne 13, 3) := by decide +kernel
theorem dL_law_110 : decode cL_law 110 = .ok (.aload_n 1, 1) := by decide +kernel
theorem dL_law_111 : decode cL_law 111 = .ok (.invokevirtual 78, 3) := by decide +kernel
theorem dL_law_114 : decode cL_law 114 = .ok (.lload 4, 2) := by decide +kernel
theorem dL_law_116 : decode cL_law 116 = .ok (.lcmp, 1) := by decide +kernel
theorem dL_law_117 : decode cL_law 117 = .ok (.ifCond .ne 10, 3) := by decide +kernel
theorem dL_law_120 : decode cL_law 120 = .ok (.aload_n 1, 1) := by decide +kernel
theorem dL_law_121 : decode cL_law 121 = .ok (.invokestatic 84, 3) := by decide +kernel
theorem dL_law_124 : decode cL_law 124 = .ok (.ifCond .ne 5, 3) := by decide +kernel
theorem dL_law_127 : decode cL_law 127 = .ok (.iconst 0, 1) := by decide +kernel
theorem dL_law_128 : decode cL_law 128 = .ok (.ireturn, 1) := by decide +kernel
