theorem dX3_length_0 : decode cX3_length 0 = .ok (.aload_n 0, 1) := by decide +kernel
theorem dX3_length_1 : decode cX3_length 1 = .ok (.getfield 14, 3) := by decide +kernel
theorem dX3_length_4 : decode cX3_length 4 = .ok (.invokevirtual 23, 3) := by decide +kernel
theorem dX3_length_7 : decode cX3_length 7 = .ok (.ireturn, 1) := by decide +kernel
theorem dX3_commandCount_0 : decode cX3_commandCount 0 = .ok (.aload_n 0, 1) := by decide +kernel
theorem dX3_commandCount_1 : decode cX3_commandCount 1 = .ok (.getfield 20, 3) := by decide +kernel
theorem dX3_commandCount_4 : decode cX3_commandCount 4 = .ok (.invokevirtual 23, 3) := by decide +kernel
theorem dX3_commandCount_7 : decode cX3_commandCount 7 = .ok (.ireturn, 1) := by decide +kernel
theorem dX3_wantBehindLetter_0 : decode cX3_wantBehindLetter 0 = .ok (.iload_n 0, 1) := by decide +kernel
theorem dX3_wantBehindLetter_1 : decode cX3_wantBehindLetter 1 = .ok (.tableswitch 90 99 115 #[86, 83, 83, 90, 90, 88, 90, 90, 90, 90, 90, 83, 90, 90, 90, 83, 88], 83) := by decide +kernel
theorem dX3_wantBehindLetter_84 : decode cX3_wantBehindLetter 84 = .ok (.bipush 6, 2) := by decide +kernel
theorem dX3_wantBehindLetter_86 : decode cX3_wantBehindLetter 86 = .ok (.ireturn, 1) := by decide +kernel
theorem dX3_wantBehindLetter_87 : decode cX3_wantBehindLetter 87 = .ok (.iconst 1, 1) := by decide +kernel
theorem dX3_wantBehindLetter_88 : decode cX3_wantBehindLetter 88 = .ok (.ireturn, 1) := by decide +kernel
theorem dX3_wantBehindLetter_89 : decode cX3_wantBehindLetter 89 = .ok (.iconst 2, 1) := by decide +kernel
theorem dX3_wantBehindLetter_90 : decode cX3_wantBehindLetter 90 = .ok (.ireturn, 1) := by decide +kernel
theorem dX3_wantBehindLetter_91 : decode cX3_wantBehindLetter 91 = .ok (.iconst (-1), 1) := by decide +kernel
theorem dX3_wantBehindLetter_92 : decode cX3_wantBehindLetter 92 = .ok (.ireturn, 1) := by decide +kernel
theorem dX3_isDigit_0 : decode cX3_isDigit 0 = .ok (.iload_n 0, 1) := by decide +kernel
theorem dX3_isDigit_1 : decode cX3_isDigit 1 = .ok (.bipush 48, 2) := by decide +kernel
theorem dX3_isDigit_3 : decode cX3_isDigit 3 = .ok (.if_icmp .lt 13, 3) := by decide +kernel
theorem dX3_isDigit_6 : decode cX3_isDigit 6 = .ok (.iload_n 0, 1) := by decide +kernel
theorem dX3_isDigit_7 : decode cX3_isDigit 7 = .ok (.bipush 57, 2) := by decide +kernel
theorem dX3_isDigit_9 : decode cX3_isDigit 9 = .ok (.if_icmp .gt 7, 3) := by decide +kernel
theorem dX3_isDigit_12 : decode cX3_isDigit 12 = .ok (.iconst 1, 1) := by decide +kernel
theorem dX3_isDigit_13 : decode cX3_isDigit 13 = .ok (.goto 4, 3) := by decide +kernel
theorem dX3_isDigit_16 : decode cX3_isDigit 16 = .ok (.iconst 0, 1) := by decide +kernel
theorem dX3_isDigit_17 : decode cX3_isDigit 17 = .ok (.ireturn, 1) := by decide +kernel
theorem dX3_wantBehindEnd_0 : decode cX3_wantBehindEnd 0 = .ok (.iload_n 0, 1) := by decide +kernel
theorem dX3_wantBehindEnd_1 : decode cX3_wantBehindEnd 1 = .ok (.bipush 59, 2) := by decide +kernel
theorem dX3_wantBehindEnd_3 : decode cX3_wantBehindEnd 3 = .ok (.if_icmp .ne 7, 3) := by decide +kernel
theorem dX3_wantBehindEnd_6 : decode cX3_wantBehindEnd 6 = .ok (.iconst 0, 1) := by decide +kernel
theorem dX3_wantBehindEnd_7 : decode cX3_wantBehindEnd 7 = .ok (.goto 4, 3) := by decide +kernel
theorem dX3_wantBehindEnd_10 : decode cX3_wantBehindEnd 10 = .ok (.iconst (-1), 1) := by decide +kernel
theorem dX3_wantBehindEnd_11 : decode cX3_wantBehindEnd 11 = .ok (.ireturn, 1) := by decide +kernel
theorem dX3_wantBehind_0 : decode cX3_wantBehind 0 = .ok (.iload_n 0, 1) := by decide +kernel
theorem dX3_wantBehind_1 : decode cX3_wantBehind 1 = .ok (.tableswitch 113 0 5 #[39, 44, 58, 71, 83, 96], 39) := by decide +kernel
theorem dX3_wantBehind_40 : decode cX3_wantBehind 40 = .ok (.iload_n 1, 1) := by decide +kernel
theorem dX3_wantBehind_41 : decode cX3_wantBehind 41 = .ok (.invokestatic 48, 3) := by decide +kernel
theorem dX3_wantBehind_44 : decode cX3_wantBehind 44 = .ok (.ireturn, 1) := by decide +kernel
theorem dX3_wantBehind_45 : decode cX3_wantBehind 45 = .ok (.iload_n 1, 1) := by decide +kernel
theorem dX3_wantBehind_46 : decode cX3_wantBehind 46 = .ok (.invokestatic 52, 3) := by decide +kernel
theorem dX3_wantBehind_49 : decode cX3_wantBehind 49 = .ok (.ifCond .eq 8, 3) := by decide +kernel
theorem dX3_wantBehind_52 : decode cX3_wantBehind 52 = .ok (.bipush 6, 2) := by decide +kernel
theorem dX3_wantBehind_54 : decode cX3_wantBehind 54 = .ok (.goto 4, 3) := by decide +kernel
theorem dX3_wantBehind_57 : decode cX3_wantBehind 57 = .ok (.iconst (-1), 1) := by decide +kernel
theorem dX3_wantBehind_58 : decode cX3_wantBehind 58 = .ok (.ireturn, 1) := by decide +kernel
theorem dX3_wantBehind_59 : decode cX3_wantBehind 59 = .ok (.iload_n 1, 1) := by decide +kernel
theorem dX3_wantBehind_60 : decode cX3_wantBehind 60 = .ok (.invokestatic 52, 3) := by decide +kernel
theorem dX3_wantBehind_63 : decode cX3_wantBehind 63 = .ok (.ifCond .eq 7, 3) := by decide +kernel
theorem dX3_wantBehind_66 : decode cX3_wantBehind 66 = .ok (.iconst 3, 1) := by decide +kernel
theorem dX3_wantBehind_67 : decode cX3_wantBehind 67 = .ok (.goto 4, 3) := by decide +kernel
theorem dX3_wantBehind_70 : decode cX3_wantBehind 70 = .ok (.iconst (-1), 1) := by decide +kernel
theorem dX3_wantBehind_71 : decode cX3_wantBehind 71 = .ok (.ireturn, 1) := by decide +kernel
theorem dX3_wantBehind_72 : decode cX3_wantBehind 72 = .ok (.iload_n 1, 1) := by decide +kernel
theorem dX3_wantBehind_73 : decode cX3_wantBehind 73 = .ok (.bipush 44, 2) := by decide +kernel
theorem dX3_wantBehind_75 : decode cX3_wantBehind 75 = .ok (.if_icmp .ne 7, 3) := by decide +kernel
theorem dX3_wantBehind_78 : decode cX3_wantBehind 78 = .ok (.iconst 4, 1) := by decide +kernel
theorem dX3_wantBehind_79 : decode cX3_wantBehind 79 = .ok (.goto 4, 3) := by decide +kernel
theorem dX3_wantBehind_82 : decode cX3_wantBehind 82 = .ok (.iconst (-1), 1) := by decide +kernel
theorem dX3_wantBehind_83 : decode cX3_wantBehind 83 = .ok (.ireturn, 1) := by decide +kernel
theorem dX3_wantBehind_84 : decode cX3_wantBehind 84 = .ok (.iload_n 1, 1) := by decide +kernel
theorem dX3_wantBehind_85 : decode cX3_wantBehind 85 = .ok (.invokestatic 52, 3) := by decide +kernel
theorem dX3_wantBehind_88 : decode cX3_wantBehind 88 = .ok (.ifCond .eq 7, 3) := by decide +kernel
theorem dX3_wantBehind_91 : decode cX3_wantBehind 91 = .ok (.iconst 5, 1) := by decide +kernel
theorem dX3_wantBehind_92 : decode cX3_wantBehind 92 = .ok (.goto 4, 3) := by decide +kernel
theorem dX3_wantBehind_95 : decode cX3_wantBehind 95 = .ok (.iconst (-1), 1) := by decide +kernel
theorem dX3_wantBehind_96 : decode cX3_wantBehind 96 = .ok (.ireturn, 1) := by decide +kernel
theorem dX3_wantBehind_97 : decode cX3_wantBehind 97 = .ok (.iload_n 1, 1) := by decide +kernel
theorem dX3_wantBehind_98 : decode cX3_wantBehind 98 = .ok (.invokestatic 52, 3) := by decide +kernel
theorem dX3_wantBehind_101 : decode cX3_wantBehind 101 = .ok (.ifCond .eq 8, 3) := by decide +kernel
theorem dX3_wantBehind_104 : decode cX3_wantBehind 104 = .ok (.bipush 6, 2) := by decide +kernel
theorem dX3_wantBehind_106 : decode cX3_wantBehind 106 = .ok (.goto 7, 3) := by decide +kernel
theorem dX3_wantBehind_109 : decode cX3_wantBehind 109 = .ok (.iload_n 1, 1) := by decide +kernel
theorem dX3_wantBehind_110 : decode cX3_wantBehind 110 = .ok (.invokestatic 56, 3) := by decide +kernel
theorem dX3_wantBehind_113 : decode cX3_wantBehind 113 = .ok (.ireturn, 1) := by decide +kernel
theorem dX3_wantBehind_114 : decode cX3_wantBehind 114 = .ok (.iload_n 1, 1) := by decide +kernel
theorem dX3_wantBehind_115 : decode cX3_wantBehind 115 = .ok (.invokestatic 56, 3) := by decide +kernel
theorem dX3_wantBehind_118 : decode cX3_wantBehind 118 = .ok (.ireturn, 1) := by decide +kernel
theorem dX3_note_0 : decode cX3_note 0 = .ok (.iload_n 1, 1) := by decide +kernel
theorem dX3_note_1 : decode cX3_note 1 = .ok (.ifCond .ne 17, 3) := by decide +kernel
theorem dX3_note_4 : decode cX3_note 4 = .ok (.aload_n 0, 1) := by decide +kernel
theorem dX3_note_5 : decode cX3_note 5 = .ok (.getfield 20, 3) := by decide +kernel
theorem dX3_note_8 : decode cX3_note 8 = .ok (.aload_n 0, 1) := by decide +kernel
theorem dX3_note_9 : decode cX3_note 9 = .ok (.getfield 20, 3) := by decide +kernel
theorem dX3_note_12 : decode cX3_note 12 = .ok (.invokevirtual 23, 3) := by decide +kernel
theorem dX3_note_15 : decode cX3_note 15 = .ok (.invokevirtual 27, 3) := by decide +kernel
theorem dX3_note_18 : decode cX3_note 18 = .ok (.aload_n 0, 1) := by decide +kernel
theorem dX3_note_19 : decode cX3_note 19 = .ok (.getfield 20, 3) := by decide +kernel
theorem dX3_note_22 : decode cX3_note 22 = .ok (.invokevirtual 23, 3) := by decide +kernel
theorem dX3_note_25 : decode cX3_note 25 = .ok (.iconst 1, 1) := by decide +kernel
theorem dX3_note_26 : decode cX3_note 26 = .ok (.isub, 1) := by decide +kernel
theorem dX3_note_27 : decode cX3_note 27 = .ok (.istore_n 3, 1) := by decide +kernel
theorem dX3_note_28 : decode cX3_note 28 = .ok (.iload_n 1, 1) := by decide +kernel
theorem dX3_note_29 : decode cX3_note 29 = .ok (.ifCond .ne 16, 3) := by decide +kernel
theorem dX3_note_32 : decode cX3_note 32 = .ok (.aload_n 0, 1) := by decide +kernel
theorem dX3_note_33 : decode cX3_note 33 = .ok (.getfield 20, 3) := by decide +kernel
theorem dX3_note_36 : decode cX3_note 36 = .ok (.iload_n 3, 1) := by decide +kernel
theorem dX3_note_37 : decode cX3_note 37 = .ok (.iconst 0, 1) := by decide +kernel
theorem dX3_note_38 : decode cX3_note 38 = .ok (.iload_n 2, 1) := by decide +kernel
theorem dX3_note_39 : decode cX3_note 39 = .ok (.invokevirtual 31, 3) := by decide +kernel
theorem dX3_note_42 : decode cX3_note 42 = .ok (.goto 62, 3) := by decide +kernel
theorem dX3_note_45 : decode cX3_note 45 = .ok (.iload_n 1, 1) := by decide +kernel
theorem dX3_note_46 : decode cX3_note 46 = .ok (.iconst 1, 1) := by decide +kernel
theorem dX3_note_47 : decode cX3_note 47 = .ok (.if_icmp .eq 8, 3) := by decide +kernel
theorem dX3_note_50 : decode cX3_note 50 = .ok (.iload_n 1, 1) := by decide +kernel
theorem dX3_note_51 : decode cX3_note 51 = .ok (.iconst 2, 1) := by decide +kernel
theorem dX3_note_52 : decode cX3_note 52 = .ok (.if_icmp .ne 19, 3) := by decide +kernel
theorem dX3_note_55 : decode cX3_note 55 = .ok (.aload_n 0, 1) := by decide +kernel
theorem dX3_note_56 : decode cX3_note 56 = .ok (.getfield 20, 3) := by decide +kernel
theorem dX3_note_59 : decode cX3_note 59 = .ok (.iload_n 3, 1) := by decide +kernel
theorem dX3_note_60 : decode cX3_note 60 = .ok (.iconst 1, 1) := by decide +kernel
theorem dX3_note_61 : decode cX3_note 61 = .ok (.iload_n 2, 1) := by decide +kernel
theorem dX3_note_62 : decode cX3_note 62 = .ok (.bipush 48, 2) := by decide +kernel
theorem dX3_note_64 : decode cX3_note 64 = .ok (.isub, 1) := by decide +kernel
theorem dX3_note_65 : decode cX3_note 65 = .ok (.invokevirtual 31, 3) := by decide +kernel
theorem dX3_note_68 : decode cX3_note 68 = .ok (.goto 36, 3) := by decide +kernel
theorem dX3_note_71 : decode cX3_note 71 = .ok (.iload_n 2, 1) := by decide +kernel
theorem dX3_note_72 : decode cX3_note 72 = .ok (.invokestatic 52, 3) := by decide +kernel
theorem dX3_note_75 : decode cX3_note 75 = .ok (.ifCond .eq 29, 3) := by decide +kernel
theorem dX3_note_78 : decode cX3_note 78 = .ok (.aload_n 0, 1) := by decide +kernel
theorem dX3_note_79 : decode cX3_note 79 = .ok (.getfield 20, 3) := by decide +kernel
theorem dX3_note_82 : decode cX3_note 82 = .ok (.iload_n 3, 1) := by decide +kernel
theorem dX3_note_83 : decode cX3_note 83 = .ok (.iconst 2, 1) := by decide +kernel
theorem dX3_note_84 : decode cX3_note 84 = .ok (.bipush 10, 2) := by decide +kernel
theorem dX3_note_86 : decode cX3_note 86 = .ok (.aload_n 0, 1) := by decide +kernel
theorem dX3_note_87 : decode cX3_note 87 = .ok (.getfield 20, 3) := by decide +kernel
theorem dX3_note_90 : decode cX3_note 90 = .ok (.iload_n 3, 1) := by decide +kernel
theorem dX3_note_91 : decode cX3_note 91 = .ok (.iconst 2, 1) := by decide +kernel
theorem dX3_note_92 : decode cX3_note 92 = .ok (.invokevirtual 38, 3) := by decide +kernel
theorem dX3_note_95 : decode cX3_note 95 = .ok (.imul, 1) := by decide +kernel
theorem dX3_note_96 : decode cX3_note 96 = .ok (.iload_n 2, 1) := by decide +kernel
theorem dX3_note_97 : decode cX3_note 97 = .ok (.iadd, 1) := by decide +kernel
theorem dX3_note_98 : decode cX3_note 98 = .ok (.bipush 48, 2) := by decide +kernel
theorem dX3_note_100 : decode cX3_note 100 = .ok (.isub, 1) := by decide +kernel
theorem dX3_note_101 : decode cX3_note 101 = .ok (.invokevirtual 31, 3) := by decide +kernel
theorem dX3_note_104 : decode cX3_note 104 = .ok (.return_, 1) := by decide +kernel
theorem dX3_read_0 : decode cX3_read 0 = .ok (.aload_n 0, 1) := by decide +kernel
theorem dX3_read_1 : decode cX3_read 1 = .ok (.getfield 20, 3) := by decide +kernel
theorem dX3_read_4 : decode cX3_read 4 = .ok (.invokevirtual 35, 3) := by decide +kernel
theorem dX3_read_7 : decode cX3_read 7 = .ok (.iconst 0, 1) := by decide +kernel
theorem dX3_read_8 : decode cX3_read 8 = .ok (.istore_n 1, 1) := by decide +kernel
theorem dX3_read_9 : decode cX3_read 9 = .ok (.iconst 0, 1) := by decide +kernel
theorem dX3_read_10 : decode cX3_read 10 = .ok (.istore_n 2, 1) := by decide +kernel
theorem dX3_read_11 : decode cX3_read 11 = .ok (.iload_n 2, 1) := by decide +kernel
theorem dX3_read_12 : decode cX3_read 12 = .ok (.aload_n 0, 1) := by decide +kernel
theorem dX3_read_13 : decode cX3_read 13 = .ok (.getfield 14, 3) := by decide +kernel
theorem dX3_read_16 : decode cX3_read 16 = .ok (.invokevirtual 23, 3) := by decide +kernel
theorem dX3_read_19 : decode cX3_read 19 = .ok (.if_icmp .ge 43, 3) := by decide +kernel
theorem dX3_read_22 : decode cX3_read 22 = .ok (.aload_n 0, 1) := by decide +kernel
theorem dX3_read_23 : decode cX3_read 23 = .ok (.getfield 14, 3) := by decide +kernel
theorem dX3_read_26 : decode cX3_read 26 = .ok (.iload_n 2, 1) := by decide +kernel
theorem dX3_read_27 : decode cX3_read 27 = .ok (.iconst 0, 1) := by decide +kernel
theorem dX3_read_28 : decode cX3_read 28 = .ok (.invokevirtual 38, 3) := by decide +kernel
theorem dX3_read_31 : decode cX3_read 31 = .ok (.istore_n 3, 1) := by decide +kernel
theorem dX3_read_32 : decode cX3_read 32 = .ok (.iload_n 1, 1) := by decide +kernel
theorem dX3_read_33 : decode cX3_read 33 = .ok (.iload_n 3, 1) := by decide +kernel
theorem dX3_read_34 : decode cX3_read 34 = .ok (.invokestatic 42, 3) := by decide +kernel
theorem dX3_read_37 : decode cX3_read 37 = .ok (.istore 4, 2) := by decide +kernel
theorem dX3_read_39 : decode cX3_read 39 = .ok (.iload 4, 2) := by decide +kernel
theorem dX3_read_41 : decode cX3_read 41 = .ok (.iconst (-1), 1) := by decide +kernel
theorem dX3_read_42 : decode cX3_read 42 = .ok (.if_icmp .ne 5, 3) := by decide +kernel
theorem dX3_read_45 : decode cX3_read 45 = .ok (.iload_n 2, 1) := by decide +kernel
theorem dX3_read_46 : decode cX3_read 46 = .ok (.ireturn, 1) := by decide +kernel
theorem dX3_read_47 : decode cX3_read 47 = .ok (.aload_n 0, 1) := by decide +kernel
theorem dX3_read_48 : decode cX3_read 48 = .ok (.iload_n 1, 1) := by decide +kernel
theorem dX3_read_49 : decode cX3_read 49 = .ok (.iload_n 3, 1) := by decide +kernel
theorem dX3_read_50 : decode cX3_read 50 = .ok (.invokevirtual 45, 3) := by decide +kernel
theorem dX3_read_53 : decode cX3_read 53 = .ok (.iload 4, 2) := by decide +kernel
theorem dX3_read_55 : decode cX3_read 55 = .ok (.istore_n 1, 1) := by decide +kernel
theorem dX3_read_56 : decode cX3_read 56 = .ok (.iinc 2 1, 3) := by decide +kernel
theorem dX3_read_59 : decode cX3_read 59 = .ok (.goto (-48), 3) := by decide +kernel
theorem dX3_read_62 : decode cX3_read 62 = .ok (.iload_n 1, 1) := by decide +kernel
theorem dX3_read_63 : decode cX3_read 63 = .ok (.ifCond .ne 7, 3) := by decide +kernel
theorem dX3_read_66 : decode cX3_read 66 = .ok (.iconst (-1), 1) := by decide +kernel
theorem dX3_read_67 : decode cX3_read 67 = .ok (.goto 10, 3) := by decide +kernel
theorem dX3_read_70 : decode cX3_read 70 = .ok (.aload_n 0, 1) := by decide +kernel
theorem dX3_read_71 : decode cX3_read 71 = .ok (.getfield 14, 3) := by decide +kernel
theorem dX3_read_74 : decode cX3_read 74 = .ok (.invokevirtual 23, 3) := by decide +kernel
theorem dX3_read_77 : decode cX3_read 77 = .ok (.ireturn, 1) := by decide +kernel
theorem dX3_kindOf_0 : decode cX3_kindOf 0 = .ok (.iload_n 0, 1) := by decide +kernel
theorem dX3_kindOf_1 : decode cX3_kindOf 1 = .ok (.bipush 104, 2) := by decide +kernel
theorem dX3_kindOf_3 : decode cX3_kindOf 3 = .ok (.if_icmp .ne 7, 3) := by decide +kernel
theorem dX3_kindOf_6 : decode cX3_kindOf 6 = .ok (.iconst 1, 1) := by decide +kernel
theorem dX3_kindOf_7 : decode cX3_kindOf 7 = .ok (.goto 4, 3) := by decide +kernel
theorem dX3_kindOf_10 : decode cX3_kindOf 10 = .ok (.iconst 0, 1) := by decide +kernel
theorem dX3_kindOf_11 : decode cX3_kindOf 11 = .ok (.ireturn, 1) := by decide +kernel
theorem dX3_isPossible_0 : decode cX3_isPossible 0 = .ok (.iload_n 0, 1) := by decide +kernel
theorem dX3_isPossible_1 : decode cX3_isPossible 1 = .ok (.lookupswitch 93 #[(99, 66), (100, 61), (101, 56), (110, 51), (114, 88)], 51) := by decide +kernel
theorem dX3_isPossible_52 : decode cX3_isPossible 52 = .ok (.aload_n 3, 1) := by decide +kernel
theorem dX3_isPossible_53 : decode cX3_isPossible 53 = .ok (.invokevirtual 90, 3) := by decide +kernel
theorem dX3_isPossible_56 : decode cX3_isPossible 56 = .ok (.ireturn, 1) := by decide +kernel
theorem dX3_isPossible_57 : decode cX3_isPossible 57 = .ok (.aload_n 3, 1) := by decide +kernel
theorem dX3_isPossible_58 : decode cX3_isPossible 58 = .ok (.invokevirtual 94, 3) := by decide +kernel
theorem dX3_isPossible_61 : decode cX3_isPossible 61 = .ok (.ireturn, 1) := by decide +kernel
theorem dX3_isPossible_62 : decode cX3_isPossible 62 = .ok (.aload_n 3, 1) := by decide +kernel
theorem dX3_isPossible_63 : decode cX3_isPossible 63 = .ok (.invokevirtual 97, 3) := by decide +kernel
theorem dX3_isPossible_66 : decode cX3_isPossible 66 = .ok (.ireturn, 1) := by decide +kernel
theorem dX3_isPossible_67 : decode cX3_isPossible 67 = .ok (.aload_n 3, 1) := by decide +kernel
theorem dX3_isPossible_68 : decode cX3_isPossible 68 = .ok (.iload_n 1, 1) := by decide +kernel
theorem dX3_isPossible_69 : decode cX3_isPossible 69 = .ok (.invokevirtual 100, 3) := by decide +kernel
theorem dX3_isPossible_72 : decode cX3_isPossible 72 = .ok (.ifCond .eq 15, 3) := by decide +kernel
theorem dX3_isPossible_75 : decode cX3_isPossible 75 = .ok (.aload_n 3, 1) := by decide +kernel
theorem dX3_isPossible_76 : decode cX3_isPossible 76 = .ok (.iload_n 1, 1) := by decide +kernel
theorem dX3_isPossible_77 : decode cX3_isPossible 77 = .ok (.invokevirtual 103, 3) := by decide +kernel
theorem dX3_isPossible_80 : decode cX3_isPossible 80 = .ok (.ifCond .eq 7, 3) := by decide +kernel
theorem dX3_isPossible_83 : decode cX3_isPossible 83 = .ok (.iconst 1, 1) := by decide +kernel
theorem dX3_isPossible_84 : decode cX3_isPossible 84 = .ok (.goto 4, 3) := by decide +kernel
theorem dX3_isPossible_87 : decode cX3_isPossible 87 = .ok (.iconst 0, 1) := by decide +kernel
theorem dX3_isPossible_88 : decode cX3_isPossible 88 = .ok (.ireturn, 1) := by decide +kernel
theorem dX3_isPossible_89 : decode cX3_isPossible 89 = .ok (.aload_n 3, 1) := by decide +kernel
theorem dX3_isPossible_90 : decode cX3_isPossible 90 = .ok (.invokevirtual 106, 3) := by decide +kernel
theorem dX3_isPossible_93 : decode cX3_isPossible 93 = .ok (.ireturn, 1) := by decide +kernel
theorem dX3_isPossible_94 : decode cX3_isPossible 94 = .ok (.aload_n 3, 1) := by decide +kernel
theorem dX3_isPossible_95 : decode cX3_isPossible 95 = .ok (.iload_n 1, 1) := by decide +kernel
theorem dX3_isPossible_96 : decode cX3_isPossible 96 = .ok (.invokevirtual 100, 3) := by decide +kernel
theorem dX3_isPossible_99 : decode cX3_isPossible 99 = .ok (.ifCond .eq 32, 3) := by decide +kernel
theorem dX3_isPossible_102 : decode cX3_isPossible 102 = .ok (.iload_n 2, 1) := by decide +kernel
theorem dX3_isPossible_103 : decode cX3_isPossible 103 = .ok (.iconst 1, 1) := by decide +kernel
theorem dX3_isPossible_104 : decode cX3_isPossible 104 = .ok (.bipush 60, 2) := by decide +kernel
theorem dX3_isPossible_106 : decode cX3_isPossible 106 = .ok (.invokestatic 109, 3) := by decide +kernel
theorem dX3_isPossible_109 : decode cX3_isPossible 109 = .ok (.ifCond .eq 22, 3) := by decide +kernel
theorem dX3_isPossible_112 : decode cX3_isPossible 112 = .ok (.aload_n 3, 1) := by decide +kernel
theorem dX3_isPossible_113 : decode cX3_isPossible 113 = .ok (.aload_n 3, 1) := by decide +kernel
theorem dX3_isPossible_114 : decode cX3_isPossible 114 = .ok (.invokevirtual 83, 3) := by decide +kernel
theorem dX3_isPossible_117 : decode cX3_isPossible 117 = .ok (.iload_n 0, 1) := by decide +kernel
theorem dX3_isPossible_118 : decode cX3_isPossible 118 = .ok (.invokestatic 80, 3) := by decide +kernel
theorem dX3_isPossible_121 : decode cX3_isPossible 121 = .ok (.invokevirtual 113, 3) := by decide +kernel
theorem dX3_isPossible_124 : decode cX3_isPossible 124 = .ok (.ifCond .eq 7, 3) := by decide +kernel
theorem dX3_isPossible_127 : decode cX3_isPossible 127 = .ok (.iconst 1, 1) := by decide +kernel
theorem dX3_isPossible_128 : decode cX3_isPossible 128 = .ok (.goto 4, 3) := by decide +kernel
theorem dX3_isPossible_131 : decode cX3_isPossible 131 = .ok (.iconst 0, 1) := by decide +kernel
theorem dX3_isPossible_132 : decode cX3_isPossible 132 = .ok (.ireturn, 1) := by decide +kernel
theorem dX3_perform_0 : decode cX3_perform 0 = .ok (.aload_n 0, 1) := by decide +kernel
theorem dX3_perform_1 : decode cX3_perform 1 = .ok (.getfield 20, 3) := by decide +kernel
theorem dX3_perform_4 : decode cX3_perform 4 = .ok (.iload_n 1, 1) := by decide +kernel
theorem dX3_perform_5 : decode cX3_perform 5 = .ok (.iconst 0, 1) := by decide +kernel
theorem dX3_perform_6 : decode cX3_perform 6 = .ok (.invokevirtual 38, 3) := by decide +kernel
theorem dX3_perform_9 : decode cX3_perform 9 = .ok (.istore_n 3, 1) := by decide +kernel
theorem dX3_perform_10 : decode cX3_perform 10 = .ok (.aload_n 0, 1) := by decide +kernel
theorem dX3_perform_11 : decode cX3_perform 11 = .ok (.getfield 20, 3) := by decide +kernel
theorem dX3_perform_14 : decode cX3_perform 14 = .ok (.iload_n 1, 1) := by decide +kernel
theorem dX3_perform_15 : decode cX3_perform 15 = .ok (.iconst 1, 1) := by decide +kernel
theorem dX3_perform_16 : decode cX3_perform 16 = .ok (.invokevirtual 38, 3) := by decide +kernel
theorem dX3_perform_19 : decode cX3_perform 19 = .ok (.istore 4, 2) := by decide +kernel
theorem dX3_perform_21 : decode cX3_perform 21 = .ok (.aload_n 0, 1) := by decide +kernel
theorem dX3_perform_22 : decode cX3_perform 22 = .ok (.getfield 20, 3) := by decide +kernel
theorem dX3_perform_25 : decode cX3_perform 25 = .ok (.iload_n 1, 1) := by decide +kernel
theorem dX3_perform_26 : decode cX3_perform 26 = .ok (.iconst 2, 1) := by decide +kernel
theorem dX3_perform_27 : decode cX3_perform 27 = .ok (.invokevirtual 38, 3) := by decide +kernel
theorem dX3_perform_30 : decode cX3_perform 30 = .ok (.istore 5, 2) := by decide +kernel
theorem dX3_perform_32 : decode cX3_perform 32 = .ok (.iload_n 3, 1) := by decide +kernel
theorem dX3_perform_33 : decode cX3_perform 33 = .ok (.iload 4, 2) := by decide +kernel
theorem dX3_perform_35 : decode cX3_perform 35 = .ok (.iload 5, 2) := by decide +kernel
theorem dX3_perform_37 : decode cX3_perform 37 = .ok (.aload_n 2, 1) := by decide +kernel
theorem dX3_perform_38 : decode cX3_perform 38 = .ok (.invokestatic 59, 3) := by decide +kernel
theorem dX3_perform_41 : decode cX3_perform 41 = .ok (.ifCond .ne 5, 3) := by decide +kernel
theorem dX3_perform_44 : decode cX3_perform 44 = .ok (.iconst 0, 1) := by decide +kernel
theorem dX3_perform_45 : decode cX3_perform 45 = .ok (.ireturn, 1) := by decide +kernel
theorem dX3_perform_46 : decode cX3_perform 46 = .ok (.iload_n 3, 1) := by decide +kernel
theorem dX3_perform_47 : decode cX3_perform 47 = .ok (.lookupswitch 91 #[(99, 73), (100, 65), (101, 57), (110, 49), (114, 83)], 49) := by decide +kernel
theorem dX3_perform_96 : decode cX3_perform 96 = .ok (.aload_n 2, 1) := by decide +kernel
theorem dX3_perform_97 : decode cX3_perform 97 = .ok (.invokevirtual 63, 3) := by decide +kernel
theorem dX3_perform_100 : decode cX3_perform 100 = .ok (.pop, 1) := by decide +kernel
theorem dX3_perform_101 : decode cX3_perform 101 = .ok (.goto 57, 3) := by decide +kernel
theorem dX3_perform_104 : decode cX3_perform 104 = .ok (.aload_n 2, 1) := by decide +kernel
theorem dX3_perform_105 : decode cX3_perform 105 = .ok (.invokevirtual 68, 3) := by decide +kernel
theorem dX3_perform_108 : decode cX3_perform 108 = .ok (.pop, 1) := by decide +kernel
theorem dX3_perform_109 : decode cX3_perform 109 = .ok (.goto 49, 3) := by decide +kernel
theorem dX3_perform_112 : decode cX3_perform 112 = .ok (.aload_n 2, 1) := by decide +kernel
theorem dX3_perform_113 : decode cX3_perform 113 = .ok (.invokevirtual 71, 3) := by decide +kernel
theorem dX3_perform_116 : decode cX3_perform 116 = .ok (.pop, 1) := by decide +kernel
theorem dX3_perform_117 : decode cX3_perform 117 = .ok (.goto 41, 3) := by decide +kernel
theorem dX3_perform_120 : decode cX3_perform 120 = .ok (.aload_n 2, 1) := by decide +kernel
theorem dX3_perform_121 : decode cX3_perform 121 = .ok (.iload 4, 2) := by decide +kernel
theorem dX3_perform_123 : decode cX3_perform 123 = .ok (.invokevirtual 74, 3) := by decide +kernel
theorem dX3_perform_126 : decode cX3_perform 126 = .ok (.pop, 1) := by decide +kernel
theorem dX3_perform_127 : decode cX3_perform 127 = .ok (.goto 31, 3) := by decide +kernel
theorem dX3_perform_130 : decode cX3_perform 130 = .ok (.aload_n 2, 1) := by decide +kernel
theorem dX3_perform_131 : decode cX3_perform 131 = .ok (.invokevirtual 77, 3) := by decide +kernel
theorem dX3_perform_134 : decode cX3_perform 134 = .ok (.pop, 1) := by decide +kernel
theorem dX3_perform_135 : decode cX3_perform 135 = .ok (.goto 23, 3) := by decide +kernel
theorem dX3_perform_138 : decode cX3_perform 138 = .ok (.aload_n 2, 1) := by decide +kernel
theorem dX3_perform_139 : decode cX3_perform 139 = .ok (.iload_n 3, 1) := by decide +kernel
theorem dX3_perform_140 : decode cX3_perform 140 = .ok (.invokestatic 80, 3) := by decide +kernel
theorem dX3_perform_143 : decode cX3_perform 143 = .ok (.aload_n 2, 1) := by decide +kernel
theorem dX3_perform_144 : decode cX3_perform 144 = .ok (.invokevirtual 83, 3) := by decide +kernel
theorem dX3_perform_147 : decode cX3_perform 147 = .ok (.iload 4, 2) := by decide +kernel
theorem dX3_perform_149 : decode cX3_perform 149 = .ok (.iload 5, 2) := by decide +kernel
theorem dX3_perform_151 : decode cX3_perform 151 = .ok (.iconst 0, 1) := by decide +kernel
theorem dX3_perform_152 : decode cX3_perform 152 = .ok (.iconst 0, 1) := by decide +kernel
theorem dX3_perform_153 : decode cX3_perform 153 = .ok (.iconst 0, 1) := by decide +kernel
theorem dX3_perform_154 : decode cX3_perform 154 = .ok (.invokevirtual 86, 3) := by decide +kernel
theorem dX3_perform_157 : decode cX3_perform 157 = .ok (.pop, 1) := by decide +kernel
theorem dX3_perform_158 : decode cX3_perform 158 = .ok (.iconst 1, 1) := by decide +kernel
theorem dX3_perform_159 : decode cX3_perform 159 = .ok (.ireturn, 1) := by decide +kernel
theorem dX3_init_0 : decode cX3_init 0 = .ok (.aload_n 0, 1) := by decide +kernel
theorem dX3_init_1 : decode cX3_init 1 = .ok (.invokespecial 3, 3) := by decide +kernel
theorem dX3_init_4 : decode cX3_init 4 = .ok (.aload_n 0, 1) := by decide +kernel
theorem dX3_init_5 : decode cX3_init 5 = .ok (.new 9, 3) := by decide +kernel
theorem dX3_init_8 : decode cX3_init 8 = .ok (.dup, 1) := by decide +kernel
theorem dX3_init_9 : decode cX3_init 9 = .ok (.bipush 120, 2) := by decide +kernel
theorem dX3_init_11 : decode cX3_init 11 = .ok (.iconst 1, 1) := by decide +kernel
theorem dX3_init_12 : decode cX3_init 12 = .ok (.invokespecial 11, 3) := by decide +kernel
theorem dX3_init_15 : decode cX3_init 15 = .ok (.putfield 14, 3) := by decide +kernel
theorem dX3_init_18 : decode cX3_init 18 = .ok (.aload_n 0, 1) := by decide +kernel
theorem dX3_init_19 : decode cX3_init 19 = .ok (.new 9, 3) := by decide +kernel
theorem dX3_init_22 : decode cX3_init 22 = .ok (.dup, 1) := by decide +kernel
theorem dX3_init_23 : decode cX3_init 23 = .ok (.bipush 60, 2) := by decide +kernel
theorem dX3_init_25 : decode cX3_init 25 = .ok (.iconst 3, 1) := by decide +kernel
theorem dX3_init_26 : decode cX3_init 26 = .ok (.invokespecial 11, 3) := by decide +kernel
theorem dX3_init_29 : decode cX3_init 29 = .ok (.putfield 20, 3) := by decide +kernel
theorem dX3_init_32 : decode cX3_init 32 = .ok (.return_, 1) := by decide +kernel
