theorem dX0_count_0 : decode cX0_count 0 = .ok (.aload_n 0, 1) := by decide +kernel
theorem dX0_count_1 : decode cX0_count 1 = .ok (.getfield 16, 3) := by decide +kernel
theorem dX0_count_4 : decode cX0_count 4 = .ok (.invokevirtual 24, 3) := by decide +kernel
theorem dX0_count_7 : decode cX0_count 7 = .ok (.ireturn, 1) := by decide +kernel
theorem dX0_ended_0 : decode cX0_ended 0 = .ok (.aload_n 0, 1) := by decide +kernel
theorem dX0_ended_1 : decode cX0_ended 1 = .ok (.getfield 20, 3) := by decide +kernel
theorem dX0_ended_4 : decode cX0_ended 4 = .ok (.aload_n 0, 1) := by decide +kernel
theorem dX0_ended_5 : decode cX0_ended 5 = .ok (.getfield 16, 3) := by decide +kernel
theorem dX0_ended_8 : decode cX0_ended 8 = .ok (.invokevirtual 24, 3) := by decide +kernel
theorem dX0_ended_11 : decode cX0_ended 11 = .ok (.isub, 1) := by decide +kernel
theorem dX0_ended_12 : decode cX0_ended 12 = .ok (.ireturn, 1) := by decide +kernel
theorem dX0_about_0 : decode cX0_about 0 = .ok (.aload_n 0, 1) := by decide +kernel
theorem dX0_about_1 : decode cX0_about 1 = .ok (.getfield 16, 3) := by decide +kernel
theorem dX0_about_4 : decode cX0_about 4 = .ok (.iload_n 1, 1) := by decide +kernel
theorem dX0_about_5 : decode cX0_about 5 = .ok (.iload_n 2, 1) := by decide +kernel
theorem dX0_about_6 : decode cX0_about 6 = .ok (.invokevirtual 28, 3) := by decide +kernel
theorem dX0_about_9 : decode cX0_about 9 = .ok (.ireturn, 1) := by decide +kernel
theorem dX0_birthOf_0 : decode cX0_birthOf 0 = .ok (.aload_n 0, 1) := by decide +kernel
theorem dX0_birthOf_1 : decode cX0_birthOf 1 = .ok (.getfield 16, 3) := by decide +kernel
theorem dX0_birthOf_4 : decode cX0_birthOf 4 = .ok (.iload_n 1, 1) := by decide +kernel
theorem dX0_birthOf_5 : decode cX0_birthOf 5 = .ok (.bipush 7, 2) := by decide +kernel
theorem dX0_birthOf_7 : decode cX0_birthOf 7 = .ok (.invokevirtual 28, 3) := by decide +kernel
theorem dX0_birthOf_10 : decode cX0_birthOf 10 = .ok (.ireturn, 1) := by decide +kernel
theorem dX0_isThere_0 : decode cX0_isThere 0 = .ok (.iconst 0, 1) := by decide +kernel
theorem dX0_isThere_1 : decode cX0_isThere 1 = .ok (.istore_n 2, 1) := by decide +kernel
theorem dX0_isThere_2 : decode cX0_isThere 2 = .ok (.iload_n 2, 1) := by decide +kernel
theorem dX0_isThere_3 : decode cX0_isThere 3 = .ok (.aload_n 0, 1) := by decide +kernel
theorem dX0_isThere_4 : decode cX0_isThere 4 = .ok (.getfield 16, 3) := by decide +kernel
theorem dX0_isThere_7 : decode cX0_isThere 7 = .ok (.invokevirtual 24, 3) := by decide +kernel
theorem dX0_isThere_10 : decode cX0_isThere 10 = .ok (.if_icmp .ge 25, 3) := by decide +kernel
theorem dX0_isThere_13 : decode cX0_isThere 13 = .ok (.aload_n 0, 1) := by decide +kernel
theorem dX0_isThere_14 : decode cX0_isThere 14 = .ok (.getfield 16, 3) := by decide +kernel
theorem dX0_isThere_17 : decode cX0_isThere 17 = .ok (.iload_n 2, 1) := by decide +kernel
theorem dX0_isThere_18 : decode cX0_isThere 18 = .ok (.bipush 7, 2) := by decide +kernel
theorem dX0_isThere_20 : decode cX0_isThere 20 = .ok (.invokevirtual 28, 3) := by decide +kernel
theorem dX0_isThere_23 : decode cX0_isThere 23 = .ok (.iload_n 1, 1) := by decide +kernel
theorem dX0_isThere_24 : decode cX0_isThere 24 = .ok (.if_icmp .ne 5, 3) := by decide +kernel
theorem dX0_isThere_27 : decode cX0_isThere 27 = .ok (.iconst 1, 1) := by decide +kernel
theorem dX0_isThere_28 : decode cX0_isThere 28 = .ok (.ireturn, 1) := by decide +kernel
theorem dX0_isThere_29 : decode cX0_isThere 29 = .ok (.iinc 2 1, 3) := by decide +kernel
theorem dX0_isThere_32 : decode cX0_isThere 32 = .ok (.goto (-30), 3) := by decide +kernel
theorem dX0_isThere_35 : decode cX0_isThere 35 = .ok (.iconst 0, 1) := by decide +kernel
theorem dX0_isThere_36 : decode cX0_isThere 36 = .ok (.ireturn, 1) := by decide +kernel
theorem dX0_heldBy_0 : decode cX0_heldBy 0 = .ok (.iconst 0, 1) := by decide +kernel
theorem dX0_heldBy_1 : decode cX0_heldBy 1 = .ok (.istore_n 2, 1) := by decide +kernel
theorem dX0_heldBy_2 : decode cX0_heldBy 2 = .ok (.iload_n 2, 1) := by decide +kernel
theorem dX0_heldBy_3 : decode cX0_heldBy 3 = .ok (.aload_n 0, 1) := by decide +kernel
theorem dX0_heldBy_4 : decode cX0_heldBy 4 = .ok (.getfield 16, 3) := by decide +kernel
theorem dX0_heldBy_7 : decode cX0_heldBy 7 = .ok (.invokevirtual 24, 3) := by decide +kernel
theorem dX0_heldBy_10 : decode cX0_heldBy 10 = .ok (.if_icmp .ge 38, 3) := by decide +kernel
theorem dX0_heldBy_13 : decode cX0_heldBy 13 = .ok (.aload_n 0, 1) := by decide +kernel
theorem dX0_heldBy_14 : decode cX0_heldBy 14 = .ok (.getfield 16, 3) := by decide +kernel
theorem dX0_heldBy_17 : decode cX0_heldBy 17 = .ok (.iload_n 2, 1) := by decide +kernel
theorem dX0_heldBy_18 : decode cX0_heldBy 18 = .ok (.bipush 6, 2) := by decide +kernel
theorem dX0_heldBy_20 : decode cX0_heldBy 20 = .ok (.invokevirtual 28, 3) := by decide +kernel
theorem dX0_heldBy_23 : decode cX0_heldBy 23 = .ok (.iconst 1, 1) := by decide +kernel
theorem dX0_heldBy_24 : decode cX0_heldBy 24 = .ok (.if_icmp .ne 18, 3) := by decide +kernel
theorem dX0_heldBy_27 : decode cX0_heldBy 27 = .ok (.aload_n 0, 1) := by decide +kernel
theorem dX0_heldBy_28 : decode cX0_heldBy 28 = .ok (.getfield 16, 3) := by decide +kernel
theorem dX0_heldBy_31 : decode cX0_heldBy 31 = .ok (.iload_n 2, 1) := by decide +kernel
theorem dX0_heldBy_32 : decode cX0_heldBy 32 = .ok (.iconst 2, 1) := by decide +kernel
theorem dX0_heldBy_33 : decode cX0_heldBy 33 = .ok (.invokevirtual 28, 3) := by decide +kernel
theorem dX0_heldBy_36 : decode cX0_heldBy 36 = .ok (.iload_n 1, 1) := by decide +kernel
theorem dX0_heldBy_37 : decode cX0_heldBy 37 = .ok (.if_icmp .ne 5, 3) := by decide +kernel
theorem dX0_heldBy_40 : decode cX0_heldBy 40 = .ok (.iload_n 2, 1) := by decide +kernel
theorem dX0_heldBy_41 : decode cX0_heldBy 41 = .ok (.ireturn, 1) := by decide +kernel
theorem dX0_heldBy_42 : decode cX0_heldBy 42 = .ok (.iinc 2 1, 3) := by decide +kernel
theorem dX0_heldBy_45 : decode cX0_heldBy 45 = .ok (.goto (-43), 3) := by decide +kernel
theorem dX0_heldBy_48 : decode cX0_heldBy 48 = .ok (.iconst (-1), 1) := by decide +kernel
theorem dX0_heldBy_49 : decode cX0_heldBy 49 = .ok (.ireturn, 1) := by decide +kernel
theorem dX0_countOn_0 : decode cX0_countOn 0 = .ok (.iconst 0, 1) := by decide +kernel
theorem dX0_countOn_1 : decode cX0_countOn 1 = .ok (.istore_n 2, 1) := by decide +kernel
theorem dX0_countOn_2 : decode cX0_countOn 2 = .ok (.iconst 0, 1) := by decide +kernel
theorem dX0_countOn_3 : decode cX0_countOn 3 = .ok (.istore_n 3, 1) := by decide +kernel
theorem dX0_countOn_4 : decode cX0_countOn 4 = .ok (.iload_n 3, 1) := by decide +kernel
theorem dX0_countOn_5 : decode cX0_countOn 5 = .ok (.aload_n 0, 1) := by decide +kernel
theorem dX0_countOn_6 : decode cX0_countOn 6 = .ok (.getfield 16, 3) := by decide +kernel
theorem dX0_countOn_9 : decode cX0_countOn 9 = .ok (.invokevirtual 24, 3) := by decide +kernel
theorem dX0_countOn_12 : decode cX0_countOn 12 = .ok (.if_icmp .ge 25, 3) := by decide +kernel
theorem dX0_countOn_15 : decode cX0_countOn 15 = .ok (.aload_n 0, 1) := by decide +kernel
theorem dX0_countOn_16 : decode cX0_countOn 16 = .ok (.getfield 16, 3) := by decide +kernel
theorem dX0_countOn_19 : decode cX0_countOn 19 = .ok (.iload_n 3, 1) := by decide +kernel
theorem dX0_countOn_20 : decode cX0_countOn 20 = .ok (.iconst 3, 1) := by decide +kernel
theorem dX0_countOn_21 : decode cX0_countOn 21 = .ok (.invokevirtual 28, 3) := by decide +kernel
theorem dX0_countOn_24 : decode cX0_countOn 24 = .ok (.iload_n 1, 1) := by decide +kernel
theorem dX0_countOn_25 : decode cX0_countOn 25 = .ok (.if_icmp .ne 6, 3) := by decide +kernel
theorem dX0_countOn_28 : decode cX0_countOn 28 = .ok (.iinc 2 1, 3) := by decide +kernel
theorem dX0_countOn_31 : decode cX0_countOn 31 = .ok (.iinc 3 1, 3) := by decide +kernel
theorem dX0_countOn_34 : decode cX0_countOn 34 = .ok (.goto (-30), 3) := by decide +kernel
theorem dX0_countOn_37 : decode cX0_countOn 37 = .ok (.iload_n 2, 1) := by decide +kernel
theorem dX0_countOn_38 : decode cX0_countOn 38 = .ok (.ireturn, 1) := by decide +kernel
theorem dX0_powerOn_0 : decode cX0_powerOn 0 = .ok (.iconst 0, 1) := by decide +kernel
theorem dX0_powerOn_1 : decode cX0_powerOn 1 = .ok (.istore_n 3, 1) := by decide +kernel
theorem dX0_powerOn_2 : decode cX0_powerOn 2 = .ok (.iconst 0, 1) := by decide +kernel
theorem dX0_powerOn_3 : decode cX0_powerOn 3 = .ok (.istore 4, 2) := by decide +kernel
theorem dX0_powerOn_5 : decode cX0_powerOn 5 = .ok (.iload 4, 2) := by decide +kernel
theorem dX0_powerOn_7 : decode cX0_powerOn 7 = .ok (.aload_n 0, 1) := by decide +kernel
theorem dX0_powerOn_8 : decode cX0_powerOn 8 = .ok (.getfield 16, 3) := by decide +kernel
theorem dX0_powerOn_11 : decode cX0_powerOn 11 = .ok (.invokevirtual 24, 3) := by decide +kernel
theorem dX0_powerOn_14 : decode cX0_powerOn 14 = .ok (.if_icmp .ge 50, 3) := by decide +kernel
theorem dX0_powerOn_17 : decode cX0_powerOn 17 = .ok (.aload_n 0, 1) := by decide +kernel
theorem dX0_powerOn_18 : decode cX0_powerOn 18 = .ok (.getfield 16, 3) := by decide +kernel
theorem dX0_powerOn_21 : decode cX0_powerOn 21 = .ok (.iload 4, 2) := by decide +kernel
theorem dX0_powerOn_23 : decode cX0_powerOn 23 = .ok (.iconst 3, 1) := by decide +kernel
theorem dX0_powerOn_24 : decode cX0_powerOn 24 = .ok (.invokevirtual 28, 3) := by decide +kernel
theorem dX0_powerOn_27 : decode cX0_powerOn 27 = .ok (.iload_n 1, 1) := by decide +kernel
theorem dX0_powerOn_28 : decode cX0_powerOn 28 = .ok (.if_icmp .ne 30, 3) := by decide +kernel
theorem dX0_powerOn_31 : decode cX0_powerOn 31 = .ok (.aload_n 0, 1) := by decide +kernel
theorem dX0_powerOn_32 : decode cX0_powerOn 32 = .ok (.getfield 16, 3) := by decide +kernel
theorem dX0_powerOn_35 : decode cX0_powerOn 35 = .ok (.iload 4, 2) := by decide +kernel
theorem dX0_powerOn_37 : decode cX0_powerOn 37 = .ok (.iconst 0, 1) := by decide +kernel
theorem dX0_powerOn_38 : decode cX0_powerOn 38 = .ok (.invokevirtual 28, 3) := by decide +kernel
theorem dX0_powerOn_41 : decode cX0_powerOn 41 = .ok (.iload_n 2, 1) := by decide +kernel
theorem dX0_powerOn_42 : decode cX0_powerOn 42 = .ok (.if_icmp .ne 16, 3) := by decide +kernel
theorem dX0_powerOn_45 : decode cX0_powerOn 45 = .ok (.iload_n 3, 1) := by decide +kernel
theorem dX0_powerOn_46 : decode cX0_powerOn 46 = .ok (.aload_n 0, 1) := by decide +kernel
theorem dX0_powerOn_47 : decode cX0_powerOn 47 = .ok (.getfield 16, 3) := by decide +kernel
theorem dX0_powerOn_50 : decode cX0_powerOn 50 = .ok (.iload 4, 2) := by decide +kernel
theorem dX0_powerOn_52 : decode cX0_powerOn 52 = .ok (.iconst 1, 1) := by decide +kernel
theorem dX0_powerOn_53 : decode cX0_powerOn 53 = .ok (.invokevirtual 28, 3) := by decide +kernel
theorem dX0_powerOn_56 : decode cX0_powerOn 56 = .ok (.iadd, 1) := by decide +kernel
theorem dX0_powerOn_57 : decode cX0_powerOn 57 = .ok (.istore_n 3, 1) := by decide +kernel
theorem dX0_powerOn_58 : decode cX0_powerOn 58 = .ok (.iinc 4 1, 3) := by decide +kernel
theorem dX0_powerOn_61 : decode cX0_powerOn 61 = .ok (.goto (-56), 3) := by decide +kernel
theorem dX0_powerOn_64 : decode cX0_powerOn 64 = .ok (.iload_n 3, 1) := by decide +kernel
theorem dX0_powerOn_65 : decode cX0_powerOn 65 = .ok (.ireturn, 1) := by decide +kernel
theorem dX0_poisonBornAfter_0 : decode cX0_poisonBornAfter 0 = .ok (.iconst 0, 1) := by decide +kernel
theorem dX0_poisonBornAfter_1 : decode cX0_poisonBornAfter 1 = .ok (.istore_n 3, 1) := by decide +kernel
theorem dX0_poisonBornAfter_2 : decode cX0_poisonBornAfter 2 = .ok (.iload_n 3, 1) := by decide +kernel
theorem dX0_poisonBornAfter_3 : decode cX0_poisonBornAfter 3 = .ok (.aload_n 0, 1) := by decide +kernel
theorem dX0_poisonBornAfter_4 : decode cX0_poisonBornAfter 4 = .ok (.getfield 16, 3) := by decide +kernel
theorem dX0_poisonBornAfter_7 : decode cX0_poisonBornAfter 7 = .ok (.invokevirtual 24, 3) := by decide +kernel
theorem dX0_poisonBornAfter_10 : decode cX0_poisonBornAfter 10 = .ok (.if_icmp .ge 62, 3) := by decide +kernel
theorem dX0_poisonBornAfter_13 : decode cX0_poisonBornAfter 13 = .ok (.aload_n 0, 1) := by decide +kernel
theorem dX0_poisonBornAfter_14 : decode cX0_poisonBornAfter 14 = .ok (.getfield 16, 3) := by decide +kernel
theorem dX0_poisonBornAfter_17 : decode cX0_poisonBornAfter 17 = .ok (.iload_n 3, 1) := by decide +kernel
theorem dX0_poisonBornAfter_18 : decode cX0_poisonBornAfter 18 = .ok (.bipush 7, 2) := by decide +kernel
theorem dX0_poisonBornAfter_20 : decode cX0_poisonBornAfter 20 = .ok (.invokevirtual 28, 3) := by decide +kernel
theorem dX0_poisonBornAfter_23 : decode cX0_poisonBornAfter 23 = .ok (.iload_n 2, 1) := by decide +kernel
theorem dX0_poisonBornAfter_24 : decode cX0_poisonBornAfter 24 = .ok (.if_icmp .le 7, 3) := by decide +kernel
theorem dX0_poisonBornAfter_27 : decode cX0_poisonBornAfter 27 = .ok (.iconst 1, 1) := by decide +kernel
theorem dX0_poisonBornAfter_28 : decode cX0_poisonBornAfter 28 = .ok (.goto 4, 3) := by decide +kernel
theorem dX0_poisonBornAfter_31 : decode cX0_poisonBornAfter 31 = .ok (.iconst 0, 1) := by decide +kernel
theorem dX0_poisonBornAfter_32 : decode cX0_poisonBornAfter 32 = .ok (.istore 4, 2) := by decide +kernel
theorem dX0_poisonBornAfter_34 : decode cX0_poisonBornAfter 34 = .ok (.iload 4, 2) := by decide +kernel
theorem dX0_poisonBornAfter_36 : decode cX0_poisonBornAfter 36 = .ok (.ifCond .eq 30, 3) := by decide +kernel
theorem dX0_poisonBornAfter_39 : decode cX0_poisonBornAfter 39 = .ok (.aload_n 0, 1) := by decide +kernel
theorem dX0_poisonBornAfter_40 : decode cX0_poisonBornAfter 40 = .ok (.getfield 16, 3) := by decide +kernel
theorem dX0_poisonBornAfter_43 : decode cX0_poisonBornAfter 43 = .ok (.iload_n 3, 1) := by decide +kernel
theorem dX0_poisonBornAfter_44 : decode cX0_poisonBornAfter 44 = .ok (.iconst 3, 1) := by decide +kernel
theorem dX0_poisonBornAfter_45 : decode cX0_poisonBornAfter 45 = .ok (.invokevirtual 28, 3) := by decide +kernel
theorem dX0_poisonBornAfter_48 : decode cX0_poisonBornAfter 48 = .ok (.iload_n 1, 1) := by decide +kernel
theorem dX0_poisonBornAfter_49 : decode cX0_poisonBornAfter 49 = .ok (.if_icmp .ne 17, 3) := by decide +kernel
theorem dX0_poisonBornAfter_52 : decode cX0_poisonBornAfter 52 = .ok (.aload_n 0, 1) := by decide +kernel
theorem dX0_poisonBornAfter_53 : decode cX0_poisonBornAfter 53 = .ok (.getfield 16, 3) := by decide +kernel
theorem dX0_poisonBornAfter_56 : decode cX0_poisonBornAfter 56 = .ok (.iload_n 3, 1) := by decide +kernel
theorem dX0_poisonBornAfter_57 : decode cX0_poisonBornAfter 57 = .ok (.iconst 0, 1) := by decide +kernel
theorem dX0_poisonBornAfter_58 : decode cX0_poisonBornAfter 58 = .ok (.invokevirtual 28, 3) := by decide +kernel
theorem dX0_poisonBornAfter_61 : decode cX0_poisonBornAfter 61 = .ok (.ifCond .ne 5, 3) := by decide +kernel
theorem dX0_poisonBornAfter_64 : decode cX0_poisonBornAfter 64 = .ok (.iload_n 3, 1) := by decide +kernel
theorem dX0_poisonBornAfter_65 : decode cX0_poisonBornAfter 65 = .ok (.ireturn, 1) := by decide +kernel
theorem dX0_poisonBornAfter_66 : decode cX0_poisonBornAfter 66 = .ok (.iinc 3 1, 3) := by decide +kernel
theorem dX0_poisonBornAfter_69 : decode cX0_poisonBornAfter 69 = .ok (.goto (-67), 3) := by decide +kernel
theorem dX0_poisonBornAfter_72 : decode cX0_poisonBornAfter 72 = .ok (.iconst (-1), 1) := by decide +kernel
theorem dX0_poisonBornAfter_73 : decode cX0_poisonBornAfter 73 = .ok (.ireturn, 1) := by decide +kernel
theorem dX0_endHeldBy_0 : decode cX0_endHeldBy 0 = .ok (.aload_n 0, 1) := by decide +kernel
theorem dX0_endHeldBy_1 : decode cX0_endHeldBy 1 = .ok (.getfield 16, 3) := by decide +kernel
theorem dX0_endHeldBy_4 : decode cX0_endHeldBy 4 = .ok (.aload_n 0, 1) := by decide +kernel
theorem dX0_endHeldBy_5 : decode cX0_endHeldBy 5 = .ok (.iload_n 1, 1) := by decide +kernel
theorem dX0_endHeldBy_6 : decode cX0_endHeldBy 6 = .ok (.invokevirtual 47, 3) := by decide +kernel
theorem dX0_endHeldBy_9 : decode cX0_endHeldBy 9 = .ok (.invokevirtual 51, 3) := by decide +kernel
theorem dX0_endHeldBy_12 : decode cX0_endHeldBy 12 = .ok (.return_, 1) := by decide +kernel
theorem dX0_begin_0 : decode cX0_begin 0 = .ok (.iload 6, 2) := by decide +kernel
theorem dX0_begin_2 : decode cX0_begin 2 = .ok (.iconst 2, 1) := by decide +kernel
theorem dX0_begin_3 : decode cX0_begin 3 = .ok (.irem, 1) := by decide +kernel
theorem dX0_begin_4 : decode cX0_begin 4 = .ok (.istore 7, 2) := by decide +kernel
theorem dX0_begin_6 : decode cX0_begin 6 = .ok (.iload 7, 2) := by decide +kernel
theorem dX0_begin_8 : decode cX0_begin 8 = .ok (.iconst 1, 1) := by decide +kernel
theorem dX0_begin_9 : decode cX0_begin 9 = .ok (.if_icmp .ne 8, 3) := by decide +kernel
theorem dX0_begin_12 : decode cX0_begin 12 = .ok (.aload_n 0, 1) := by decide +kernel
theorem dX0_begin_13 : decode cX0_begin 13 = .ok (.iload_n 3, 1) := by decide +kernel
theorem dX0_begin_14 : decode cX0_begin 14 = .ok (.invokevirtual 32, 3) := by decide +kernel
theorem dX0_begin_17 : decode cX0_begin 17 = .ok (.aload_n 0, 1) := by decide +kernel
theorem dX0_begin_18 : decode cX0_begin 18 = .ok (.getfield 16, 3) := by decide +kernel
theorem dX0_begin_21 : decode cX0_begin 21 = .ok (.invokevirtual 36, 3) := by decide +kernel
theorem dX0_begin_24 : decode cX0_begin 24 = .ok (.ifCond .eq 4, 3) := by decide +kernel
theorem dX0_begin_27 : decode cX0_begin 27 = .ok (.return_, 1) := by decide +kernel
theorem dX0_begin_28 : decode cX0_begin 28 = .ok (.aload_n 0, 1) := by decide +kernel
theorem dX0_begin_29 : decode cX0_begin 29 = .ok (.getfield 16, 3) := by decide +kernel
theorem dX0_begin_32 : decode cX0_begin 32 = .ok (.invokevirtual 24, 3) := by decide +kernel
theorem dX0_begin_35 : decode cX0_begin 35 = .ok (.istore 8, 2) := by decide +kernel
theorem dX0_begin_37 : decode cX0_begin 37 = .ok (.aload_n 0, 1) := by decide +kernel
theorem dX0_begin_38 : decode cX0_begin 38 = .ok (.getfield 16, 3) := by decide +kernel
theorem dX0_begin_41 : decode cX0_begin 41 = .ok (.iload 8, 2) := by decide +kernel
theorem dX0_begin_43 : decode cX0_begin 43 = .ok (.invokevirtual 40, 3) := by decide +kernel
theorem dX0_begin_46 : decode cX0_begin 46 = .ok (.aload_n 0, 1) := by decide +kernel
theorem dX0_begin_47 : decode cX0_begin 47 = .ok (.getfield 16, 3) := by decide +kernel
theorem dX0_begin_50 : decode cX0_begin 50 = .ok (.iload 8, 2) := by decide +kernel
theorem dX0_begin_52 : decode cX0_begin 52 = .ok (.iconst 0, 1) := by decide +kernel
theorem dX0_begin_53 : decode cX0_begin 53 = .ok (.iload_n 1, 1) := by decide +kernel
theorem dX0_begin_54 : decode cX0_begin 54 = .ok (.invokevirtual 43, 3) := by decide +kernel
theorem dX0_begin_57 : decode cX0_begin 57 = .ok (.aload_n 0, 1) := by decide +kernel
theorem dX0_begin_58 : decode cX0_begin 58 = .ok (.getfield 16, 3) := by decide +kernel
theorem dX0_begin_61 : decode cX0_begin 61 = .ok (.iload 8, 2) := by decide +kernel
theorem dX0_begin_63 : decode cX0_begin 63 = .ok (.iconst 1, 1) := by decide +kernel
theorem dX0_begin_64 : decode cX0_begin 64 = .ok (.iload_n 2, 1) := by decide +kernel
theorem dX0_begin_65 : decode cX0_begin 65 = .ok (.invokevirtual 43, 3) := by decide +kernel
theorem dX0_begin_68 : decode cX0_begin 68 = .ok (.aload_n 0, 1) := by decide +kernel
theorem dX0_begin_69 : decode cX0_begin 69 = .ok (.getfield 16, 3) := by decide +kernel
theorem dX0_begin_72 : decode cX0_begin 72 = .ok (.iload 8, 2) := by decide +kernel
theorem dX0_begin_74 : decode cX0_begin 74 = .ok (.iconst 2, 1) := by decide +kernel
theorem dX0_begin_75 : decode cX0_begin 75 = .ok (.iload_n 3, 1) := by decide +kernel
theorem dX0_begin_76 : decode cX0_begin 76 = .ok (.invokevirtual 43, 3) := by decide +kernel
theorem dX0_begin_79 : decode cX0_begin 79 = .ok (.aload_n 0, 1) := by decide +kernel
theorem dX0_begin_80 : decode cX0_begin 80 = .ok (.getfield 16, 3) := by decide +kernel
theorem dX0_begin_83 : decode cX0_begin 83 = .ok (.iload 8, 2) := by decide +kernel
theorem dX0_begin_85 : decode cX0_begin 85 = .ok (.iconst 3, 1) := by decide +kernel
theorem dX0_begin_86 : decode cX0_begin 86 = .ok (.iload 4, 2) := by decide +kernel
theorem dX0_begin_88 : decode cX0_begin 88 = .ok (.invokevirtual 43, 3) := by decide +kernel
theorem dX0_begin_91 : decode cX0_begin 91 = .ok (.aload_n 0, 1) := by decide +kernel
theorem dX0_begin_92 : decode cX0_begin 92 = .ok (.getfield 16, 3) := by decide +kernel
theorem dX0_begin_95 : decode cX0_begin 95 = .ok (.iload 8, 2) := by decide +kernel
theorem dX0_begin_97 : decode cX0_begin 97 = .ok (.iconst 4, 1) := by decide +kernel
theorem dX0_begin_98 : decode cX0_begin 98 = .ok (.iload 5, 2) := by decide +kernel
theorem dX0_begin_100 : decode cX0_begin 100 = .ok (.invokevirtual 43, 3) := by decide +kernel
theorem dX0_begin_103 : decode cX0_begin 103 = .ok (.aload_n 0, 1) := by decide +kernel
theorem dX0_begin_104 : decode cX0_begin 104 = .ok (.getfield 16, 3) := by decide +kernel
theorem dX0_begin_107 : decode cX0_begin 107 = .ok (.iload 8, 2) := by decide +kernel
theorem dX0_begin_109 : decode cX0_begin 109 = .ok (.iconst 5, 1) := by decide +kernel
theorem dX0_begin_110 : decode cX0_begin 110 = .ok (.iload 6, 2) := by decide +kernel
theorem dX0_begin_112 : decode cX0_begin 112 = .ok (.iconst 2, 1) := by decide +kernel
theorem dX0_begin_113 : decode cX0_begin 113 = .ok (.idiv, 1) := by decide +kernel
theorem dX0_begin_114 : decode cX0_begin 114 = .ok (.invokevirtual 43, 3) := by decide +kernel
theorem dX0_begin_117 : decode cX0_begin 117 = .ok (.aload_n 0, 1) := by decide +kernel
theorem dX0_begin_118 : decode cX0_begin 118 = .ok (.getfield 16, 3) := by decide +kernel
theorem dX0_begin_121 : decode cX0_begin 121 = .ok (.iload 8, 2) := by decide +kernel
theorem dX0_begin_123 : decode cX0_begin 123 = .ok (.bipush 6, 2) := by decide +kernel
theorem dX0_begin_125 : decode cX0_begin 125 = .ok (.iload 7, 2) := by decide +kernel
theorem dX0_begin_127 : decode cX0_begin 127 = .ok (.invokevirtual 43, 3) := by decide +kernel
theorem dX0_begin_130 : decode cX0_begin 130 = .ok (.aload_n 0, 1) := by decide +kernel
theorem dX0_begin_131 : decode cX0_begin 131 = .ok (.getfield 16, 3) := by decide +kernel
theorem dX0_begin_134 : decode cX0_begin 134 = .ok (.iload 8, 2) := by decide +kernel
theorem dX0_begin_136 : decode cX0_begin 136 = .ok (.bipush 7, 2) := by decide +kernel
theorem dX0_begin_138 : decode cX0_begin 138 = .ok (.aload_n 0, 1) := by decide +kernel
theorem dX0_begin_139 : decode cX0_begin 139 = .ok (.getfield 20, 3) := by decide +kernel
theorem dX0_begin_142 : decode cX0_begin 142 = .ok (.invokevirtual 43, 3) := by decide +kernel
theorem dX0_begin_145 : decode cX0_begin 145 = .ok (.aload_n 0, 1) := by decide +kernel
theorem dX0_begin_146 : decode cX0_begin 146 = .ok (.dup, 1) := by decide +kernel
theorem dX0_begin_147 : decode cX0_begin 147 = .ok (.getfield 20, 3) := by decide +kernel
theorem dX0_begin_150 : decode cX0_begin 150 = .ok (.iconst 1, 1) := by decide +kernel
theorem dX0_begin_151 : decode cX0_begin 151 = .ok (.iadd, 1) := by decide +kernel
theorem dX0_begin_152 : decode cX0_begin 152 = .ok (.putfield 20, 3) := by decide +kernel
theorem dX0_begin_155 : decode cX0_begin 155 = .ok (.return_, 1) := by decide +kernel
theorem dX0_endOfFallen_0 : decode cX0_endOfFallen 0 = .ok (.aload_n 0, 1) := by decide +kernel
theorem dX0_endOfFallen_1 : decode cX0_endOfFallen 1 = .ok (.getfield 16, 3) := by decide +kernel
theorem dX0_endOfFallen_4 : decode cX0_endOfFallen 4 = .ok (.invokevirtual 24, 3) := by decide +kernel
theorem dX0_endOfFallen_7 : decode cX0_endOfFallen 7 = .ok (.iconst 1, 1) := by decide +kernel
theorem dX0_endOfFallen_8 : decode cX0_endOfFallen 8 = .ok (.isub, 1) := by decide +kernel
theorem dX0_endOfFallen_9 : decode cX0_endOfFallen 9 = .ok (.istore_n 2, 1) := by decide +kernel
theorem dX0_endOfFallen_10 : decode cX0_endOfFallen 10 = .ok (.iload_n 2, 1) := by decide +kernel
theorem dX0_endOfFallen_11 : decode cX0_endOfFallen 11 = .ok (.ifCond .lt 79, 3) := by decide +kernel
theorem dX0_endOfFallen_14 : decode cX0_endOfFallen 14 = .ok (.aload_n 0, 1) := by decide +kernel
theorem dX0_endOfFallen_15 : decode cX0_endOfFallen 15 = .ok (.getfield 16, 3) := by decide +kernel
theorem dX0_endOfFallen_18 : decode cX0_endOfFallen 18 = .ok (.iload_n 2, 1) := by decide +kernel
theorem dX0_endOfFallen_19 : decode cX0_endOfFallen 19 = .ok (.bipush 6, 2) := by decide +kernel
theorem dX0_endOfFallen_21 : decode cX0_endOfFallen 21 = .ok (.invokevirtual 28, 3) := by decide +kernel
theorem dX0_endOfFallen_24 : decode cX0_endOfFallen 24 = .ok (.iconst 1, 1) := by decide +kernel
theorem dX0_endOfFallen_25 : decode cX0_endOfFallen 25 = .ok (.if_icmp .eq 15, 3) := by decide +kernel
theorem dX0_endOfFallen_28 : decode cX0_endOfFallen 28 = .ok (.aload_n 0, 1) := by decide +kernel
theorem dX0_endOfFallen_29 : decode cX0_endOfFallen 29 = .ok (.getfield 16, 3) := by decide +kernel
theorem dX0_endOfFallen_32 : decode cX0_endOfFallen 32 = .ok (.iload_n 2, 1) := by decide +kernel
theorem dX0_endOfFallen_33 : decode cX0_endOfFallen 33 = .ok (.iconst 5, 1) := by decide +kernel
theorem dX0_endOfFallen_34 : decode cX0_endOfFallen 34 = .ok (.invokevirtual 28, 3) := by decide +kernel
theorem dX0_endOfFallen_37 : decode cX0_endOfFallen 37 = .ok (.ifCond .ne 7, 3) := by decide +kernel
theorem dX0_endOfFallen_40 : decode cX0_endOfFallen 40 = .ok (.iconst 1, 1) := by decide +kernel
theorem dX0_endOfFallen_41 : decode cX0_endOfFallen 41 = .ok (.goto 4, 3) := by decide +kernel
theorem dX0_endOfFallen_44 : decode cX0_endOfFallen 44 = .ok (.iconst 0, 1) := by decide +kernel
theorem dX0_endOfFallen_45 : decode cX0_endOfFallen 45 = .ok (.istore_n 3, 1) := by decide +kernel
theorem dX0_endOfFallen_46 : decode cX0_endOfFallen 46 = .ok (.aload_n 0, 1) := by decide +kernel
theorem dX0_endOfFallen_47 : decode cX0_endOfFallen 47 = .ok (.getfield 16, 3) := by decide +kernel
theorem dX0_endOfFallen_50 : decode cX0_endOfFallen 50 = .ok (.iload_n 2, 1) := by decide +kernel
theorem dX0_endOfFallen_51 : decode cX0_endOfFallen 51 = .ok (.iconst 3, 1) := by decide +kernel
theorem dX0_endOfFallen_52 : decode cX0_endOfFallen 52 = .ok (.invokevirtual 28, 3) := by decide +kernel
theorem dX0_endOfFallen_55 : decode cX0_endOfFallen 55 = .ok (.iload_n 1, 1) := by decide +kernel
theorem dX0_endOfFallen_56 : decode cX0_endOfFallen 56 = .ok (.if_icmp .eq 20, 3) := by decide +kernel
theorem dX0_endOfFallen_59 : decode cX0_endOfFallen 59 = .ok (.iload_n 3, 1) := by decide +kernel
theorem dX0_endOfFallen_60 : decode cX0_endOfFallen 60 = .ok (.ifCond .eq 24, 3) := by decide +kernel
theorem dX0_endOfFallen_63 : decode cX0_endOfFallen 63 = .ok (.aload_n 0, 1) := by decide +kernel
theorem dX0_endOfFallen_64 : decode cX0_endOfFallen 64 = .ok (.getfield 16, 3) := by decide +kernel
theorem dX0_endOfFallen_67 : decode cX0_endOfFallen 67 = .ok (.iload_n 2, 1) := by decide +kernel
theorem dX0_endOfFallen_68 : decode cX0_endOfFallen 68 = .ok (.iconst 2, 1) := by decide +kernel
theorem dX0_endOfFallen_69 : decode cX0_endOfFallen 69 = .ok (.invokevirtual 28, 3) := by decide +kernel
theorem dX0_endOfFallen_72 : decode cX0_endOfFallen 72 = .ok (.iload_n 1, 1) := by decide +kernel
theorem dX0_endOfFallen_73 : decode cX0_endOfFallen 73 = .ok (.if_icmp .ne 11, 3) := by decide +kernel
theorem dX0_endOfFallen_76 : decode cX0_endOfFallen 76 = .ok (.aload_n 0, 1) := by decide +kernel
theorem dX0_endOfFallen_77 : decode cX0_endOfFallen 77 = .ok (.getfield 16, 3) := by decide +kernel
theorem dX0_endOfFallen_80 : decode cX0_endOfFallen 80 = .ok (.iload_n 2, 1) := by decide +kernel
theorem dX0_endOfFallen_81 : decode cX0_endOfFallen 81 = .ok (.invokevirtual 51, 3) := by decide +kernel
theorem dX0_endOfFallen_84 : decode cX0_endOfFallen 84 = .ok (.iinc 2 (-1), 3) := by decide +kernel
theorem dX0_endOfFallen_87 : decode cX0_endOfFallen 87 = .ok (.goto (-77), 3) := by decide +kernel
theorem dX0_endOfFallen_90 : decode cX0_endOfFallen 90 = .ok (.return_, 1) := by decide +kernel
theorem dX0_countDown_0 : decode cX0_countDown 0 = .ok (.aload_n 0, 1) := by decide +kernel
theorem dX0_countDown_1 : decode cX0_countDown 1 = .ok (.getfield 16, 3) := by decide +kernel
theorem dX0_countDown_4 : decode cX0_countDown 4 = .ok (.invokevirtual 24, 3) := by decide +kernel
theorem dX0_countDown_7 : decode cX0_countDown 7 = .ok (.istore_n 2, 1) := by decide +kernel
theorem dX0_countDown_8 : decode cX0_countDown 8 = .ok (.iload_n 2, 1) := by decide +kernel
theorem dX0_countDown_9 : decode cX0_countDown 9 = .ok (.iconst 1, 1) := by decide +kernel
theorem dX0_countDown_10 : decode cX0_countDown 10 = .ok (.isub, 1) := by decide +kernel
theorem dX0_countDown_11 : decode cX0_countDown 11 = .ok (.istore_n 3, 1) := by decide +kernel
theorem dX0_countDown_12 : decode cX0_countDown 12 = .ok (.iload_n 3, 1) := by decide +kernel
theorem dX0_countDown_13 : decode cX0_countDown 13 = .ok (.ifCond .lt 79, 3) := by decide +kernel
theorem dX0_countDown_16 : decode cX0_countDown 16 = .ok (.aload_n 0, 1) := by decide +kernel
theorem dX0_countDown_17 : decode cX0_countDown 17 = .ok (.getfield 16, 3) := by decide +kernel
theorem dX0_countDown_20 : decode cX0_countDown 20 = .ok (.iload_n 3, 1) := by decide +kernel
theorem dX0_countDown_21 : decode cX0_countDown 21 = .ok (.iconst 5, 1) := by decide +kernel
theorem dX0_countDown_22 : decode cX0_countDown 22 = .ok (.invokevirtual 28, 3) := by decide +kernel
theorem dX0_countDown_25 : decode cX0_countDown 25 = .ok (.ifCond .ne 7, 3) := by decide +kernel
theorem dX0_countDown_28 : decode cX0_countDown 28 = .ok (.iconst 2, 1) := by decide +kernel
theorem dX0_countDown_29 : decode cX0_countDown 29 = .ok (.goto 4, 3) := by decide +kernel
theorem dX0_countDown_32 : decode cX0_countDown 32 = .ok (.iconst 3, 1) := by decide +kernel
theorem dX0_countDown_33 : decode cX0_countDown 33 = .ok (.istore 4, 2) := by decide +kernel
theorem dX0_countDown_35 : decode cX0_countDown 35 = .ok (.aload_n 0, 1) := by decide +kernel
theorem dX0_countDown_36 : decode cX0_countDown 36 = .ok (.getfield 16, 3) := by decide +kernel
theorem dX0_countDown_39 : decode cX0_countDown 39 = .ok (.iload_n 3, 1) := by decide +kernel
theorem dX0_countDown_40 : decode cX0_countDown 40 = .ok (.iload 4, 2) := by decide +kernel
theorem dX0_countDown_42 : decode cX0_countDown 42 = .ok (.invokevirtual 28, 3) := by decide +kernel
theorem dX0_countDown_45 : decode cX0_countDown 45 = .ok (.iload_n 1, 1) := by decide +kernel
theorem dX0_countDown_46 : decode cX0_countDown 46 = .ok (.if_icmp .ne 40, 3) := by decide +kernel
theorem dX0_countDown_49 : decode cX0_countDown 49 = .ok (.aload_n 0, 1) := by decide +kernel
theorem dX0_countDown_50 : decode cX0_countDown 50 = .ok (.getfield 16, 3) := by decide +kernel
theorem dX0_countDown_53 : decode cX0_countDown 53 = .ok (.iload_n 3, 1) := by decide +kernel
theorem dX0_countDown_54 : decode cX0_countDown 54 = .ok (.iconst 4, 1) := by decide +kernel
theorem dX0_countDown_55 : decode cX0_countDown 55 = .ok (.invokevirtual 28, 3) := by decide +kernel
theorem dX0_countDown_58 : decode cX0_countDown 58 = .ok (.iconst 1, 1) := by decide +kernel
theorem dX0_countDown_59 : decode cX0_countDown 59 = .ok (.isub, 1) := by decide +kernel
theorem dX0_countDown_60 : decode cX0_countDown 60 = .ok (.istore 5, 2) := by decide +kernel
theorem dX0_countDown_62 : decode cX0_countDown 62 = .ok (.aload_n 0, 1) := by decide +kernel
theorem dX0_countDown_63 : decode cX0_countDown 63 = .ok (.getfield 16, 3) := by decide +kernel
theorem dX0_countDown_66 : decode cX0_countDown 66 = .ok (.iload_n 3, 1) := by decide +kernel
theorem dX0_countDown_67 : decode cX0_countDown 67 = .ok (.iconst 4, 1) := by decide +kernel
theorem dX0_countDown_68 : decode cX0_countDown 68 = .ok (.iload 5, 2) := by decide +kernel
theorem dX0_countDown_70 : decode cX0_countDown 70 = .ok (.invokevirtual 43, 3) := by decide +kernel
theorem dX0_countDown_73 : decode cX0_countDown 73 = .ok (.iload 5, 2) := by decide +kernel
theorem dX0_countDown_75 : decode cX0_countDown 75 = .ok (.ifCond .gt 11, 3) := by decide +kernel
theorem dX0_countDown_78 : decode cX0_countDown 78 = .ok (.aload_n 0, 1) := by decide +kernel
theorem dX0_countDown_79 : decode cX0_countDown 79 = .ok (.getfield 16, 3) := by decide +kernel
theorem dX0_countDown_82 : decode cX0_countDown 82 = .ok (.iload_n 3, 1) := by decide +kernel
theorem dX0_countDown_83 : decode cX0_countDown 83 = .ok (.invokevirtual 51, 3) := by decide +kernel
theorem dX0_countDown_86 : decode cX0_countDown 86 = .ok (.iinc 3 (-1), 3) := by decide +kernel
theorem dX0_countDown_89 : decode cX0_countDown 89 = .ok (.goto (-77), 3) := by decide +kernel
theorem dX0_countDown_92 : decode cX0_countDown 92 = .ok (.iload_n 2, 1) := by decide +kernel
theorem dX0_countDown_93 : decode cX0_countDown 93 = .ok (.aload_n 0, 1) := by decide +kernel
theorem dX0_countDown_94 : decode cX0_countDown 94 = .ok (.getfield 16, 3) := by decide +kernel
theorem dX0_countDown_97 : decode cX0_countDown 97 = .ok (.invokevirtual 24, 3) := by decide +kernel
theorem dX0_countDown_100 : decode cX0_countDown 100 = .ok (.isub, 1) := by decide +kernel
theorem dX0_countDown_101 : decode cX0_countDown 101 = .ok (.ireturn, 1) := by decide +kernel
theorem dX0_copyFrom_0 : decode cX0_copyFrom 0 = .ok (.aload_n 0, 1) := by decide +kernel
theorem dX0_copyFrom_1 : decode cX0_copyFrom 1 = .ok (.getfield 16, 3) := by decide +kernel
theorem dX0_copyFrom_4 : decode cX0_copyFrom 4 = .ok (.aload_n 1, 1) := by decide +kernel
theorem dX0_copyFrom_5 : decode cX0_copyFrom 5 = .ok (.getfield 16, 3) := by decide +kernel
theorem dX0_copyFrom_8 : decode cX0_copyFrom 8 = .ok (.invokevirtual 54, 3) := by decide +kernel
theorem dX0_copyFrom_11 : decode cX0_copyFrom 11 = .ok (.aload_n 0, 1) := by decide +kernel
theorem dX0_copyFrom_12 : decode cX0_copyFrom 12 = .ok (.aload_n 1, 1) := by decide +kernel
theorem dX0_copyFrom_13 : decode cX0_copyFrom 13 = .ok (.getfield 20, 3) := by decide +kernel
theorem dX0_copyFrom_16 : decode cX0_copyFrom 16 = .ok (.putfield 20, 3) := by decide +kernel
theorem dX0_copyFrom_19 : decode cX0_copyFrom 19 = .ok (.return_, 1) := by decide +kernel
theorem dX0_init_0 : decode cX0_init 0 = .ok (.aload_n 0, 1) := by decide +kernel
theorem dX0_init_1 : decode cX0_init 1 = .ok (.invokespecial 3, 3) := by decide +kernel
theorem dX0_init_4 : decode cX0_init 4 = .ok (.aload_n 0, 1) := by decide +kernel
theorem dX0_init_5 : decode cX0_init 5 = .ok (.new 9, 3) := by decide +kernel
theorem dX0_init_8 : decode cX0_init 8 = .ok (.dup, 1) := by decide +kernel
theorem dX0_init_9 : decode cX0_init 9 = .ok (.bipush 30, 2) := by decide +kernel
theorem dX0_init_11 : decode cX0_init 11 = .ok (.bipush 8, 2) := by decide +kernel
theorem dX0_init_13 : decode cX0_init 13 = .ok (.invokespecial 13, 3) := by decide +kernel
theorem dX0_init_16 : decode cX0_init 16 = .ok (.putfield 16, 3) := by decide +kernel
theorem dX0_init_19 : decode cX0_init 19 = .ok (.aload_n 0, 1) := by decide +kernel
theorem dX0_init_20 : decode cX0_init 20 = .ok (.iconst 0, 1) := by decide +kernel
theorem dX0_init_21 : decode cX0_init 21 = .ok (.putfield 20, 3) := by decide +kernel
theorem dX0_init_24 : decode cX0_init 24 = .ok (.return_, 1) := by decide +kernel
