theorem dX4_count_0 : decode cX4_count 0 = .ok (.aload_n 0, 1) := by decide +kernel
theorem dX4_count_1 : decode cX4_count 1 = .ok (.getfield 25, 3) := by decide +kernel
theorem dX4_count_4 : decode cX4_count 4 = .ok (.ireturn, 1) := by decide +kernel
theorem dX4_isFull_0 : decode cX4_isFull 0 = .ok (.aload_n 0, 1) := by decide +kernel
theorem dX4_isFull_1 : decode cX4_isFull 1 = .ok (.getfield 25, 3) := by decide +kernel
theorem dX4_isFull_4 : decode cX4_isFull 4 = .ok (.iconst 1, 1) := by decide +kernel
theorem dX4_isFull_5 : decode cX4_isFull 5 = .ok (.iadd, 1) := by decide +kernel
theorem dX4_isFull_6 : decode cX4_isFull 6 = .ok (.aload_n 0, 1) := by decide +kernel
theorem dX4_isFull_7 : decode cX4_isFull 7 = .ok (.getfield 9, 3) := by decide +kernel
theorem dX4_isFull_10 : decode cX4_isFull 10 = .ok (.imul, 1) := by decide +kernel
theorem dX4_isFull_11 : decode cX4_isFull 11 = .ok (.aload_n 0, 1) := by decide +kernel
theorem dX4_isFull_12 : decode cX4_isFull 12 = .ok (.getfield 21, 3) := by decide +kernel
theorem dX4_isFull_15 : decode cX4_isFull 15 = .ok (.arraylength, 1) := by decide +kernel
theorem dX4_isFull_16 : decode cX4_isFull 16 = .ok (.if_icmp .le 7, 3) := by decide +kernel
theorem dX4_isFull_19 : decode cX4_isFull 19 = .ok (.iconst 1, 1) := by decide +kernel
theorem dX4_isFull_20 : decode cX4_isFull 20 = .ok (.goto 4, 3) := by decide +kernel
theorem dX4_isFull_23 : decode cX4_isFull 23 = .ok (.iconst 0, 1) := by decide +kernel
theorem dX4_isFull_24 : decode cX4_isFull 24 = .ok (.ireturn, 1) := by decide +kernel
theorem dX4_at_0 : decode cX4_at 0 = .ok (.iload_n 1, 1) := by decide +kernel
theorem dX4_at_1 : decode cX4_at 1 = .ok (.ifCond .lt 23, 3) := by decide +kernel
theorem dX4_at_4 : decode cX4_at 4 = .ok (.iload_n 1, 1) := by decide +kernel
theorem dX4_at_5 : decode cX4_at 5 = .ok (.aload_n 0, 1) := by decide +kernel
theorem dX4_at_6 : decode cX4_at 6 = .ok (.getfield 25, 3) := by decide +kernel
theorem dX4_at_9 : decode cX4_at 9 = .ok (.if_icmp .ge 15, 3) := by decide +kernel
theorem dX4_at_12 : decode cX4_at 12 = .ok (.iload_n 2, 1) := by decide +kernel
theorem dX4_at_13 : decode cX4_at 13 = .ok (.ifCond .lt 11, 3) := by decide +kernel
theorem dX4_at_16 : decode cX4_at 16 = .ok (.iload_n 2, 1) := by decide +kernel
theorem dX4_at_17 : decode cX4_at 17 = .ok (.aload_n 0, 1) := by decide +kernel
theorem dX4_at_18 : decode cX4_at 18 = .ok (.getfield 9, 3) := by decide +kernel
theorem dX4_at_21 : decode cX4_at 21 = .ok (.if_icmp .lt 5, 3) := by decide +kernel
theorem dX4_at_24 : decode cX4_at 24 = .ok (.iconst (-1), 1) := by decide +kernel
theorem dX4_at_25 : decode cX4_at 25 = .ok (.ireturn, 1) := by decide +kernel
theorem dX4_at_26 : decode cX4_at 26 = .ok (.iload_n 1, 1) := by decide +kernel
theorem dX4_at_27 : decode cX4_at 27 = .ok (.aload_n 0, 1) := by decide +kernel
theorem dX4_at_28 : decode cX4_at 28 = .ok (.getfield 9, 3) := by decide +kernel
theorem dX4_at_31 : decode cX4_at 31 = .ok (.imul, 1) := by decide +kernel
theorem dX4_at_32 : decode cX4_at 32 = .ok (.iload_n 2, 1) := by decide +kernel
theorem dX4_at_33 : decode cX4_at 33 = .ok (.iadd, 1) := by decide +kernel
theorem dX4_at_34 : decode cX4_at 34 = .ok (.istore_n 3, 1) := by decide +kernel
theorem dX4_at_35 : decode cX4_at 35 = .ok (.iload_n 3, 1) := by decide +kernel
theorem dX4_at_36 : decode cX4_at 36 = .ok (.aload_n 0, 1) := by decide +kernel
theorem dX4_at_37 : decode cX4_at 37 = .ok (.getfield 21, 3) := by decide +kernel
theorem dX4_at_40 : decode cX4_at 40 = .ok (.arraylength, 1) := by decide +kernel
theorem dX4_at_41 : decode cX4_at 41 = .ok (.if_icmp .ge 12, 3) := by decide +kernel
theorem dX4_at_44 : decode cX4_at 44 = .ok (.aload_n 0, 1) := by decide +kernel
theorem dX4_at_45 : decode cX4_at 45 = .ok (.getfield 21, 3) := by decide +kernel
theorem dX4_at_48 : decode cX4_at 48 = .ok (.iload_n 3, 1) := by decide +kernel
theorem dX4_at_49 : decode cX4_at 49 = .ok (.iaload, 1) := by decide +kernel
theorem dX4_at_50 : decode cX4_at 50 = .ok (.goto 4, 3) := by decide +kernel
theorem dX4_at_53 : decode cX4_at 53 = .ok (.iconst (-1), 1) := by decide +kernel
theorem dX4_at_54 : decode cX4_at 54 = .ok (.ireturn, 1) := by decide +kernel
theorem dX4_put_0 : decode cX4_put 0 = .ok (.iload_n 1, 1) := by decide +kernel
theorem dX4_put_1 : decode cX4_put 1 = .ok (.ifCond .lt 23, 3) := by decide +kernel
theorem dX4_put_4 : decode cX4_put 4 = .ok (.iload_n 1, 1) := by decide +kernel
theorem dX4_put_5 : decode cX4_put 5 = .ok (.aload_n 0, 1) := by decide +kernel
theorem dX4_put_6 : decode cX4_put 6 = .ok (.getfield 25, 3) := by decide +kernel
theorem dX4_put_9 : decode cX4_put 9 = .ok (.if_icmp .ge 15, 3) := by decide +kernel
theorem dX4_put_12 : decode cX4_put 12 = .ok (.iload_n 2, 1) := by decide +kernel
theorem dX4_put_13 : decode cX4_put 13 = .ok (.ifCond .lt 11, 3) := by decide +kernel
theorem dX4_put_16 : decode cX4_put 16 = .ok (.iload_n 2, 1) := by decide +kernel
theorem dX4_put_17 : decode cX4_put 17 = .ok (.aload_n 0, 1) := by decide +kernel
theorem dX4_put_18 : decode cX4_put 18 = .ok (.getfield 9, 3) := by decide +kernel
theorem dX4_put_21 : decode cX4_put 21 = .ok (.if_icmp .lt 4, 3) := by decide +kernel
theorem dX4_put_24 : decode cX4_put 24 = .ok (.return_, 1) := by decide +kernel
theorem dX4_put_25 : decode cX4_put 25 = .ok (.iload_n 1, 1) := by decide +kernel
theorem dX4_put_26 : decode cX4_put 26 = .ok (.aload_n 0, 1) := by decide +kernel
theorem dX4_put_27 : decode cX4_put 27 = .ok (.getfield 9, 3) := by decide +kernel
theorem dX4_put_30 : decode cX4_put 30 = .ok (.imul, 1) := by decide +kernel
theorem dX4_put_31 : decode cX4_put 31 = .ok (.iload_n 2, 1) := by decide +kernel
theorem dX4_put_32 : decode cX4_put 32 = .ok (.iadd, 1) := by decide +kernel
theorem dX4_put_33 : decode cX4_put 33 = .ok (.istore 4, 2) := by decide +kernel
theorem dX4_put_35 : decode cX4_put 35 = .ok (.iload 4, 2) := by decide +kernel
theorem dX4_put_37 : decode cX4_put 37 = .ok (.aload_n 0, 1) := by decide +kernel
theorem dX4_put_38 : decode cX4_put 38 = .ok (.getfield 21, 3) := by decide +kernel
theorem dX4_put_41 : decode cX4_put 41 = .ok (.arraylength, 1) := by decide +kernel
theorem dX4_put_42 : decode cX4_put 42 = .ok (.if_icmp .ge 11, 3) := by decide +kernel
theorem dX4_put_45 : decode cX4_put 45 = .ok (.aload_n 0, 1) := by decide +kernel
theorem dX4_put_46 : decode cX4_put 46 = .ok (.getfield 21, 3) := by decide +kernel
theorem dX4_put_49 : decode cX4_put 49 = .ok (.iload 4, 2) := by decide +kernel
theorem dX4_put_51 : decode cX4_put 51 = .ok (.iload_n 3, 1) := by decide +kernel
theorem dX4_put_52 : decode cX4_put 52 = .ok (.iastore, 1) := by decide +kernel
theorem dX4_put_53 : decode cX4_put 53 = .ok (.return_, 1) := by decide +kernel
theorem dX4_insert_0 : decode cX4_insert 0 = .ok (.aload_n 0, 1) := by decide +kernel
theorem dX4_insert_1 : decode cX4_insert 1 = .ok (.getfield 25, 3) := by decide +kernel
theorem dX4_insert_4 : decode cX4_insert 4 = .ok (.aload_n 0, 1) := by decide +kernel
theorem dX4_insert_5 : decode cX4_insert 5 = .ok (.getfield 9, 3) := by decide +kernel
theorem dX4_insert_8 : decode cX4_insert 8 = .ok (.imul, 1) := by decide +kernel
theorem dX4_insert_9 : decode cX4_insert 9 = .ok (.istore_n 2, 1) := by decide +kernel
theorem dX4_insert_10 : decode cX4_insert 10 = .ok (.iload_n 1, 1) := by decide +kernel
theorem dX4_insert_11 : decode cX4_insert 11 = .ok (.ifCond .lt 25, 3) := by decide +kernel
theorem dX4_insert_14 : decode cX4_insert 14 = .ok (.iload_n 1, 1) := by decide +kernel
theorem dX4_insert_15 : decode cX4_insert 15 = .ok (.aload_n 0, 1) := by decide +kernel
theorem dX4_insert_16 : decode cX4_insert 16 = .ok (.getfield 25, 3) := by decide +kernel
theorem dX4_insert_19 : decode cX4_insert 19 = .ok (.if_icmp .gt 17, 3) := by decide +kernel
theorem dX4_insert_22 : decode cX4_insert 22 = .ok (.iload_n 2, 1) := by decide +kernel
theorem dX4_insert_23 : decode cX4_insert 23 = .ok (.aload_n 0, 1) := by decide +kernel
theorem dX4_insert_24 : decode cX4_insert 24 = .ok (.getfield 9, 3) := by decide +kernel
theorem dX4_insert_27 : decode cX4_insert 27 = .ok (.iadd, 1) := by decide +kernel
theorem dX4_insert_28 : decode cX4_insert 28 = .ok (.aload_n 0, 1) := by decide +kernel
theorem dX4_insert_29 : decode cX4_insert 29 = .ok (.getfield 21, 3) := by decide +kernel
theorem dX4_insert_32 : decode cX4_insert 32 = .ok (.arraylength, 1) := by decide +kernel
theorem dX4_insert_33 : decode cX4_insert 33 = .ok (.if_icmp .le 4, 3) := by decide +kernel
theorem dX4_insert_36 : decode cX4_insert 36 = .ok (.return_, 1) := by decide +kernel
theorem dX4_insert_37 : decode cX4_insert 37 = .ok (.iload_n 1, 1) := by decide +kernel
theorem dX4_insert_38 : decode cX4_insert 38 = .ok (.aload_n 0, 1) := by decide +kernel
theorem dX4_insert_39 : decode cX4_insert 39 = .ok (.getfield 9, 3) := by decide +kernel
theorem dX4_insert_42 : decode cX4_insert 42 = .ok (.imul, 1) := by decide +kernel
theorem dX4_insert_43 : decode cX4_insert 43 = .ok (.istore_n 3, 1) := by decide +kernel
theorem dX4_insert_44 : decode cX4_insert 44 = .ok (.aload_n 0, 1) := by decide +kernel
theorem dX4_insert_45 : decode cX4_insert 45 = .ok (.getfield 21, 3) := by decide +kernel
theorem dX4_insert_48 : decode cX4_insert 48 = .ok (.iload_n 3, 1) := by decide +kernel
theorem dX4_insert_49 : decode cX4_insert 49 = .ok (.aload_n 0, 1) := by decide +kernel
theorem dX4_insert_50 : decode cX4_insert 50 = .ok (.getfield 21, 3) := by decide +kernel
theorem dX4_insert_53 : decode cX4_insert 53 = .ok (.iload_n 3, 1) := by decide +kernel
theorem dX4_insert_54 : decode cX4_insert 54 = .ok (.aload_n 0, 1) := by decide +kernel
theorem dX4_insert_55 : decode cX4_insert 55 = .ok (.getfield 9, 3) := by decide +kernel
theorem dX4_insert_58 : decode cX4_insert 58 = .ok (.iadd, 1) := by decide +kernel
theorem dX4_insert_59 : decode cX4_insert 59 = .ok (.iload_n 2, 1) := by decide +kernel
theorem dX4_insert_60 : decode cX4_insert 60 = .ok (.iload_n 3, 1) := by decide +kernel
theorem dX4_insert_61 : decode cX4_insert 61 = .ok (.isub, 1) := by decide +kernel
theorem dX4_insert_62 : decode cX4_insert 62 = .ok (.invokestatic 28, 3) := by decide +kernel
theorem dX4_insert_65 : decode cX4_insert 65 = .ok (.aload_n 0, 1) := by decide +kernel
theorem dX4_insert_66 : decode cX4_insert 66 = .ok (.getfield 21, 3) := by decide +kernel
theorem dX4_insert_69 : decode cX4_insert 69 = .ok (.iload_n 3, 1) := by decide +kernel
theorem dX4_insert_70 : decode cX4_insert 70 = .ok (.iload_n 3, 1) := by decide +kernel
theorem dX4_insert_71 : decode cX4_insert 71 = .ok (.aload_n 0, 1) := by decide +kernel
theorem dX4_insert_72 : decode cX4_insert 72 = .ok (.getfield 9, 3) := by decide +kernel
theorem dX4_insert_75 : decode cX4_insert 75 = .ok (.iadd, 1) := by decide +kernel
theorem dX4_insert_76 : decode cX4_insert 76 = .ok (.iconst 0, 1) := by decide +kernel
theorem dX4_insert_77 : decode cX4_insert 77 = .ok (.invokestatic 34, 3) := by decide +kernel
theorem dX4_insert_80 : decode cX4_insert 80 = .ok (.aload_n 0, 1) := by decide +kernel
theorem dX4_insert_81 : decode cX4_insert 81 = .ok (.dup, 1) := by decide +kernel
theorem dX4_insert_82 : decode cX4_insert 82 = .ok (.getfield 25, 3) := by decide +kernel
theorem dX4_insert_85 : decode cX4_insert 85 = .ok (.iconst 1, 1) := by decide +kernel
theorem dX4_insert_86 : decode cX4_insert 86 = .ok (.iadd, 1) := by decide +kernel
theorem dX4_insert_87 : decode cX4_insert 87 = .ok (.putfield 25, 3) := by decide +kernel
theorem dX4_insert_90 : decode cX4_insert 90 = .ok (.return_, 1) := by decide +kernel
theorem dX4_remove_0 : decode cX4_remove 0 = .ok (.aload_n 0, 1) := by decide +kernel
theorem dX4_remove_1 : decode cX4_remove 1 = .ok (.getfield 25, 3) := by decide +kernel
theorem dX4_remove_4 : decode cX4_remove 4 = .ok (.aload_n 0, 1) := by decide +kernel
theorem dX4_remove_5 : decode cX4_remove 5 = .ok (.getfield 9, 3) := by decide +kernel
theorem dX4_remove_8 : decode cX4_remove 8 = .ok (.imul, 1) := by decide +kernel
theorem dX4_remove_9 : decode cX4_remove 9 = .ok (.istore_n 2, 1) := by decide +kernel
theorem dX4_remove_10 : decode cX4_remove 10 = .ok (.iload_n 1, 1) := by decide +kernel
theorem dX4_remove_11 : decode cX4_remove 11 = .ok (.ifCond .lt 20, 3) := by decide +kernel
theorem dX4_remove_14 : decode cX4_remove 14 = .ok (.iload_n 1, 1) := by decide +kernel
theorem dX4_remove_15 : decode cX4_remove 15 = .ok (.aload_n 0, 1) := by decide +kernel
theorem dX4_remove_16 : decode cX4_remove 16 = .ok (.getfield 25, 3) := by decide +kernel
theorem dX4_remove_19 : decode cX4_remove 19 = .ok (.if_icmp .ge 12, 3) := by decide +kernel
theorem dX4_remove_22 : decode cX4_remove 22 = .ok (.iload_n 2, 1) := by decide +kernel
theorem dX4_remove_23 : decode cX4_remove 23 = .ok (.aload_n 0, 1) := by decide +kernel
theorem dX4_remove_24 : decode cX4_remove 24 = .ok (.getfield 21, 3) := by decide +kernel
theorem dX4_remove_27 : decode cX4_remove 27 = .ok (.arraylength, 1) := by decide +kernel
theorem dX4_remove_28 : decode cX4_remove 28 = .ok (.if_icmp .le 4, 3) := by decide +kernel
theorem dX4_remove_31 : decode cX4_remove 31 = .ok (.return_, 1) := by decide +kernel
theorem dX4_remove_32 : decode cX4_remove 32 = .ok (.iload_n 1, 1) := by decide +kernel
theorem dX4_remove_33 : decode cX4_remove 33 = .ok (.iconst 1, 1) := by decide +kernel
theorem dX4_remove_34 : decode cX4_remove 34 = .ok (.iadd, 1) := by decide +kernel
theorem dX4_remove_35 : decode cX4_remove 35 = .ok (.aload_n 0, 1) := by decide +kernel
theorem dX4_remove_36 : decode cX4_remove 36 = .ok (.getfield 9, 3) := by decide +kernel
theorem dX4_remove_39 : decode cX4_remove 39 = .ok (.imul, 1) := by decide +kernel
theorem dX4_remove_40 : decode cX4_remove 40 = .ok (.istore_n 3, 1) := by decide +kernel
theorem dX4_remove_41 : decode cX4_remove 41 = .ok (.aload_n 0, 1) := by decide +kernel
theorem dX4_remove_42 : decode cX4_remove 42 = .ok (.getfield 21, 3) := by decide +kernel
theorem dX4_remove_45 : decode cX4_remove 45 = .ok (.iload_n 3, 1) := by decide +kernel
theorem dX4_remove_46 : decode cX4_remove 46 = .ok (.aload_n 0, 1) := by decide +kernel
theorem dX4_remove_47 : decode cX4_remove 47 = .ok (.getfield 21, 3) := by decide +kernel
theorem dX4_remove_50 : decode cX4_remove 50 = .ok (.iload_n 3, 1) := by decide +kernel
theorem dX4_remove_51 : decode cX4_remove 51 = .ok (.aload_n 0, 1) := by decide +kernel
theorem dX4_remove_52 : decode cX4_remove 52 = .ok (.getfield 9, 3) := by decide +kernel
theorem dX4_remove_55 : decode cX4_remove 55 = .ok (.isub, 1) := by decide +kernel
theorem dX4_remove_56 : decode cX4_remove 56 = .ok (.iload_n 2, 1) := by decide +kernel
theorem dX4_remove_57 : decode cX4_remove 57 = .ok (.iload_n 3, 1) := by decide +kernel
theorem dX4_remove_58 : decode cX4_remove 58 = .ok (.isub, 1) := by decide +kernel
theorem dX4_remove_59 : decode cX4_remove 59 = .ok (.invokestatic 28, 3) := by decide +kernel
theorem dX4_remove_62 : decode cX4_remove 62 = .ok (.aload_n 0, 1) := by decide +kernel
theorem dX4_remove_63 : decode cX4_remove 63 = .ok (.dup, 1) := by decide +kernel
theorem dX4_remove_64 : decode cX4_remove 64 = .ok (.getfield 25, 3) := by decide +kernel
theorem dX4_remove_67 : decode cX4_remove 67 = .ok (.iconst 1, 1) := by decide +kernel
theorem dX4_remove_68 : decode cX4_remove 68 = .ok (.isub, 1) := by decide +kernel
theorem dX4_remove_69 : decode cX4_remove 69 = .ok (.putfield 25, 3) := by decide +kernel
theorem dX4_remove_72 : decode cX4_remove 72 = .ok (.return_, 1) := by decide +kernel
theorem dX4_clear_0 : decode cX4_clear 0 = .ok (.aload_n 0, 1) := by decide +kernel
theorem dX4_clear_1 : decode cX4_clear 1 = .ok (.iconst 0, 1) := by decide +kernel
theorem dX4_clear_2 : decode cX4_clear 2 = .ok (.putfield 25, 3) := by decide +kernel
theorem dX4_clear_5 : decode cX4_clear 5 = .ok (.return_, 1) := by decide +kernel
theorem dX4_copyFrom_0 : decode cX4_copyFrom 0 = .ok (.aload_n 0, 1) := by decide +kernel
theorem dX4_copyFrom_1 : decode cX4_copyFrom 1 = .ok (.aload_n 1, 1) := by decide +kernel
theorem dX4_copyFrom_2 : decode cX4_copyFrom 2 = .ok (.getfield 25, 3) := by decide +kernel
theorem dX4_copyFrom_5 : decode cX4_copyFrom 5 = .ok (.putfield 25, 3) := by decide +kernel
theorem dX4_copyFrom_8 : decode cX4_copyFrom 8 = .ok (.aload_n 1, 1) := by decide +kernel
theorem dX4_copyFrom_9 : decode cX4_copyFrom 9 = .ok (.getfield 21, 3) := by decide +kernel
theorem dX4_copyFrom_12 : decode cX4_copyFrom 12 = .ok (.iconst 0, 1) := by decide +kernel
theorem dX4_copyFrom_13 : decode cX4_copyFrom 13 = .ok (.aload_n 0, 1) := by decide +kernel
theorem dX4_copyFrom_14 : decode cX4_copyFrom 14 = .ok (.getfield 21, 3) := by decide +kernel
theorem dX4_copyFrom_17 : decode cX4_copyFrom 17 = .ok (.iconst 0, 1) := by decide +kernel
theorem dX4_copyFrom_18 : decode cX4_copyFrom 18 = .ok (.aload_n 1, 1) := by decide +kernel
theorem dX4_copyFrom_19 : decode cX4_copyFrom 19 = .ok (.getfield 21, 3) := by decide +kernel
theorem dX4_copyFrom_22 : decode cX4_copyFrom 22 = .ok (.arraylength, 1) := by decide +kernel
theorem dX4_copyFrom_23 : decode cX4_copyFrom 23 = .ok (.aload_n 0, 1) := by decide +kernel
theorem dX4_copyFrom_24 : decode cX4_copyFrom 24 = .ok (.getfield 21, 3) := by decide +kernel
theorem dX4_copyFrom_27 : decode cX4_copyFrom 27 = .ok (.arraylength, 1) := by decide +kernel
theorem dX4_copyFrom_28 : decode cX4_copyFrom 28 = .ok (.invokestatic 40, 3) := by decide +kernel
theorem dX4_copyFrom_31 : decode cX4_copyFrom 31 = .ok (.invokestatic 28, 3) := by decide +kernel
theorem dX4_copyFrom_34 : decode cX4_copyFrom 34 = .ok (.return_, 1) := by decide +kernel
theorem dX4_init_0 : decode cX4_init 0 = .ok (.aload_n 0, 1) := by decide +kernel
theorem dX4_init_1 : decode cX4_init 1 = .ok (.invokespecial 3, 3) := by decide +kernel
theorem dX4_init_4 : decode cX4_init 4 = .ok (.aload_n 0, 1) := by decide +kernel
theorem dX4_init_5 : decode cX4_init 5 = .ok (.iload_n 2, 1) := by decide +kernel
theorem dX4_init_6 : decode cX4_init 6 = .ok (.putfield 9, 3) := by decide +kernel
theorem dX4_init_9 : decode cX4_init 9 = .ok (.aload_n 0, 1) := by decide +kernel
theorem dX4_init_10 : decode cX4_init 10 = .ok (.iconst 0, 1) := by decide +kernel
theorem dX4_init_11 : decode cX4_init 11 = .ok (.iload_n 1, 1) := by decide +kernel
theorem dX4_init_12 : decode cX4_init 12 = .ok (.iload_n 2, 1) := by decide +kernel
theorem dX4_init_13 : decode cX4_init 13 = .ok (.imul, 1) := by decide +kernel
theorem dX4_init_14 : decode cX4_init 14 = .ok (.invokestatic 15, 3) := by decide +kernel
theorem dX4_init_17 : decode cX4_init 17 = .ok (.newarray .int, 2) := by decide +kernel
theorem dX4_init_19 : decode cX4_init 19 = .ok (.putfield 21, 3) := by decide +kernel
theorem dX4_init_22 : decode cX4_init 22 = .ok (.aload_n 0, 1) := by decide +kernel
theorem dX4_init_23 : decode cX4_init 23 = .ok (.iconst 0, 1) := by decide +kernel
theorem dX4_init_24 : decode cX4_init 24 = .ok (.putfield 25, 3) := by decide +kernel
theorem dX4_init_27 : decode cX4_init 27 = .ok (.return_, 1) := by decide +kernel
