theorem dX5_add_0 : decode cX5_add 0 = .ok (.iload_n 1, 1) := by decide +kernel
theorem dX5_add_1 : decode cX5_add 1 = .ok (.iconst 1, 1) := by decide +kernel
theorem dX5_add_2 : decode cX5_add 2 = .ok (.bipush 30, 2) := by decide +kernel
theorem dX5_add_4 : decode cX5_add 4 = .ok (.invokestatic 33, 3) := by decide +kernel
theorem dX5_add_7 : decode cX5_add 7 = .ok (.ifCond .eq 14, 3) := by decide +kernel
theorem dX5_add_10 : decode cX5_add 10 = .ok (.iload_n 2, 1) := by decide +kernel
theorem dX5_add_11 : decode cX5_add 11 = .ok (.iconst 1, 1) := by decide +kernel
theorem dX5_add_12 : decode cX5_add 12 = .ok (.sipush 200, 3) := by decide +kernel
theorem dX5_add_15 : decode cX5_add 15 = .ok (.invokestatic 33, 3) := by decide +kernel
theorem dX5_add_18 : decode cX5_add 18 = .ok (.ifCond .ne 13, 3) := by decide +kernel
theorem dX5_add_21 : decode cX5_add 21 = .ok (.new 37, 3) := by decide +kernel
theorem dX5_add_24 : decode cX5_add 24 = .ok (.dup, 1) := by decide +kernel
theorem dX5_add_25 : decode cX5_add 25 = .ok (.ldc 39, 2) := by decide +kernel
theorem dX5_add_27 : decode cX5_add 27 = .ok (.invokespecial 41, 3) := by decide +kernel
theorem dX5_add_30 : decode cX5_add 30 = .ok (.athrow, 1) := by decide +kernel
theorem dX5_add_31 : decode cX5_add 31 = .ok (.aload_n 0, 1) := by decide +kernel
theorem dX5_add_32 : decode cX5_add 32 = .ok (.getfield 10, 3) := by decide +kernel
theorem dX5_add_35 : decode cX5_add 35 = .ok (.invokevirtual 44, 3) := by decide +kernel
theorem dX5_add_38 : decode cX5_add 38 = .ok (.bipush 10, 2) := by decide +kernel
theorem dX5_add_40 : decode cX5_add 40 = .ok (.if_icmp .lt 13, 3) := by decide +kernel
theorem dX5_add_43 : decode cX5_add 43 = .ok (.new 48, 3) := by decide +kernel
theorem dX5_add_46 : decode cX5_add 46 = .ok (.dup, 1) := by decide +kernel
theorem dX5_add_47 : decode cX5_add 47 = .ok (.ldc 50, 2) := by decide +kernel
theorem dX5_add_49 : decode cX5_add 49 = .ok (.invokespecial 52, 3) := by decide +kernel
theorem dX5_add_52 : decode cX5_add 52 = .ok (.athrow, 1) := by decide +kernel
theorem dX5_add_53 : decode cX5_add 53 = .ok (.aload_n 0, 1) := by decide +kernel
theorem dX5_add_54 : decode cX5_add 54 = .ok (.getfield 22, 3) := by decide +kernel
theorem dX5_add_57 : decode cX5_add 57 = .ok (.aload_n 0, 1) := by decide +kernel
theorem dX5_add_58 : decode cX5_add 58 = .ok (.getfield 10, 3) := by decide +kernel
theorem dX5_add_61 : decode cX5_add 61 = .ok (.invokevirtual 53, 3) := by decide +kernel
theorem dX5_add_64 : decode cX5_add 64 = .ok (.aload_n 0, 1) := by decide +kernel
theorem dX5_add_65 : decode cX5_add 65 = .ok (.getfield 10, 3) := by decide +kernel
theorem dX5_add_68 : decode cX5_add 68 = .ok (.iload_n 1, 1) := by decide +kernel
theorem dX5_add_69 : decode cX5_add 69 = .ok (.iload_n 2, 1) := by decide +kernel
theorem dX5_add_70 : decode cX5_add 70 = .ok (.invokevirtual 57, 3) := by decide +kernel
theorem dX5_add_73 : decode cX5_add 73 = .ok (.ireturn, 1) := by decide +kernel
theorem dX5_requireFighter_0 : decode cX5_requireFighter 0 = .ok (.aload_n 0, 1) := by decide +kernel
theorem dX5_requireFighter_1 : decode cX5_requireFighter 1 = .ok (.getfield 10, 3) := by decide +kernel
theorem dX5_requireFighter_4 : decode cX5_requireFighter 4 = .ok (.iload_n 1, 1) := by decide +kernel
theorem dX5_requireFighter_5 : decode cX5_requireFighter 5 = .ok (.invokevirtual 219, 3) := by decide +kernel
theorem dX5_requireFighter_8 : decode cX5_requireFighter 8 = .ok (.ifCond .ne 13, 3) := by decide +kernel
theorem dX5_requireFighter_11 : decode cX5_requireFighter 11 = .ok (.new 91, 3) := by decide +kernel
theorem dX5_requireFighter_14 : decode cX5_requireFighter 14 = .ok (.dup, 1) := by decide +kernel
theorem dX5_requireFighter_15 : decode cX5_requireFighter 15 = .ok (.ldc 222, 2) := by decide +kernel
theorem dX5_requireFighter_17 : decode cX5_requireFighter 17 = .ok (.invokespecial 95, 3) := by decide +kernel
theorem dX5_requireFighter_20 : decode cX5_requireFighter 20 = .ok (.athrow, 1) := by decide +kernel
theorem dX5_requireFighter_21 : decode cX5_requireFighter 21 = .ok (.return_, 1) := by decide +kernel
theorem dX5_requireWithin_0 : decode cX5_requireWithin 0 = .ok (.iload_n 0, 1) := by decide +kernel
theorem dX5_requireWithin_1 : decode cX5_requireWithin 1 = .ok (.iload_n 1, 1) := by decide +kernel
theorem dX5_requireWithin_2 : decode cX5_requireWithin 2 = .ok (.iload_n 2, 1) := by decide +kernel
theorem dX5_requireWithin_3 : decode cX5_requireWithin 3 = .ok (.invokestatic 33, 3) := by decide +kernel
theorem dX5_requireWithin_6 : decode cX5_requireWithin 6 = .ok (.ifCond .ne 13, 3) := by decide +kernel
theorem dX5_requireWithin_9 : decode cX5_requireWithin 9 = .ok (.new 37, 3) := by decide +kernel
theorem dX5_requireWithin_12 : decode cX5_requireWithin 12 = .ok (.dup, 1) := by decide +kernel
theorem dX5_requireWithin_13 : decode cX5_requireWithin 13 = .ok (.ldc 226, 2) := by decide +kernel
theorem dX5_requireWithin_15 : decode cX5_requireWithin 15 = .ok (.invokespecial 41, 3) := by decide +kernel
theorem dX5_requireWithin_18 : decode cX5_requireWithin 18 = .ok (.athrow, 1) := by decide +kernel
theorem dX5_requireWithin_19 : decode cX5_requireWithin 19 = .ok (.return_, 1) := by decide +kernel
theorem dX5_setSpeed_0 : decode cX5_setSpeed 0 = .ok (.aload_n 0, 1) := by decide +kernel
theorem dX5_setSpeed_1 : decode cX5_setSpeed 1 = .ok (.iload_n 1, 1) := by decide +kernel
theorem dX5_setSpeed_2 : decode cX5_setSpeed 2 = .ok (.invokevirtual 61, 3) := by decide +kernel
theorem dX5_setSpeed_5 : decode cX5_setSpeed 5 = .ok (.iload_n 2, 1) := by decide +kernel
theorem dX5_setSpeed_6 : decode cX5_setSpeed 6 = .ok (.iconst 1, 1) := by decide +kernel
theorem dX5_setSpeed_7 : decode cX5_setSpeed 7 = .ok (.bipush 30, 2) := by decide +kernel
theorem dX5_setSpeed_9 : decode cX5_setSpeed 9 = .ok (.invokestatic 65, 3) := by decide +kernel
theorem dX5_setSpeed_12 : decode cX5_setSpeed 12 = .ok (.aload_n 0, 1) := by decide +kernel
theorem dX5_setSpeed_13 : decode cX5_setSpeed 13 = .ok (.getfield 22, 3) := by decide +kernel
theorem dX5_setSpeed_16 : decode cX5_setSpeed 16 = .ok (.aload_n 0, 1) := by decide +kernel
theorem dX5_setSpeed_17 : decode cX5_setSpeed 17 = .ok (.getfield 10, 3) := by decide +kernel
theorem dX5_setSpeed_20 : decode cX5_setSpeed 20 = .ok (.invokevirtual 53, 3) := by decide +kernel
theorem dX5_setSpeed_23 : decode cX5_setSpeed 23 = .ok (.aload_n 0, 1) := by decide +kernel
theorem dX5_setSpeed_24 : decode cX5_setSpeed 24 = .ok (.getfield 10, 3) := by decide +kernel
theorem dX5_setSpeed_27 : decode cX5_setSpeed 27 = .ok (.iload_n 1, 1) := by decide +kernel
theorem dX5_setSpeed_28 : decode cX5_setSpeed 28 = .ok (.iload_n 2, 1) := by decide +kernel
theorem dX5_setSpeed_29 : decode cX5_setSpeed 29 = .ok (.invokevirtual 69, 3) := by decide +kernel
theorem dX5_setSpeed_32 : decode cX5_setSpeed 32 = .ok (.ireturn, 1) := by decide +kernel
theorem dX5_setShock_0 : decode cX5_setShock 0 = .ok (.iload_n 1, 1) := by decide +kernel
theorem dX5_setShock_1 : decode cX5_setShock 1 = .ok (.iconst 1, 1) := by decide +kernel
theorem dX5_setShock_2 : decode cX5_setShock 2 = .ok (.sipush 200, 3) := by decide +kernel
theorem dX5_setShock_5 : decode cX5_setShock 5 = .ok (.invokestatic 65, 3) := by decide +kernel
theorem dX5_setShock_8 : decode cX5_setShock 8 = .ok (.aload_n 0, 1) := by decide +kernel
theorem dX5_setShock_9 : decode cX5_setShock 9 = .ok (.getfield 22, 3) := by decide +kernel
theorem dX5_setShock_12 : decode cX5_setShock 12 = .ok (.aload_n 0, 1) := by decide +kernel
theorem dX5_setShock_13 : decode cX5_setShock 13 = .ok (.getfield 10, 3) := by decide +kernel
theorem dX5_setShock_16 : decode cX5_setShock 16 = .ok (.invokevirtual 53, 3) := by decide +kernel
theorem dX5_setShock_19 : decode cX5_setShock 19 = .ok (.aload_n 0, 1) := by decide +kernel
theorem dX5_setShock_20 : decode cX5_setShock 20 = .ok (.getfield 10, 3) := by decide +kernel
theorem dX5_setShock_23 : decode cX5_setShock 23 = .ok (.iload_n 1, 1) := by decide +kernel
theorem dX5_setShock_24 : decode cX5_setShock 24 = .ok (.invokevirtual 72, 3) := by decide +kernel
theorem dX5_setShock_27 : decode cX5_setShock 27 = .ok (.ireturn, 1) := by decide +kernel
theorem dX5_fighter_0 : decode cX5_fighter 0 = .ok (.aload_n 0, 1) := by decide +kernel
theorem dX5_fighter_1 : decode cX5_fighter 1 = .ok (.iload_n 1, 1) := by decide +kernel
theorem dX5_fighter_2 : decode cX5_fighter 2 = .ok (.invokevirtual 61, 3) := by decide +kernel
theorem dX5_fighter_5 : decode cX5_fighter 5 = .ok (.iload_n 2, 1) := by decide +kernel
theorem dX5_fighter_6 : decode cX5_fighter 6 = .ok (.iconst 0, 1) := by decide +kernel
theorem dX5_fighter_7 : decode cX5_fighter 7 = .ok (.bipush 8, 2) := by decide +kernel
theorem dX5_fighter_9 : decode cX5_fighter 9 = .ok (.invokestatic 65, 3) := by decide +kernel
theorem dX5_fighter_12 : decode cX5_fighter 12 = .ok (.aload_n 0, 1) := by decide +kernel
theorem dX5_fighter_13 : decode cX5_fighter 13 = .ok (.getfield 10, 3) := by decide +kernel
theorem dX5_fighter_16 : decode cX5_fighter 16 = .ok (.iload_n 1, 1) := by decide +kernel
theorem dX5_fighter_17 : decode cX5_fighter 17 = .ok (.iload_n 2, 1) := by decide +kernel
theorem dX5_fighter_18 : decode cX5_fighter 18 = .ok (.invokevirtual 76, 3) := by decide +kernel
theorem dX5_fighter_21 : decode cX5_fighter 21 = .ok (.ireturn, 1) := by decide +kernel
theorem dX5_requireEffect_0 : decode cX5_requireEffect 0 = .ok (.iload_n 1, 1) := by decide +kernel
theorem dX5_requireEffect_1 : decode cX5_requireEffect 1 = .ok (.iconst 0, 1) := by decide +kernel
theorem dX5_requireEffect_2 : decode cX5_requireEffect 2 = .ok (.aload_n 0, 1) := by decide +kernel
theorem dX5_requireEffect_3 : decode cX5_requireEffect 3 = .ok (.getfield 10, 3) := by decide +kernel
theorem dX5_requireEffect_6 : decode cX5_requireEffect 6 = .ok (.invokevirtual 216, 3) := by decide +kernel
theorem dX5_requireEffect_9 : decode cX5_requireEffect 9 = .ok (.iconst 1, 1) := by decide +kernel
theorem dX5_requireEffect_10 : decode cX5_requireEffect 10 = .ok (.isub, 1) := by decide +kernel
theorem dX5_requireEffect_11 : decode cX5_requireEffect 11 = .ok (.invokestatic 33, 3) := by decide +kernel
theorem dX5_requireEffect_14 : decode cX5_requireEffect 14 = .ok (.ifCond .ne 13, 3) := by decide +kernel
theorem dX5_requireEffect_17 : decode cX5_requireEffect 17 = .ok (.new 91, 3) := by decide +kernel
theorem dX5_requireEffect_20 : decode cX5_requireEffect 20 = .ok (.dup, 1) := by decide +kernel
theorem dX5_requireEffect_21 : decode cX5_requireEffect 21 = .ok (.ldc 224, 2) := by decide +kernel
theorem dX5_requireEffect_23 : decode cX5_requireEffect 23 = .ok (.invokespecial 95, 3) := by decide +kernel
theorem dX5_requireEffect_26 : decode cX5_requireEffect 26 = .ok (.athrow, 1) := by decide +kernel
theorem dX5_requireEffect_27 : decode cX5_requireEffect 27 = .ok (.return_, 1) := by decide +kernel
theorem dX5_effect_0 : decode cX5_effect 0 = .ok (.aload_n 0, 1) := by decide +kernel
theorem dX5_effect_1 : decode cX5_effect 1 = .ok (.iload_n 1, 1) := by decide +kernel
theorem dX5_effect_2 : decode cX5_effect 2 = .ok (.invokevirtual 79, 3) := by decide +kernel
theorem dX5_effect_5 : decode cX5_effect 5 = .ok (.iload_n 2, 1) := by decide +kernel
theorem dX5_effect_6 : decode cX5_effect 6 = .ok (.iconst 0, 1) := by decide +kernel
theorem dX5_effect_7 : decode cX5_effect 7 = .ok (.bipush 6, 2) := by decide +kernel
theorem dX5_effect_9 : decode cX5_effect 9 = .ok (.invokestatic 65, 3) := by decide +kernel
theorem dX5_effect_12 : decode cX5_effect 12 = .ok (.aload_n 0, 1) := by decide +kernel
theorem dX5_effect_13 : decode cX5_effect 13 = .ok (.getfield 10, 3) := by decide +kernel
theorem dX5_effect_16 : decode cX5_effect 16 = .ok (.iload_n 1, 1) := by decide +kernel
theorem dX5_effect_17 : decode cX5_effect 17 = .ok (.iload_n 2, 1) := by decide +kernel
theorem dX5_effect_18 : decode cX5_effect 18 = .ok (.invokevirtual 82, 3) := by decide +kernel
theorem dX5_effect_21 : decode cX5_effect 21 = .ok (.ireturn, 1) := by decide +kernel
theorem dX5_value_0 : decode cX5_value 0 = .ok (.iload_n 1, 1) := by decide +kernel
theorem dX5_value_1 : decode cX5_value 1 = .ok (.iconst 0, 1) := by decide +kernel
theorem dX5_value_2 : decode cX5_value 2 = .ok (.bipush 8, 2) := by decide +kernel
theorem dX5_value_4 : decode cX5_value 4 = .ok (.invokestatic 65, 3) := by decide +kernel
theorem dX5_value_7 : decode cX5_value 7 = .ok (.aload_n 0, 1) := by decide +kernel
theorem dX5_value_8 : decode cX5_value 8 = .ok (.getfield 10, 3) := by decide +kernel
theorem dX5_value_11 : decode cX5_value 11 = .ok (.iload_n 1, 1) := by decide +kernel
theorem dX5_value_12 : decode cX5_value 12 = .ok (.invokevirtual 85, 3) := by decide +kernel
theorem dX5_value_15 : decode cX5_value 15 = .ok (.ireturn, 1) := by decide +kernel
theorem dX5_inList_0 : decode cX5_inList 0 = .ok (.iload_n 1, 1) := by decide +kernel
theorem dX5_inList_1 : decode cX5_inList 1 = .ok (.iconst 0, 1) := by decide +kernel
theorem dX5_inList_2 : decode cX5_inList 2 = .ok (.aload_n 0, 1) := by decide +kernel
theorem dX5_inList_3 : decode cX5_inList 3 = .ok (.getfield 10, 3) := by decide +kernel
theorem dX5_inList_6 : decode cX5_inList 6 = .ok (.invokevirtual 88, 3) := by decide +kernel
theorem dX5_inList_9 : decode cX5_inList 9 = .ok (.iconst 1, 1) := by decide +kernel
theorem dX5_inList_10 : decode cX5_inList 10 = .ok (.isub, 1) := by decide +kernel
theorem dX5_inList_11 : decode cX5_inList 11 = .ok (.invokestatic 33, 3) := by decide +kernel
theorem dX5_inList_14 : decode cX5_inList 14 = .ok (.ifCond .ne 13, 3) := by decide +kernel
theorem dX5_inList_17 : decode cX5_inList 17 = .ok (.new 91, 3) := by decide +kernel
theorem dX5_inList_20 : decode cX5_inList 20 = .ok (.dup, 1) := by decide +kernel
theorem dX5_inList_21 : decode cX5_inList 21 = .ok (.ldc 93, 2) := by decide +kernel
theorem dX5_inList_23 : decode cX5_inList 23 = .ok (.invokespecial 95, 3) := by decide +kernel
theorem dX5_inList_26 : decode cX5_inList 26 = .ok (.athrow, 1) := by decide +kernel
theorem dX5_inList_27 : decode cX5_inList 27 = .ok (.aload_n 0, 1) := by decide +kernel
theorem dX5_inList_28 : decode cX5_inList 28 = .ok (.getfield 10, 3) := by decide +kernel
theorem dX5_inList_31 : decode cX5_inList 31 = .ok (.iload_n 1, 1) := by decide +kernel
theorem dX5_inList_32 : decode cX5_inList 32 = .ok (.invokevirtual 96, 3) := by decide +kernel
theorem dX5_inList_35 : decode cX5_inList 35 = .ok (.ireturn, 1) := by decide +kernel
theorem dX5_requirePossible_0 : decode cX5_requirePossible 0 = .ok (.iload_n 0, 1) := by decide +kernel
theorem dX5_requirePossible_1 : decode cX5_requirePossible 1 = .ok (.ifCond .ne 13, 3) := by decide +kernel
theorem dX5_requirePossible_4 : decode cX5_requirePossible 4 = .ok (.new 48, 3) := by decide +kernel
theorem dX5_requirePossible_7 : decode cX5_requirePossible 7 = .ok (.dup, 1) := by decide +kernel
theorem dX5_requirePossible_8 : decode cX5_requirePossible 8 = .ok (.ldc 228, 2) := by decide +kernel
theorem dX5_requirePossible_10 : decode cX5_requirePossible 10 = .ok (.invokespecial 52, 3) := by decide +kernel
theorem dX5_requirePossible_13 : decode cX5_requirePossible 13 = .ok (.athrow, 1) := by decide +kernel
theorem dX5_requirePossible_14 : decode cX5_requirePossible 14 = .ok (.return_, 1) := by decide +kernel
theorem dX5_next_0 : decode cX5_next 0 = .ok (.aload_n 0, 1) := by decide +kernel
theorem dX5_next_1 : decode cX5_next 1 = .ok (.getfield 10, 3) := by decide +kernel
theorem dX5_next_4 : decode cX5_next 4 = .ok (.invokevirtual 99, 3) := by decide +kernel
theorem dX5_next_7 : decode cX5_next 7 = .ok (.invokestatic 103, 3) := by decide +kernel
theorem dX5_next_10 : decode cX5_next 10 = .ok (.aload_n 0, 1) := by decide +kernel
theorem dX5_next_11 : decode cX5_next 11 = .ok (.getfield 22, 3) := by decide +kernel
theorem dX5_next_14 : decode cX5_next 14 = .ok (.aload_n 0, 1) := by decide +kernel
theorem dX5_next_15 : decode cX5_next 15 = .ok (.getfield 10, 3) := by decide +kernel
theorem dX5_next_18 : decode cX5_next 18 = .ok (.invokevirtual 53, 3) := by decide +kernel
theorem dX5_next_21 : decode cX5_next 21 = .ok (.aload_n 0, 1) := by decide +kernel
theorem dX5_next_22 : decode cX5_next 22 = .ok (.getfield 10, 3) := by decide +kernel
theorem dX5_next_25 : decode cX5_next 25 = .ok (.invokevirtual 107, 3) := by decide +kernel
theorem dX5_next_28 : decode cX5_next 28 = .ok (.ireturn, 1) := by decide +kernel
theorem dX5_end_0 : decode cX5_end 0 = .ok (.aload_n 0, 1) := by decide +kernel
theorem dX5_end_1 : decode cX5_end 1 = .ok (.getfield 10, 3) := by decide +kernel
theorem dX5_end_4 : decode cX5_end 4 = .ok (.invokevirtual 110, 3) := by decide +kernel
theorem dX5_end_7 : decode cX5_end 7 = .ok (.invokestatic 103, 3) := by decide +kernel
theorem dX5_end_10 : decode cX5_end 10 = .ok (.aload_n 0, 1) := by decide +kernel
theorem dX5_end_11 : decode cX5_end 11 = .ok (.getfield 22, 3) := by decide +kernel
theorem dX5_end_14 : decode cX5_end 14 = .ok (.aload_n 0, 1) := by decide +kernel
theorem dX5_end_15 : decode cX5_end 15 = .ok (.getfield 10, 3) := by decide +kernel
theorem dX5_end_18 : decode cX5_end 18 = .ok (.invokevirtual 53, 3) := by decide +kernel
theorem dX5_end_21 : decode cX5_end 21 = .ok (.aload_n 0, 1) := by decide +kernel
theorem dX5_end_22 : decode cX5_end 22 = .ok (.getfield 10, 3) := by decide +kernel
theorem dX5_end_25 : decode cX5_end 25 = .ok (.invokevirtual 113, 3) := by decide +kernel
theorem dX5_end_28 : decode cX5_end 28 = .ok (.ireturn, 1) := by decide +kernel
theorem dX5_comeIn_0 : decode cX5_comeIn 0 = .ok (.aload_n 0, 1) := by decide +kernel
theorem dX5_comeIn_1 : decode cX5_comeIn 1 = .ok (.iload_n 1, 1) := by decide +kernel
theorem dX5_comeIn_2 : decode cX5_comeIn 2 = .ok (.invokevirtual 61, 3) := by decide +kernel
theorem dX5_comeIn_5 : decode cX5_comeIn 5 = .ok (.aload_n 0, 1) := by decide +kernel
theorem dX5_comeIn_6 : decode cX5_comeIn 6 = .ok (.getfield 10, 3) := by decide +kernel
theorem dX5_comeIn_9 : decode cX5_comeIn 9 = .ok (.iload_n 1, 1) := by decide +kernel
theorem dX5_comeIn_10 : decode cX5_comeIn 10 = .ok (.invokevirtual 122, 3) := by decide +kernel
theorem dX5_comeIn_13 : decode cX5_comeIn 13 = .ok (.invokestatic 103, 3) := by decide +kernel
theorem dX5_comeIn_16 : decode cX5_comeIn 16 = .ok (.aload_n 0, 1) := by decide +kernel
theorem dX5_comeIn_17 : decode cX5_comeIn 17 = .ok (.getfield 22, 3) := by decide +kernel
theorem dX5_comeIn_20 : decode cX5_comeIn 20 = .ok (.aload_n 0, 1) := by decide +kernel
theorem dX5_comeIn_21 : decode cX5_comeIn 21 = .ok (.getfield 10, 3) := by decide +kernel
theorem dX5_comeIn_24 : decode cX5_comeIn 24 = .ok (.invokevirtual 53, 3) := by decide +kernel
theorem dX5_comeIn_27 : decode cX5_comeIn 27 = .ok (.aload_n 0, 1) := by decide +kernel
theorem dX5_comeIn_28 : decode cX5_comeIn 28 = .ok (.getfield 10, 3) := by decide +kernel
theorem dX5_comeIn_31 : decode cX5_comeIn 31 = .ok (.iload_n 1, 1) := by decide +kernel
theorem dX5_comeIn_32 : decode cX5_comeIn 32 = .ok (.invokevirtual 126, 3) := by decide +kernel
theorem dX5_comeIn_35 : decode cX5_comeIn 35 = .ok (.ireturn, 1) := by decide +kernel
theorem dX5_act_0 : decode cX5_act 0 = .ok (.aload_n 0, 1) := by decide +kernel
theorem dX5_act_1 : decode cX5_act 1 = .ok (.iload_n 1, 1) := by decide +kernel
theorem dX5_act_2 : decode cX5_act 2 = .ok (.invokevirtual 61, 3) := by decide +kernel
theorem dX5_act_5 : decode cX5_act 5 = .ok (.aload_n 0, 1) := by decide +kernel
theorem dX5_act_6 : decode cX5_act 6 = .ok (.iload_n 3, 1) := by decide +kernel
theorem dX5_act_7 : decode cX5_act 7 = .ok (.invokevirtual 61, 3) := by decide +kernel
theorem dX5_act_10 : decode cX5_act 10 = .ok (.iload_n 2, 1) := by decide +kernel
theorem dX5_act_11 : decode cX5_act 11 = .ok (.ifCond .eq 23, 3) := by decide +kernel
theorem dX5_act_14 : decode cX5_act 14 = .ok (.iload_n 2, 1) := by decide +kernel
theorem dX5_act_15 : decode cX5_act 15 = .ok (.iconst 1, 1) := by decide +kernel
theorem dX5_act_16 : decode cX5_act 16 = .ok (.if_icmp .eq 18, 3) := by decide +kernel
theorem dX5_act_19 : decode cX5_act 19 = .ok (.iload_n 2, 1) := by decide +kernel
theorem dX5_act_20 : decode cX5_act 20 = .ok (.iconst 3, 1) := by decide +kernel
theorem dX5_act_21 : decode cX5_act 21 = .ok (.if_icmp .eq 13, 3) := by decide +kernel
theorem dX5_act_24 : decode cX5_act 24 = .ok (.new 37, 3) := by decide +kernel
theorem dX5_act_27 : decode cX5_act 27 = .ok (.dup, 1) := by decide +kernel
theorem dX5_act_28 : decode cX5_act 28 = .ok (.ldc 129, 2) := by decide +kernel
theorem dX5_act_30 : decode cX5_act 30 = .ok (.invokespecial 41, 3) := by decide +kernel
theorem dX5_act_33 : decode cX5_act 33 = .ok (.athrow, 1) := by decide +kernel
theorem dX5_act_34 : decode cX5_act 34 = .ok (.iload 4, 2) := by decide +kernel
theorem dX5_act_36 : decode cX5_act 36 = .ok (.iconst 1, 1) := by decide +kernel
theorem dX5_act_37 : decode cX5_act 37 = .ok (.bipush 60, 2) := by decide +kernel
theorem dX5_act_39 : decode cX5_act 39 = .ok (.invokestatic 65, 3) := by decide +kernel
theorem dX5_act_42 : decode cX5_act 42 = .ok (.aload_n 0, 1) := by decide +kernel
theorem dX5_act_43 : decode cX5_act 43 = .ok (.getfield 10, 3) := by decide +kernel
theorem dX5_act_46 : decode cX5_act 46 = .ok (.iload_n 1, 1) := by decide +kernel
theorem dX5_act_47 : decode cX5_act 47 = .ok (.iload_n 2, 1) := by decide +kernel
theorem dX5_act_48 : decode cX5_act 48 = .ok (.invokevirtual 131, 3) := by decide +kernel
theorem dX5_act_51 : decode cX5_act 51 = .ok (.invokestatic 103, 3) := by decide +kernel
theorem dX5_act_54 : decode cX5_act 54 = .ok (.aload_n 0, 1) := by decide +kernel
theorem dX5_act_55 : decode cX5_act 55 = .ok (.getfield 22, 3) := by decide +kernel
theorem dX5_act_58 : decode cX5_act 58 = .ok (.aload_n 0, 1) := by decide +kernel
theorem dX5_act_59 : decode cX5_act 59 = .ok (.getfield 10, 3) := by decide +kernel
theorem dX5_act_62 : decode cX5_act 62 = .ok (.invokevirtual 53, 3) := by decide +kernel
theorem dX5_act_65 : decode cX5_act 65 = .ok (.aload_n 0, 1) := by decide +kernel
theorem dX5_act_66 : decode cX5_act 66 = .ok (.getfield 10, 3) := by decide +kernel
theorem dX5_act_69 : decode cX5_act 69 = .ok (.iload_n 2, 1) := by decide +kernel
theorem dX5_act_70 : decode cX5_act 70 = .ok (.iload_n 1, 1) := by decide +kernel
theorem dX5_act_71 : decode cX5_act 71 = .ok (.iload_n 3, 1) := by decide +kernel
theorem dX5_act_72 : decode cX5_act 72 = .ok (.iload 4, 2) := by decide +kernel
theorem dX5_act_74 : decode cX5_act 74 = .ok (.iconst 0, 1) := by decide +kernel
theorem dX5_act_75 : decode cX5_act 75 = .ok (.iconst 0, 1) := by decide +kernel
theorem dX5_act_76 : decode cX5_act 76 = .ok (.iconst 0, 1) := by decide +kernel
theorem dX5_act_77 : decode cX5_act 77 = .ok (.invokevirtual 135, 3) := by decide +kernel
theorem dX5_act_80 : decode cX5_act 80 = .ok (.ireturn, 1) := by decide +kernel
theorem dX5_cast_0 : decode cX5_cast 0 = .ok (.aload_n 0, 1) := by decide +kernel
theorem dX5_cast_1 : decode cX5_cast 1 = .ok (.iload_n 1, 1) := by decide +kernel
theorem dX5_cast_2 : decode cX5_cast 2 = .ok (.invokevirtual 61, 3) := by decide +kernel
theorem dX5_cast_5 : decode cX5_cast 5 = .ok (.aload_n 0, 1) := by decide +kernel
theorem dX5_cast_6 : decode cX5_cast 6 = .ok (.iload_n 2, 1) := by decide +kernel
theorem dX5_cast_7 : decode cX5_cast 7 = .ok (.invokevirtual 61, 3) := by decide +kernel
theorem dX5_cast_10 : decode cX5_cast 10 = .ok (.iload_n 3, 1) := by decide +kernel
theorem dX5_cast_11 : decode cX5_cast 11 = .ok (.iconst 0, 1) := by decide +kernel
theorem dX5_cast_12 : decode cX5_cast 12 = .ok (.iconst 4, 1) := by decide +kernel
theorem dX5_cast_13 : decode cX5_cast 13 = .ok (.invokestatic 65, 3) := by decide +kernel
theorem dX5_cast_16 : decode cX5_cast 16 = .ok (.iload 4, 2) := by decide +kernel
theorem dX5_cast_18 : decode cX5_cast 18 = .ok (.iconst 1, 1) := by decide +kernel
theorem dX5_cast_19 : decode cX5_cast 19 = .ok (.bipush 20, 2) := by decide +kernel
theorem dX5_cast_21 : decode cX5_cast 21 = .ok (.invokestatic 65, 3) := by decide +kernel
theorem dX5_cast_24 : decode cX5_cast 24 = .ok (.iload 5, 2) := by decide +kernel
theorem dX5_cast_26 : decode cX5_cast 26 = .ok (.iconst 1, 1) := by decide +kernel
theorem dX5_cast_27 : decode cX5_cast 27 = .ok (.bipush 20, 2) := by decide +kernel
theorem dX5_cast_29 : decode cX5_cast 29 = .ok (.invokestatic 65, 3) := by decide +kernel
theorem dX5_cast_32 : decode cX5_cast 32 = .ok (.iload 6, 2) := by decide +kernel
theorem dX5_cast_34 : decode cX5_cast 34 = .ok (.iconst 0, 1) := by decide +kernel
theorem dX5_cast_35 : decode cX5_cast 35 = .ok (.iconst 3, 1) := by decide +kernel
theorem dX5_cast_36 : decode cX5_cast 36 = .ok (.invokestatic 65, 3) := by decide +kernel
theorem dX5_cast_39 : decode cX5_cast 39 = .ok (.aload_n 0, 1) := by decide +kernel
theorem dX5_cast_40 : decode cX5_cast 40 = .ok (.getfield 10, 3) := by decide +kernel
theorem dX5_cast_43 : decode cX5_cast 43 = .ok (.iload_n 1, 1) := by decide +kernel
theorem dX5_cast_44 : decode cX5_cast 44 = .ok (.iconst 2, 1) := by decide +kernel
theorem dX5_cast_45 : decode cX5_cast 45 = .ok (.invokevirtual 131, 3) := by decide +kernel
theorem dX5_cast_48 : decode cX5_cast 48 = .ok (.invokestatic 103, 3) := by decide +kernel
theorem dX5_cast_51 : decode cX5_cast 51 = .ok (.aload_n 0, 1) := by decide +kernel
theorem dX5_cast_52 : decode cX5_cast 52 = .ok (.getfield 22, 3) := by decide +kernel
theorem dX5_cast_55 : decode cX5_cast 55 = .ok (.aload_n 0, 1) := by decide +kernel
theorem dX5_cast_56 : decode cX5_cast 56 = .ok (.getfield 10, 3) := by decide +kernel
theorem dX5_cast_59 : decode cX5_cast 59 = .ok (.invokevirtual 53, 3) := by decide +kernel
theorem dX5_cast_62 : decode cX5_cast 62 = .ok (.aload_n 0, 1) := by decide +kernel
theorem dX5_cast_63 : decode cX5_cast 63 = .ok (.getfield 10, 3) := by decide +kernel
theorem dX5_cast_66 : decode cX5_cast 66 = .ok (.iconst 2, 1) := by decide +kernel
theorem dX5_cast_67 : decode cX5_cast 67 = .ok (.iload_n 1, 1) := by decide +kernel
theorem dX5_cast_68 : decode cX5_cast 68 = .ok (.iload_n 2, 1) := by decide +kernel
theorem dX5_cast_69 : decode cX5_cast 69 = .ok (.iload 4, 2) := by decide +kernel
theorem dX5_cast_71 : decode cX5_cast 71 = .ok (.iload_n 3, 1) := by decide +kernel
theorem dX5_cast_72 : decode cX5_cast 72 = .ok (.iload 5, 2) := by decide +kernel
theorem dX5_cast_74 : decode cX5_cast 74 = .ok (.iload 6, 2) := by decide +kernel
theorem dX5_cast_76 : decode cX5_cast 76 = .ok (.invokevirtual 135, 3) := by decide +kernel
theorem dX5_cast_79 : decode cX5_cast 79 = .ok (.ireturn, 1) := by decide +kernel
theorem dX5_settle_0 : decode cX5_settle 0 = .ok (.aload_n 0, 1) := by decide +kernel
theorem dX5_settle_1 : decode cX5_settle 1 = .ok (.getfield 10, 3) := by decide +kernel
theorem dX5_settle_4 : decode cX5_settle 4 = .ok (.invokevirtual 139, 3) := by decide +kernel
theorem dX5_settle_7 : decode cX5_settle 7 = .ok (.invokestatic 103, 3) := by decide +kernel
theorem dX5_settle_10 : decode cX5_settle 10 = .ok (.aload_n 0, 1) := by decide +kernel
theorem dX5_settle_11 : decode cX5_settle 11 = .ok (.getfield 22, 3) := by decide +kernel
theorem dX5_settle_14 : decode cX5_settle 14 = .ok (.aload_n 0, 1) := by decide +kernel
theorem dX5_settle_15 : decode cX5_settle 15 = .ok (.getfield 10, 3) := by decide +kernel
theorem dX5_settle_18 : decode cX5_settle 18 = .ok (.invokevirtual 53, 3) := by decide +kernel
theorem dX5_settle_21 : decode cX5_settle 21 = .ok (.aload_n 0, 1) := by decide +kernel
theorem dX5_settle_22 : decode cX5_settle 22 = .ok (.getfield 10, 3) := by decide +kernel
theorem dX5_settle_25 : decode cX5_settle 25 = .ok (.invokevirtual 142, 3) := by decide +kernel
theorem dX5_settle_28 : decode cX5_settle 28 = .ok (.ireturn, 1) := by decide +kernel
theorem dX5_stacked_0 : decode cX5_stacked 0 = .ok (.iload_n 1, 1) := by decide +kernel
theorem dX5_stacked_1 : decode cX5_stacked 1 = .ok (.iconst 0, 1) := by decide +kernel
theorem dX5_stacked_2 : decode cX5_stacked 2 = .ok (.aload_n 0, 1) := by decide +kernel
theorem dX5_stacked_3 : decode cX5_stacked 3 = .ok (.getfield 10, 3) := by decide +kernel
theorem dX5_stacked_6 : decode cX5_stacked 6 = .ok (.invokevirtual 145, 3) := by decide +kernel
theorem dX5_stacked_9 : decode cX5_stacked 9 = .ok (.iconst 1, 1) := by decide +kernel
theorem dX5_stacked_10 : decode cX5_stacked 10 = .ok (.isub, 1) := by decide +kernel
theorem dX5_stacked_11 : decode cX5_stacked 11 = .ok (.invokestatic 33, 3) := by decide +kernel
theorem dX5_stacked_14 : decode cX5_stacked 14 = .ok (.ifCond .ne 13, 3) := by decide +kernel
theorem dX5_stacked_17 : decode cX5_stacked 17 = .ok (.new 91, 3) := by decide +kernel
theorem dX5_stacked_20 : decode cX5_stacked 20 = .ok (.dup, 1) := by decide +kernel
theorem dX5_stacked_21 : decode cX5_stacked 21 = .ok (.ldc 148, 2) := by decide +kernel
theorem dX5_stacked_23 : decode cX5_stacked 23 = .ok (.invokespecial 95, 3) := by decide +kernel
theorem dX5_stacked_26 : decode cX5_stacked 26 = .ok (.athrow, 1) := by decide +kernel
theorem dX5_stacked_27 : decode cX5_stacked 27 = .ok (.iload_n 2, 1) := by decide +kernel
theorem dX5_stacked_28 : decode cX5_stacked 28 = .ok (.iconst 0, 1) := by decide +kernel
theorem dX5_stacked_29 : decode cX5_stacked 29 = .ok (.iconst 3, 1) := by decide +kernel
theorem dX5_stacked_30 : decode cX5_stacked 30 = .ok (.invokestatic 65, 3) := by decide +kernel
theorem dX5_stacked_33 : decode cX5_stacked 33 = .ok (.aload_n 0, 1) := by decide +kernel
theorem dX5_stacked_34 : decode cX5_stacked 34 = .ok (.getfield 10, 3) := by decide +kernel
theorem dX5_stacked_37 : decode cX5_stacked 37 = .ok (.iload_n 1, 1) := by decide +kernel
theorem dX5_stacked_38 : decode cX5_stacked 38 = .ok (.iload_n 2, 1) := by decide +kernel
theorem dX5_stacked_39 : decode cX5_stacked 39 = .ok (.invokevirtual 150, 3) := by decide +kernel
theorem dX5_stacked_42 : decode cX5_stacked 42 = .ok (.ireturn, 1) := by decide +kernel
theorem dX5_mayAnswer_0 : decode cX5_mayAnswer 0 = .ok (.aload_n 0, 1) := by decide +kernel
theorem dX5_mayAnswer_1 : decode cX5_mayAnswer 1 = .ok (.iload_n 1, 1) := by decide +kernel
theorem dX5_mayAnswer_2 : decode cX5_mayAnswer 2 = .ok (.invokevirtual 61, 3) := by decide +kernel
theorem dX5_mayAnswer_5 : decode cX5_mayAnswer 5 = .ok (.aload_n 0, 1) := by decide +kernel
theorem dX5_mayAnswer_6 : decode cX5_mayAnswer 6 = .ok (.getfield 10, 3) := by decide +kernel
theorem dX5_mayAnswer_9 : decode cX5_mayAnswer 9 = .ok (.iload_n 1, 1) := by decide +kernel
theorem dX5_mayAnswer_10 : decode cX5_mayAnswer 10 = .ok (.invokevirtual 153, 3) := by decide +kernel
theorem dX5_mayAnswer_13 : decode cX5_mayAnswer 13 = .ok (.ireturn, 1) := by decide +kernel
theorem dX5_upcoming_0 : decode cX5_upcoming 0 = .ok (.iload_n 1, 1) := by decide +kernel
theorem dX5_upcoming_1 : decode cX5_upcoming 1 = .ok (.iconst 0, 1) := by decide +kernel
theorem dX5_upcoming_2 : decode cX5_upcoming 2 = .ok (.bipush 40, 2) := by decide +kernel
theorem dX5_upcoming_4 : decode cX5_upcoming 4 = .ok (.invokestatic 65, 3) := by decide +kernel
theorem dX5_upcoming_7 : decode cX5_upcoming 7 = .ok (.aload_n 0, 1) := by decide +kernel
theorem dX5_upcoming_8 : decode cX5_upcoming 8 = .ok (.getfield 16, 3) := by decide +kernel
theorem dX5_upcoming_11 : decode cX5_upcoming 11 = .ok (.aload_n 0, 1) := by decide +kernel
theorem dX5_upcoming_12 : decode cX5_upcoming 12 = .ok (.getfield 10, 3) := by decide +kernel
theorem dX5_upcoming_15 : decode cX5_upcoming 15 = .ok (.invokevirtual 156, 3) := by decide +kernel
theorem dX5_upcoming_18 : decode cX5_upcoming 18 = .ok (.aload_n 0, 1) := by decide +kernel
theorem dX5_upcoming_19 : decode cX5_upcoming 19 = .ok (.getfield 16, 3) := by decide +kernel
theorem dX5_upcoming_22 : decode cX5_upcoming 22 = .ok (.invokevirtual 159, 3) := by decide +kernel
theorem dX5_upcoming_25 : decode cX5_upcoming 25 = .ok (.iconst (-1), 1) := by decide +kernel
theorem dX5_upcoming_26 : decode cX5_upcoming 26 = .ok (.istore_n 2, 1) := by decide +kernel
theorem dX5_upcoming_27 : decode cX5_upcoming 27 = .ok (.iconst 0, 1) := by decide +kernel
theorem dX5_upcoming_28 : decode cX5_upcoming 28 = .ok (.istore_n 3, 1) := by decide +kernel
theorem dX5_upcoming_29 : decode cX5_upcoming 29 = .ok (.iload_n 3, 1) := by decide +kernel
theorem dX5_upcoming_30 : decode cX5_upcoming 30 = .ok (.iload_n 1, 1) := by decide +kernel
theorem dX5_upcoming_31 : decode cX5_upcoming 31 = .ok (.if_icmp .gt 17, 3) := by decide +kernel
theorem dX5_upcoming_34 : decode cX5_upcoming 34 = .ok (.aload_n 0, 1) := by decide +kernel
theorem dX5_upcoming_35 : decode cX5_upcoming 35 = .ok (.getfield 16, 3) := by decide +kernel
theorem dX5_upcoming_38 : decode cX5_upcoming 38 = .ok (.invokevirtual 162, 3) := by decide +kernel
theorem dX5_upcoming_41 : decode cX5_upcoming 41 = .ok (.istore_n 2, 1) := by decide +kernel
theorem dX5_upcoming_42 : decode cX5_upcoming 42 = .ok (.iinc 3 1, 3) := by decide +kernel
theorem dX5_upcoming_45 : decode cX5_upcoming 45 = .ok (.goto (-16), 3) := by decide +kernel
theorem dX5_upcoming_48 : decode cX5_upcoming 48 = .ok (.iload_n 2, 1) := by decide +kernel
theorem dX5_upcoming_49 : decode cX5_upcoming 49 = .ok (.ireturn, 1) := by decide +kernel
theorem dX5_goneAfter_0 : decode cX5_goneAfter 0 = .ok (.aload_n 0, 1) := by decide +kernel
theorem dX5_goneAfter_1 : decode cX5_goneAfter 1 = .ok (.iload_n 1, 1) := by decide +kernel
theorem dX5_goneAfter_2 : decode cX5_goneAfter 2 = .ok (.invokevirtual 79, 3) := by decide +kernel
theorem dX5_goneAfter_5 : decode cX5_goneAfter 5 = .ok (.aload_n 0, 1) := by decide +kernel
theorem dX5_goneAfter_6 : decode cX5_goneAfter 6 = .ok (.getfield 10, 3) := by decide +kernel
theorem dX5_goneAfter_9 : decode cX5_goneAfter 9 = .ok (.iload_n 1, 1) := by decide +kernel
theorem dX5_goneAfter_10 : decode cX5_goneAfter 10 = .ok (.invokevirtual 165, 3) := by decide +kernel
theorem dX5_goneAfter_13 : decode cX5_goneAfter 13 = .ok (.istore_n 2, 1) := by decide +kernel
theorem dX5_goneAfter_14 : decode cX5_goneAfter 14 = .ok (.aload_n 0, 1) := by decide +kernel
theorem dX5_goneAfter_15 : decode cX5_goneAfter 15 = .ok (.getfield 16, 3) := by decide +kernel
theorem dX5_goneAfter_18 : decode cX5_goneAfter 18 = .ok (.aload_n 0, 1) := by decide +kernel
theorem dX5_goneAfter_19 : decode cX5_goneAfter 19 = .ok (.getfield 10, 3) := by decide +kernel
theorem dX5_goneAfter_22 : decode cX5_goneAfter 22 = .ok (.invokevirtual 156, 3) := by decide +kernel
theorem dX5_goneAfter_25 : decode cX5_goneAfter 25 = .ok (.aload_n 0, 1) := by decide +kernel
theorem dX5_goneAfter_26 : decode cX5_goneAfter 26 = .ok (.getfield 16, 3) := by decide +kernel
theorem dX5_goneAfter_29 : decode cX5_goneAfter 29 = .ok (.invokevirtual 159, 3) := by decide +kernel
theorem dX5_goneAfter_32 : decode cX5_goneAfter 32 = .ok (.iconst 0, 1) := by decide +kernel
theorem dX5_goneAfter_33 : decode cX5_goneAfter 33 = .ok (.istore_n 3, 1) := by decide +kernel
theorem dX5_goneAfter_34 : decode cX5_goneAfter 34 = .ok (.iload_n 3, 1) := by decide +kernel
theorem dX5_goneAfter_35 : decode cX5_goneAfter 35 = .ok (.bipush 60, 2) := by decide +kernel
theorem dX5_goneAfter_37 : decode cX5_goneAfter 37 = .ok (.if_icmp .gt 30, 3) := by decide +kernel
theorem dX5_goneAfter_40 : decode cX5_goneAfter 40 = .ok (.aload_n 0, 1) := by decide +kernel
theorem dX5_goneAfter_41 : decode cX5_goneAfter 41 = .ok (.getfield 16, 3) := by decide +kernel
theorem dX5_goneAfter_44 : decode cX5_goneAfter 44 = .ok (.iload_n 2, 1) := by decide +kernel
theorem dX5_goneAfter_45 : decode cX5_goneAfter 45 = .ok (.invokevirtual 168, 3) := by decide +kernel
theorem dX5_goneAfter_48 : decode cX5_goneAfter 48 = .ok (.ifCond .ne 5, 3) := by decide +kernel
theorem dX5_goneAfter_51 : decode cX5_goneAfter 51 = .ok (.iload_n 3, 1) := by decide +kernel
theorem dX5_goneAfter_52 : decode cX5_goneAfter 52 = .ok (.ireturn, 1) := by decide +kernel
theorem dX5_goneAfter_53 : decode cX5_goneAfter 53 = .ok (.aload_n 0, 1) := by decide +kernel
theorem dX5_goneAfter_54 : decode cX5_goneAfter 54 = .ok (.getfield 16, 3) := by decide +kernel
theorem dX5_goneAfter_57 : decode cX5_goneAfter 57 = .ok (.invokevirtual 162, 3) := by decide +kernel
theorem dX5_goneAfter_60 : decode cX5_goneAfter 60 = .ok (.pop, 1) := by decide +kernel
theorem dX5_goneAfter_61 : decode cX5_goneAfter 61 = .ok (.iinc 3 1, 3) := by decide +kernel
theorem dX5_goneAfter_64 : decode cX5_goneAfter 64 = .ok (.goto (-30), 3) := by decide +kernel
theorem dX5_goneAfter_67 : decode cX5_goneAfter 67 = .ok (.iconst (-1), 1) := by decide +kernel
theorem dX5_goneAfter_68 : decode cX5_goneAfter 68 = .ok (.ireturn, 1) := by decide +kernel
theorem dX5_lifeSettled_0 : decode cX5_lifeSettled 0 = .ok (.aload_n 0, 1) := by decide +kernel
theorem dX5_lifeSettled_1 : decode cX5_lifeSettled 1 = .ok (.getfield 16, 3) := by decide +kernel
theorem dX5_lifeSettled_4 : decode cX5_lifeSettled 4 = .ok (.aload_n 0, 1) := by decide +kernel
theorem dX5_lifeSettled_5 : decode cX5_lifeSettled 5 = .ok (.getfield 10, 3) := by decide +kernel
theorem dX5_lifeSettled_8 : decode cX5_lifeSettled 8 = .ok (.invokevirtual 156, 3) := by decide +kernel
theorem dX5_lifeSettled_11 : decode cX5_lifeSettled 11 = .ok (.aload_n 0, 1) := by decide +kernel
theorem dX5_lifeSettled_12 : decode cX5_lifeSettled 12 = .ok (.getfield 16, 3) := by decide +kernel
theorem dX5_lifeSettled_15 : decode cX5_lifeSettled 15 = .ok (.invokevirtual 142, 3) := by decide +kernel
theorem dX5_lifeSettled_18 : decode cX5_lifeSettled 18 = .ok (.pop, 1) := by decide +kernel
theorem dX5_lifeSettled_19 : decode cX5_lifeSettled 19 = .ok (.aload_n 0, 1) := by decide +kernel
theorem dX5_lifeSettled_20 : decode cX5_lifeSettled 20 = .ok (.getfield 16, 3) := by decide +kernel
theorem dX5_lifeSettled_23 : decode cX5_lifeSettled 23 = .ok (.invokevirtual 171, 3) := by decide +kernel
theorem dX5_lifeSettled_26 : decode cX5_lifeSettled 26 = .ok (.ireturn, 1) := by decide +kernel
theorem dX5_carryOut_0 : decode cX5_carryOut 0 = .ok (.aload_n 0, 1) := by decide +kernel
theorem dX5_carryOut_1 : decode cX5_carryOut 1 = .ok (.getfield 29, 3) := by decide +kernel
theorem dX5_carryOut_4 : decode cX5_carryOut 4 = .ok (.invokevirtual 186, 3) := by decide +kernel
theorem dX5_carryOut_7 : decode cX5_carryOut 7 = .ok (.istore_n 1, 1) := by decide +kernel
theorem dX5_carryOut_8 : decode cX5_carryOut 8 = .ok (.iload_n 1, 1) := by decide +kernel
theorem dX5_carryOut_9 : decode cX5_carryOut 9 = .ok (.iconst (-1), 1) := by decide +kernel
theorem dX5_carryOut_10 : decode cX5_carryOut 10 = .ok (.if_icmp .eq 8, 3) := by decide +kernel
theorem dX5_carryOut_13 : decode cX5_carryOut 13 = .ok (.bipush (-10), 2) := by decide +kernel
theorem dX5_carryOut_15 : decode cX5_carryOut 15 = .ok (.iload_n 1, 1) := by decide +kernel
theorem dX5_carryOut_16 : decode cX5_carryOut 16 = .ok (.isub, 1) := by decide +kernel
theorem dX5_carryOut_17 : decode cX5_carryOut 17 = .ok (.ireturn, 1) := by decide +kernel
theorem dX5_carryOut_18 : decode cX5_carryOut 18 = .ok (.aload_n 0, 1) := by decide +kernel
theorem dX5_carryOut_19 : decode cX5_carryOut 19 = .ok (.getfield 16, 3) := by decide +kernel
theorem dX5_carryOut_22 : decode cX5_carryOut 22 = .ok (.aload_n 0, 1) := by decide +kernel
theorem dX5_carryOut_23 : decode cX5_carryOut 23 = .ok (.getfield 10, 3) := by decide +kernel
theorem dX5_carryOut_26 : decode cX5_carryOut 26 = .ok (.invokevirtual 156, 3) := by decide +kernel
theorem dX5_carryOut_29 : decode cX5_carryOut 29 = .ok (.iconst 0, 1) := by decide +kernel
theorem dX5_carryOut_30 : decode cX5_carryOut 30 = .ok (.istore_n 2, 1) := by decide +kernel
theorem dX5_carryOut_31 : decode cX5_carryOut 31 = .ok (.iload_n 2, 1) := by decide +kernel
theorem dX5_carryOut_32 : decode cX5_carryOut 32 = .ok (.aload_n 0, 1) := by decide +kernel
theorem dX5_carryOut_33 : decode cX5_carryOut 33 = .ok (.getfield 29, 3) := by decide +kernel
theorem dX5_carryOut_36 : decode cX5_carryOut 36 = .ok (.invokevirtual 189, 3) := by decide +kernel
theorem dX5_carryOut_39 : decode cX5_carryOut 39 = .ok (.if_icmp .ge 30, 3) := by decide +kernel
theorem dX5_carryOut_42 : decode cX5_carryOut 42 = .ok (.aload_n 0, 1) := by decide +kernel
theorem dX5_carryOut_43 : decode cX5_carryOut 43 = .ok (.getfield 29, 3) := by decide +kernel
theorem dX5_carryOut_46 : decode cX5_carryOut 46 = .ok (.iload_n 2, 1) := by decide +kernel
theorem dX5_carryOut_47 : decode cX5_carryOut 47 = .ok (.aload_n 0, 1) := by decide +kernel
theorem dX5_carryOut_48 : decode cX5_carryOut 48 = .ok (.getfield 16, 3) := by decide +kernel
theorem dX5_carryOut_51 : decode cX5_carryOut 51 = .ok (.invokevirtual 192, 3) := by decide +kernel
theorem dX5_carryOut_54 : decode cX5_carryOut 54 = .ok (.ifCond .ne 9, 3) := by decide +kernel
theorem dX5_carryOut_57 : decode cX5_carryOut 57 = .ok (.sipush (-1000), 3) := by decide +kernel
theorem dX5_carryOut_60 : decode cX5_carryOut 60 = .ok (.iload_n 2, 1) := by decide +kernel
theorem dX5_carryOut_61 : decode cX5_carryOut 61 = .ok (.isub, 1) := by decide +kernel
theorem dX5_carryOut_62 : decode cX5_carryOut 62 = .ok (.ireturn, 1) := by decide +kernel
theorem dX5_carryOut_63 : decode cX5_carryOut 63 = .ok (.iinc 2 1, 3) := by decide +kernel
theorem dX5_carryOut_66 : decode cX5_carryOut 66 = .ok (.goto (-35), 3) := by decide +kernel
theorem dX5_carryOut_69 : decode cX5_carryOut 69 = .ok (.aload_n 0, 1) := by decide +kernel
theorem dX5_carryOut_70 : decode cX5_carryOut 70 = .ok (.getfield 22, 3) := by decide +kernel
theorem dX5_carryOut_73 : decode cX5_carryOut 73 = .ok (.aload_n 0, 1) := by decide +kernel
theorem dX5_carryOut_74 : decode cX5_carryOut 74 = .ok (.getfield 10, 3) := by decide +kernel
theorem dX5_carryOut_77 : decode cX5_carryOut 77 = .ok (.invokevirtual 53, 3) := by decide +kernel
theorem dX5_carryOut_80 : decode cX5_carryOut 80 = .ok (.aload_n 0, 1) := by decide +kernel
theorem dX5_carryOut_81 : decode cX5_carryOut 81 = .ok (.getfield 10, 3) := by decide +kernel
theorem dX5_carryOut_84 : decode cX5_carryOut 84 = .ok (.aload_n 0, 1) := by decide +kernel
theorem dX5_carryOut_85 : decode cX5_carryOut 85 = .ok (.getfield 16, 3) := by decide +kernel
theorem dX5_carryOut_88 : decode cX5_carryOut 88 = .ok (.invokevirtual 156, 3) := by decide +kernel
theorem dX5_carryOut_91 : decode cX5_carryOut 91 = .ok (.aload_n 0, 1) := by decide +kernel
theorem dX5_carryOut_92 : decode cX5_carryOut 92 = .ok (.getfield 29, 3) := by decide +kernel
theorem dX5_carryOut_95 : decode cX5_carryOut 95 = .ok (.invokevirtual 189, 3) := by decide +kernel
theorem dX5_carryOut_98 : decode cX5_carryOut 98 = .ok (.ireturn, 1) := by decide +kernel
theorem dX5_undo_0 : decode cX5_undo 0 = .ok (.aload_n 0, 1) := by decide +kernel
theorem dX5_undo_1 : decode cX5_undo 1 = .ok (.getfield 22, 3) := by decide +kernel
theorem dX5_undo_4 : decode cX5_undo 4 = .ok (.invokevirtual 196, 3) := by decide +kernel
theorem dX5_undo_7 : decode cX5_undo 7 = .ok (.ifCond .le 7, 3) := by decide +kernel
theorem dX5_undo_10 : decode cX5_undo 10 = .ok (.iconst 1, 1) := by decide +kernel
theorem dX5_undo_11 : decode cX5_undo 11 = .ok (.goto 4, 3) := by decide +kernel
theorem dX5_undo_14 : decode cX5_undo 14 = .ok (.iconst 0, 1) := by decide +kernel
theorem dX5_undo_15 : decode cX5_undo 15 = .ok (.invokestatic 103, 3) := by decide +kernel
theorem dX5_undo_18 : decode cX5_undo 18 = .ok (.aload_n 0, 1) := by decide +kernel
theorem dX5_undo_19 : decode cX5_undo 19 = .ok (.getfield 22, 3) := by decide +kernel
theorem dX5_undo_22 : decode cX5_undo 22 = .ok (.aload_n 0, 1) := by decide +kernel
theorem dX5_undo_23 : decode cX5_undo 23 = .ok (.getfield 10, 3) := by decide +kernel
theorem dX5_undo_26 : decode cX5_undo 26 = .ok (.invokevirtual 199, 3) := by decide +kernel
theorem dX5_undo_29 : decode cX5_undo 29 = .ok (.aload_n 0, 1) := by decide +kernel
theorem dX5_undo_30 : decode cX5_undo 30 = .ok (.getfield 22, 3) := by decide +kernel
theorem dX5_undo_33 : decode cX5_undo 33 = .ok (.invokevirtual 196, 3) := by decide +kernel
theorem dX5_undo_36 : decode cX5_undo 36 = .ok (.ireturn, 1) := by decide +kernel
theorem dX5_withFighters_0 : decode cX5_withFighters 0 = .ok (.lload_n 1, 1) := by decide +kernel
theorem dX5_withFighters_1 : decode cX5_withFighters 1 = .ok (.lstore_n 3, 1) := by decide +kernel
theorem dX5_withFighters_2 : decode cX5_withFighters 2 = .ok (.iconst 0, 1) := by decide +kernel
theorem dX5_withFighters_3 : decode cX5_withFighters 3 = .ok (.istore 5, 2) := by decide +kernel
theorem dX5_withFighters_5 : decode cX5_withFighters 5 = .ok (.iload 5, 2) := by decide +kernel
theorem dX5_withFighters_7 : decode cX5_withFighters 7 = .ok (.aload_n 0, 1) := by decide +kernel
theorem dX5_withFighters_8 : decode cX5_withFighters 8 = .ok (.getfield 10, 3) := by decide +kernel
theorem dX5_withFighters_11 : decode cX5_withFighters 11 = .ok (.invokevirtual 44, 3) := by decide +kernel
theorem dX5_withFighters_14 : decode cX5_withFighters 14 = .ok (.if_icmp .ge 44, 3) := by decide +kernel
theorem dX5_withFighters_17 : decode cX5_withFighters 17 = .ok (.iconst 0, 1) := by decide +kernel
theorem dX5_withFighters_18 : decode cX5_withFighters 18 = .ok (.istore 6, 2) := by decide +kernel
theorem dX5_withFighters_20 : decode cX5_withFighters 20 = .ok (.iload 6, 2) := by decide +kernel
theorem dX5_withFighters_22 : decode cX5_withFighters 22 = .ok (.bipush 8, 2) := by decide +kernel
theorem dX5_withFighters_24 : decode cX5_withFighters 24 = .ok (.if_icmp .gt 28, 3) := by decide +kernel
theorem dX5_withFighters_27 : decode cX5_withFighters 27 = .ok (.ldc2_w 204, 3) := by decide +kernel
theorem dX5_withFighters_30 : decode cX5_withFighters 30 = .ok (.lload_n 3, 1) := by decide +kernel
theorem dX5_withFighters_31 : decode cX5_withFighters 31 = .ok (.lmul, 1) := by decide +kernel
theorem dX5_withFighters_32 : decode cX5_withFighters 32 = .ok (.aload_n 0, 1) := by decide +kernel
theorem dX5_withFighters_33 : decode cX5_withFighters 33 = .ok (.getfield 10, 3) := by decide +kernel
theorem dX5_withFighters_36 : decode cX5_withFighters 36 = .ok (.iload 5, 2) := by decide +kernel
theorem dX5_withFighters_38 : decode cX5_withFighters 38 = .ok (.iload 6, 2) := by decide +kernel
theorem dX5_withFighters_40 : decode cX5_withFighters 40 = .ok (.invokevirtual 76, 3) := by decide +kernel
theorem dX5_withFighters_43 : decode cX5_withFighters 43 = .ok (.i2l, 1) := by decide +kernel
theorem dX5_withFighters_44 : decode cX5_withFighters 44 = .ok (.ladd, 1) := by decide +kernel
theorem dX5_withFighters_45 : decode cX5_withFighters 45 = .ok (.lstore_n 3, 1) := by decide +kernel
theorem dX5_withFighters_46 : decode cX5_withFighters 46 = .ok (.iinc 6 1, 3) := by decide +kernel
theorem dX5_withFighters_49 : decode cX5_withFighters 49 = .ok (.goto (-29), 3) := by decide +kernel
theorem dX5_withFighters_52 : decode cX5_withFighters 52 = .ok (.iinc 5 1, 3) := by decide +kernel
theorem dX5_withFighters_55 : decode cX5_withFighters 55 = .ok (.goto (-50), 3) := by decide +kernel
theorem dX5_withFighters_58 : decode cX5_withFighters 58 = .ok (.lload_n 3, 1) := by decide +kernel
theorem dX5_withFighters_59 : decode cX5_withFighters 59 = .ok (.lreturn, 1) := by decide +kernel
theorem dX5_withEffects_0 : decode cX5_withEffects 0 = .ok (.lload_n 1, 1) := by decide +kernel
theorem dX5_withEffects_1 : decode cX5_withEffects 1 = .ok (.lstore_n 3, 1) := by decide +kernel
theorem dX5_withEffects_2 : decode cX5_withEffects 2 = .ok (.iconst 0, 1) := by decide +kernel
theorem dX5_withEffects_3 : decode cX5_withEffects 3 = .ok (.istore 5, 2) := by decide +kernel
theorem dX5_withEffects_5 : decode cX5_withEffects 5 = .ok (.iload 5, 2) := by decide +kernel
theorem dX5_withEffects_7 : decode cX5_withEffects 7 = .ok (.aload_n 0, 1) := by decide +kernel
theorem dX5_withEffects_8 : decode cX5_withEffects 8 = .ok (.getfield 10, 3) := by decide +kernel
theorem dX5_withEffects_11 : decode cX5_withEffects 11 = .ok (.invokevirtual 216, 3) := by decide +kernel
theorem dX5_withEffects_14 : decode cX5_withEffects 14 = .ok (.if_icmp .ge 44, 3) := by decide +kernel
theorem dX5_withEffects_17 : decode cX5_withEffects 17 = .ok (.iconst 0, 1) := by decide +kernel
theorem dX5_withEffects_18 : decode cX5_withEffects 18 = .ok (.istore 6, 2) := by decide +kernel
theorem dX5_withEffects_20 : decode cX5_withEffects 20 = .ok (.iload 6, 2) := by decide +kernel
theorem dX5_withEffects_22 : decode cX5_withEffects 22 = .ok (.bipush 6, 2) := by decide +kernel
theorem dX5_withEffects_24 : decode cX5_withEffects 24 = .ok (.if_icmp .gt 28, 3) := by decide +kernel
theorem dX5_withEffects_27 : decode cX5_withEffects 27 = .ok (.ldc2_w 204, 3) := by decide +kernel
theorem dX5_withEffects_30 : decode cX5_withEffects 30 = .ok (.lload_n 3, 1) := by decide +kernel
theorem dX5_withEffects_31 : decode cX5_withEffects 31 = .ok (.lmul, 1) := by decide +kernel
theorem dX5_withEffects_32 : decode cX5_withEffects 32 = .ok (.aload_n 0, 1) := by decide +kernel
theorem dX5_withEffects_33 : decode cX5_withEffects 33 = .ok (.getfield 10, 3) := by decide +kernel
theorem dX5_withEffects_36 : decode cX5_withEffects 36 = .ok (.iload 5, 2) := by decide +kernel
theorem dX5_withEffects_38 : decode cX5_withEffects 38 = .ok (.iload 6, 2) := by decide +kernel
theorem dX5_withEffects_40 : decode cX5_withEffects 40 = .ok (.invokevirtual 82, 3) := by decide +kernel
theorem dX5_withEffects_43 : decode cX5_withEffects 43 = .ok (.i2l, 1) := by decide +kernel
theorem dX5_withEffects_44 : decode cX5_withEffects 44 = .ok (.ladd, 1) := by decide +kernel
theorem dX5_withEffects_45 : decode cX5_withEffects 45 = .ok (.lstore_n 3, 1) := by decide +kernel
theorem dX5_withEffects_46 : decode cX5_withEffects 46 = .ok (.iinc 6 1, 3) := by decide +kernel
theorem dX5_withEffects_49 : decode cX5_withEffects 49 = .ok (.goto (-29), 3) := by decide +kernel
theorem dX5_withEffects_52 : decode cX5_withEffects 52 = .ok (.iinc 5 1, 3) := by decide +kernel
theorem dX5_withEffects_55 : decode cX5_withEffects 55 = .ok (.goto (-50), 3) := by decide +kernel
theorem dX5_withEffects_58 : decode cX5_withEffects 58 = .ok (.lload_n 3, 1) := by decide +kernel
theorem dX5_withEffects_59 : decode cX5_withEffects 59 = .ok (.lreturn, 1) := by decide +kernel
theorem dX5_withStack_0 : decode cX5_withStack 0 = .ok (.lload_n 1, 1) := by decide +kernel
theorem dX5_withStack_1 : decode cX5_withStack 1 = .ok (.lstore_n 3, 1) := by decide +kernel
theorem dX5_withStack_2 : decode cX5_withStack 2 = .ok (.iconst 0, 1) := by decide +kernel
theorem dX5_withStack_3 : decode cX5_withStack 3 = .ok (.istore 5, 2) := by decide +kernel
theorem dX5_withStack_5 : decode cX5_withStack 5 = .ok (.iload 5, 2) := by decide +kernel
theorem dX5_withStack_7 : decode cX5_withStack 7 = .ok (.aload_n 0, 1) := by decide +kernel
theorem dX5_withStack_8 : decode cX5_withStack 8 = .ok (.getfield 10, 3) := by decide +kernel
theorem dX5_withStack_11 : decode cX5_withStack 11 = .ok (.invokevirtual 145, 3) := by decide +kernel
theorem dX5_withStack_14 : decode cX5_withStack 14 = .ok (.if_icmp .ge 43, 3) := by decide +kernel
theorem dX5_withStack_17 : decode cX5_withStack 17 = .ok (.iconst 0, 1) := by decide +kernel
theorem dX5_withStack_18 : decode cX5_withStack 18 = .ok (.istore 6, 2) := by decide +kernel
theorem dX5_withStack_20 : decode cX5_withStack 20 = .ok (.iload 6, 2) := by decide +kernel
theorem dX5_withStack_22 : decode cX5_withStack 22 = .ok (.iconst 3, 1) := by decide +kernel
theorem dX5_withStack_23 : decode cX5_withStack 23 = .ok (.if_icmp .gt 28, 3) := by decide +kernel
theorem dX5_withStack_26 : decode cX5_withStack 26 = .ok (.ldc2_w 204, 3) := by decide +kernel
theorem dX5_withStack_29 : decode cX5_withStack 29 = .ok (.lload_n 3, 1) := by decide +kernel
theorem dX5_withStack_30 : decode cX5_withStack 30 = .ok (.lmul, 1) := by decide +kernel
theorem dX5_withStack_31 : decode cX5_withStack 31 = .ok (.aload_n 0, 1) := by decide +kernel
theorem dX5_withStack_32 : decode cX5_withStack 32 = .ok (.getfield 10, 3) := by decide +kernel
theorem dX5_withStack_35 : decode cX5_withStack 35 = .ok (.iload 5, 2) := by decide +kernel
theorem dX5_withStack_37 : decode cX5_withStack 37 = .ok (.iload 6, 2) := by decide +kernel
theorem dX5_withStack_39 : decode cX5_withStack 39 = .ok (.invokevirtual 150, 3) := by decide +kernel
theorem dX5_withStack_42 : decode cX5_withStack 42 = .ok (.i2l, 1) := by decide +kernel
theorem dX5_withStack_43 : decode cX5_withStack 43 = .ok (.ladd, 1) := by decide +kernel
theorem dX5_withStack_44 : decode cX5_withStack 44 = .ok (.lstore_n 3, 1) := by decide +kernel
theorem dX5_withStack_45 : decode cX5_withStack 45 = .ok (.iinc 6 1, 3) := by decide +kernel
theorem dX5_withStack_48 : decode cX5_withStack 48 = .ok (.goto (-28), 3) := by decide +kernel
theorem dX5_withStack_51 : decode cX5_withStack 51 = .ok (.iinc 5 1, 3) := by decide +kernel
theorem dX5_withStack_54 : decode cX5_withStack 54 = .ok (.goto (-49), 3) := by decide +kernel
theorem dX5_withStack_57 : decode cX5_withStack 57 = .ok (.lload_n 3, 1) := by decide +kernel
theorem dX5_withStack_58 : decode cX5_withStack 58 = .ok (.lreturn, 1) := by decide +kernel
theorem dX5_digest_0 : decode cX5_digest 0 = .ok (.ldc2_w 202, 3) := by decide +kernel
theorem dX5_digest_3 : decode cX5_digest 3 = .ok (.aload_n 0, 1) := by decide +kernel
theorem dX5_digest_4 : decode cX5_digest 4 = .ok (.getfield 29, 3) := by decide +kernel
theorem dX5_digest_7 : decode cX5_digest 7 = .ok (.invokevirtual 177, 3) := by decide +kernel
theorem dX5_digest_10 : decode cX5_digest 10 = .ok (.i2l, 1) := by decide +kernel
theorem dX5_digest_11 : decode cX5_digest 11 = .ok (.ladd, 1) := by decide +kernel
theorem dX5_digest_12 : decode cX5_digest 12 = .ok (.lstore_n 1, 1) := by decide +kernel
theorem dX5_digest_13 : decode cX5_digest 13 = .ok (.iconst 0, 1) := by decide +kernel
theorem dX5_digest_14 : decode cX5_digest 14 = .ok (.istore_n 3, 1) := by decide +kernel
theorem dX5_digest_15 : decode cX5_digest 15 = .ok (.iload_n 3, 1) := by decide +kernel
theorem dX5_digest_16 : decode cX5_digest 16 = .ok (.bipush 8, 2) := by decide +kernel
theorem dX5_digest_18 : decode cX5_digest 18 = .ok (.if_icmp .gt 25, 3) := by decide +kernel
theorem dX5_digest_21 : decode cX5_digest 21 = .ok (.ldc2_w 204, 3) := by decide +kernel
theorem dX5_digest_24 : decode cX5_digest 24 = .ok (.lload_n 1, 1) := by decide +kernel
theorem dX5_digest_25 : decode cX5_digest 25 = .ok (.lmul, 1) := by decide +kernel
theorem dX5_digest_26 : decode cX5_digest 26 = .ok (.aload_n 0, 1) := by decide +kernel
theorem dX5_digest_27 : decode cX5_digest 27 = .ok (.getfield 10, 3) := by decide +kernel
theorem dX5_digest_30 : decode cX5_digest 30 = .ok (.iload_n 3, 1) := by decide +kernel
theorem dX5_digest_31 : decode cX5_digest 31 = .ok (.invokevirtual 85, 3) := by decide +kernel
theorem dX5_digest_34 : decode cX5_digest 34 = .ok (.i2l, 1) := by decide +kernel
theorem dX5_digest_35 : decode cX5_digest 35 = .ok (.ladd, 1) := by decide +kernel
theorem dX5_digest_36 : decode cX5_digest 36 = .ok (.lstore_n 1, 1) := by decide +kernel
theorem dX5_digest_37 : decode cX5_digest 37 = .ok (.iinc 3 1, 3) := by decide +kernel
theorem dX5_digest_40 : decode cX5_digest 40 = .ok (.goto (-25), 3) := by decide +kernel
theorem dX5_digest_43 : decode cX5_digest 43 = .ok (.aload_n 0, 1) := by decide +kernel
theorem dX5_digest_44 : decode cX5_digest 44 = .ok (.lload_n 1, 1) := by decide +kernel
theorem dX5_digest_45 : decode cX5_digest 45 = .ok (.invokevirtual 206, 3) := by decide +kernel
theorem dX5_digest_48 : decode cX5_digest 48 = .ok (.lstore_n 1, 1) := by decide +kernel
theorem dX5_digest_49 : decode cX5_digest 49 = .ok (.aload_n 0, 1) := by decide +kernel
theorem dX5_digest_50 : decode cX5_digest 50 = .ok (.lload_n 1, 1) := by decide +kernel
theorem dX5_digest_51 : decode cX5_digest 51 = .ok (.invokevirtual 210, 3) := by decide +kernel
theorem dX5_digest_54 : decode cX5_digest 54 = .ok (.lstore_n 1, 1) := by decide +kernel
theorem dX5_digest_55 : decode cX5_digest 55 = .ok (.iconst 0, 1) := by decide +kernel
theorem dX5_digest_56 : decode cX5_digest 56 = .ok (.istore_n 3, 1) := by decide +kernel
theorem dX5_digest_57 : decode cX5_digest 57 = .ok (.iload_n 3, 1) := by decide +kernel
theorem dX5_digest_58 : decode cX5_digest 58 = .ok (.aload_n 0, 1) := by decide +kernel
theorem dX5_digest_59 : decode cX5_digest 59 = .ok (.getfield 10, 3) := by decide +kernel
theorem dX5_digest_62 : decode cX5_digest 62 = .ok (.invokevirtual 88, 3) := by decide +kernel
theorem dX5_digest_65 : decode cX5_digest 65 = .ok (.if_icmp .ge 25, 3) := by decide +kernel
theorem dX5_digest_68 : decode cX5_digest 68 = .ok (.ldc2_w 204, 3) := by decide +kernel
theorem dX5_digest_71 : decode cX5_digest 71 = .ok (.lload_n 1, 1) := by decide +kernel
theorem dX5_digest_72 : decode cX5_digest 72 = .ok (.lmul, 1) := by decide +kernel
theorem dX5_digest_73 : decode cX5_digest 73 = .ok (.aload_n 0, 1) := by decide +kernel
theorem dX5_digest_74 : decode cX5_digest 74 = .ok (.getfield 10, 3) := by decide +kernel
theorem dX5_digest_77 : decode cX5_digest 77 = .ok (.iload_n 3, 1) := by decide +kernel
theorem dX5_digest_78 : decode cX5_digest 78 = .ok (.invokevirtual 96, 3) := by decide +kernel
theorem dX5_digest_81 : decode cX5_digest 81 = .ok (.i2l, 1) := by decide +kernel
theorem dX5_digest_82 : decode cX5_digest 82 = .ok (.ladd, 1) := by decide +kernel
theorem dX5_digest_83 : decode cX5_digest 83 = .ok (.lstore_n 1, 1) := by decide +kernel
theorem dX5_digest_84 : decode cX5_digest 84 = .ok (.iinc 3 1, 3) := by decide +kernel
theorem dX5_digest_87 : decode cX5_digest 87 = .ok (.goto (-30), 3) := by decide +kernel
theorem dX5_digest_90 : decode cX5_digest 90 = .ok (.aload_n 0, 1) := by decide +kernel
theorem dX5_digest_91 : decode cX5_digest 91 = .ok (.lload_n 1, 1) := by decide +kernel
theorem dX5_digest_92 : decode cX5_digest 92 = .ok (.invokevirtual 213, 3) := by decide +kernel
theorem dX5_digest_95 : decode cX5_digest 95 = .ok (.lstore_n 1, 1) := by decide +kernel
theorem dX5_digest_96 : decode cX5_digest 96 = .ok (.ldc2_w 204, 3) := by decide +kernel
theorem dX5_digest_99 : decode cX5_digest 99 = .ok (.lload_n 1, 1) := by decide +kernel
theorem dX5_digest_100 : decode cX5_digest 100 = .ok (.lmul, 1) := by decide +kernel
theorem dX5_digest_101 : decode cX5_digest 101 = .ok (.aload_n 0, 1) := by decide +kernel
theorem dX5_digest_102 : decode cX5_digest 102 = .ok (.getfield 22, 3) := by decide +kernel
theorem dX5_digest_105 : decode cX5_digest 105 = .ok (.invokevirtual 196, 3) := by decide +kernel
theorem dX5_digest_108 : decode cX5_digest 108 = .ok (.i2l, 1) := by decide +kernel
theorem dX5_digest_109 : decode cX5_digest 109 = .ok (.ladd, 1) := by decide +kernel
theorem dX5_digest_110 : decode cX5_digest 110 = .ok (.lreturn, 1) := by decide +kernel
theorem dX5_init_0 : decode cX5_init 0 = .ok (.aload_n 0, 1) := by decide +kernel
theorem dX5_init_1 : decode cX5_init 1 = .ok (.invokespecial 1, 3) := by decide +kernel
theorem dX5_init_4 : decode cX5_init 4 = .ok (.aload_n 0, 1) := by decide +kernel
theorem dX5_init_5 : decode cX5_init 5 = .ok (.new 7, 3) := by decide +kernel
theorem dX5_init_8 : decode cX5_init 8 = .ok (.dup, 1) := by decide +kernel
theorem dX5_init_9 : decode cX5_init 9 = .ok (.invokespecial 9, 3) := by decide +kernel
theorem dX5_init_12 : decode cX5_init 12 = .ok (.putfield 10, 3) := by decide +kernel
theorem dX5_init_15 : decode cX5_init 15 = .ok (.aload_n 0, 1) := by decide +kernel
theorem dX5_init_16 : decode cX5_init 16 = .ok (.new 7, 3) := by decide +kernel
theorem dX5_init_19 : decode cX5_init 19 = .ok (.dup, 1) := by decide +kernel
theorem dX5_init_20 : decode cX5_init 20 = .ok (.invokespecial 9, 3) := by decide +kernel
theorem dX5_init_23 : decode cX5_init 23 = .ok (.putfield 16, 3) := by decide +kernel
theorem dX5_init_26 : decode cX5_init 26 = .ok (.aload_n 0, 1) := by decide +kernel
theorem dX5_init_27 : decode cX5_init 27 = .ok (.new 19, 3) := by decide +kernel
theorem dX5_init_30 : decode cX5_init 30 = .ok (.dup, 1) := by decide +kernel
theorem dX5_init_31 : decode cX5_init 31 = .ok (.invokespecial 21, 3) := by decide +kernel
theorem dX5_init_34 : decode cX5_init 34 = .ok (.putfield 22, 3) := by decide +kernel
theorem dX5_init_37 : decode cX5_init 37 = .ok (.aload_n 0, 1) := by decide +kernel
theorem dX5_init_38 : decode cX5_init 38 = .ok (.new 26, 3) := by decide +kernel
theorem dX5_init_41 : decode cX5_init 41 = .ok (.dup, 1) := by decide +kernel
theorem dX5_init_42 : decode cX5_init 42 = .ok (.invokespecial 28, 3) := by decide +kernel
theorem dX5_init_45 : decode cX5_init 45 = .ok (.putfield 29, 3) := by decide +kernel
theorem dX5_init_48 : decode cX5_init 48 = .ok (.return_, 1) := by decide +kernel
