theorem dX1_copyFrom_0 : decode cX1_copyFrom 0 = .ok (.aload_n 0, 1) := by decide +kernel
theorem dX1_copyFrom_1 : decode cX1_copyFrom 1 = .ok (.getfield 16, 3) := by decide +kernel
theorem dX1_copyFrom_4 : decode cX1_copyFrom 4 = .ok (.aload_n 1, 1) := by decide +kernel
theorem dX1_copyFrom_5 : decode cX1_copyFrom 5 = .ok (.getfield 16, 3) := by decide +kernel
theorem dX1_copyFrom_8 : decode cX1_copyFrom 8 = .ok (.invokevirtual 53, 3) := by decide +kernel
theorem dX1_copyFrom_11 : decode cX1_copyFrom 11 = .ok (.aload_n 0, 1) := by decide +kernel
theorem dX1_copyFrom_12 : decode cX1_copyFrom 12 = .ok (.getfield 23, 3) := by decide +kernel
theorem dX1_copyFrom_15 : decode cX1_copyFrom 15 = .ok (.aload_n 1, 1) := by decide +kernel
theorem dX1_copyFrom_16 : decode cX1_copyFrom 16 = .ok (.getfield 23, 3) := by decide +kernel
theorem dX1_copyFrom_19 : decode cX1_copyFrom 19 = .ok (.invokevirtual 57, 3) := by decide +kernel
theorem dX1_copyFrom_22 : decode cX1_copyFrom 22 = .ok (.aload_n 0, 1) := by decide +kernel
theorem dX1_copyFrom_23 : decode cX1_copyFrom 23 = .ok (.getfield 27, 3) := by decide +kernel
theorem dX1_copyFrom_26 : decode cX1_copyFrom 26 = .ok (.aload_n 1, 1) := by decide +kernel
theorem dX1_copyFrom_27 : decode cX1_copyFrom 27 = .ok (.getfield 27, 3) := by decide +kernel
theorem dX1_copyFrom_30 : decode cX1_copyFrom 30 = .ok (.invokevirtual 53, 3) := by decide +kernel
theorem dX1_copyFrom_33 : decode cX1_copyFrom 33 = .ok (.aload_n 0, 1) := by decide +kernel
theorem dX1_copyFrom_34 : decode cX1_copyFrom 34 = .ok (.getfield 30, 3) := by decide +kernel
theorem dX1_copyFrom_37 : decode cX1_copyFrom 37 = .ok (.aload_n 1, 1) := by decide +kernel
theorem dX1_copyFrom_38 : decode cX1_copyFrom 38 = .ok (.getfield 30, 3) := by decide +kernel
theorem dX1_copyFrom_41 : decode cX1_copyFrom 41 = .ok (.invokevirtual 53, 3) := by decide +kernel
theorem dX1_copyFrom_44 : decode cX1_copyFrom 44 = .ok (.aload_n 0, 1) := by decide +kernel
theorem dX1_copyFrom_45 : decode cX1_copyFrom 45 = .ok (.aload_n 1, 1) := by decide +kernel
theorem dX1_copyFrom_46 : decode cX1_copyFrom 46 = .ok (.getfield 33, 3) := by decide +kernel
theorem dX1_copyFrom_49 : decode cX1_copyFrom 49 = .ok (.putfield 33, 3) := by decide +kernel
theorem dX1_copyFrom_52 : decode cX1_copyFrom 52 = .ok (.aload_n 0, 1) := by decide +kernel
theorem dX1_copyFrom_53 : decode cX1_copyFrom 53 = .ok (.aload_n 1, 1) := by decide +kernel
theorem dX1_copyFrom_54 : decode cX1_copyFrom 54 = .ok (.getfield 37, 3) := by decide +kernel
theorem dX1_copyFrom_57 : decode cX1_copyFrom 57 = .ok (.putfield 37, 3) := by decide +kernel
theorem dX1_copyFrom_60 : decode cX1_copyFrom 60 = .ok (.aload_n 0, 1) := by decide +kernel
theorem dX1_copyFrom_61 : decode cX1_copyFrom 61 = .ok (.aload_n 1, 1) := by decide +kernel
theorem dX1_copyFrom_62 : decode cX1_copyFrom 62 = .ok (.getfield 40, 3) := by decide +kernel
theorem dX1_copyFrom_65 : decode cX1_copyFrom 65 = .ok (.putfield 40, 3) := by decide +kernel
theorem dX1_copyFrom_68 : decode cX1_copyFrom 68 = .ok (.aload_n 0, 1) := by decide +kernel
theorem dX1_copyFrom_69 : decode cX1_copyFrom 69 = .ok (.aload_n 1, 1) := by decide +kernel
theorem dX1_copyFrom_70 : decode cX1_copyFrom 70 = .ok (.getfield 43, 3) := by decide +kernel
theorem dX1_copyFrom_73 : decode cX1_copyFrom 73 = .ok (.putfield 43, 3) := by decide +kernel
theorem dX1_copyFrom_76 : decode cX1_copyFrom 76 = .ok (.aload_n 0, 1) := by decide +kernel
theorem dX1_copyFrom_77 : decode cX1_copyFrom 77 = .ok (.aload_n 1, 1) := by decide +kernel
theorem dX1_copyFrom_78 : decode cX1_copyFrom 78 = .ok (.getfield 47, 3) := by decide +kernel
theorem dX1_copyFrom_81 : decode cX1_copyFrom 81 = .ok (.putfield 47, 3) := by decide +kernel
theorem dX1_copyFrom_84 : decode cX1_copyFrom 84 = .ok (.aload_n 0, 1) := by decide +kernel
theorem dX1_copyFrom_85 : decode cX1_copyFrom 85 = .ok (.aload_n 1, 1) := by decide +kernel
theorem dX1_copyFrom_86 : decode cX1_copyFrom 86 = .ok (.getfield 50, 3) := by decide +kernel
theorem dX1_copyFrom_89 : decode cX1_copyFrom 89 = .ok (.putfield 50, 3) := by decide +kernel
theorem dX1_copyFrom_92 : decode cX1_copyFrom 92 = .ok (.return_, 1) := by decide +kernel
theorem dX1_fighterCount_0 : decode cX1_fighterCount 0 = .ok (.aload_n 0, 1) := by decide +kernel
theorem dX1_fighterCount_1 : decode cX1_fighterCount 1 = .ok (.getfield 16, 3) := by decide +kernel
theorem dX1_fighterCount_4 : decode cX1_fighterCount 4 = .ok (.invokevirtual 60, 3) := by decide +kernel
theorem dX1_fighterCount_7 : decode cX1_fighterCount 7 = .ok (.ireturn, 1) := by decide +kernel
theorem dX1_isFighter_0 : decode cX1_isFighter 0 = .ok (.iload_n 1, 1) := by decide +kernel
theorem dX1_isFighter_1 : decode cX1_isFighter 1 = .ok (.ifCond .lt 18, 3) := by decide +kernel
theorem dX1_isFighter_4 : decode cX1_isFighter 4 = .ok (.iload_n 1, 1) := by decide +kernel
theorem dX1_isFighter_5 : decode cX1_isFighter 5 = .ok (.aload_n 0, 1) := by decide +kernel
theorem dX1_isFighter_6 : decode cX1_isFighter 6 = .ok (.getfield 16, 3) := by decide +kernel
theorem dX1_isFighter_9 : decode cX1_isFighter 9 = .ok (.invokevirtual 60, 3) := by decide +kernel
theorem dX1_isFighter_12 : decode cX1_isFighter 12 = .ok (.if_icmp .ge 7, 3) := by decide +kernel
theorem dX1_isFighter_15 : decode cX1_isFighter 15 = .ok (.iconst 1, 1) := by decide +kernel
theorem dX1_isFighter_16 : decode cX1_isFighter 16 = .ok (.goto 4, 3) := by decide +kernel
theorem dX1_isFighter_19 : decode cX1_isFighter 19 = .ok (.iconst 0, 1) := by decide +kernel
theorem dX1_isFighter_20 : decode cX1_isFighter 20 = .ok (.ireturn, 1) := by decide +kernel
theorem dX1_presentSpeed_0 : decode cX1_presentSpeed 0 = .ok (.aload_n 0, 1) := by decide +kernel
theorem dX1_presentSpeed_1 : decode cX1_presentSpeed 1 = .ok (.getfield 23, 3) := by decide +kernel
theorem dX1_presentSpeed_4 : decode cX1_presentSpeed 4 = .ok (.iload_n 1, 1) := by decide +kernel
theorem dX1_presentSpeed_5 : decode cX1_presentSpeed 5 = .ok (.iconst 1, 1) := by decide +kernel
theorem dX1_presentSpeed_6 : decode cX1_presentSpeed 6 = .ok (.invokevirtual 107, 3) := by decide +kernel
theorem dX1_presentSpeed_9 : decode cX1_presentSpeed 9 = .ok (.istore_n 2, 1) := by decide +kernel
theorem dX1_presentSpeed_10 : decode cX1_presentSpeed 10 = .ok (.aload_n 0, 1) := by decide +kernel
theorem dX1_presentSpeed_11 : decode cX1_presentSpeed 11 = .ok (.getfield 23, 3) := by decide +kernel
theorem dX1_presentSpeed_14 : decode cX1_presentSpeed 14 = .ok (.iload_n 1, 1) := by decide +kernel
theorem dX1_presentSpeed_15 : decode cX1_presentSpeed 15 = .ok (.iconst 2, 1) := by decide +kernel
theorem dX1_presentSpeed_16 : decode cX1_presentSpeed 16 = .ok (.invokevirtual 107, 3) := by decide +kernel
theorem dX1_presentSpeed_19 : decode cX1_presentSpeed 19 = .ok (.istore_n 3, 1) := by decide +kernel
theorem dX1_presentSpeed_20 : decode cX1_presentSpeed 20 = .ok (.iconst 1, 1) := by decide +kernel
theorem dX1_presentSpeed_21 : decode cX1_presentSpeed 21 = .ok (.aload_n 0, 1) := by decide +kernel
theorem dX1_presentSpeed_22 : decode cX1_presentSpeed 22 = .ok (.getfield 16, 3) := by decide +kernel
theorem dX1_presentSpeed_25 : decode cX1_presentSpeed 25 = .ok (.iload_n 1, 1) := by decide +kernel
theorem dX1_presentSpeed_26 : decode cX1_presentSpeed 26 = .ok (.iconst 0, 1) := by decide +kernel
theorem dX1_presentSpeed_27 : decode cX1_presentSpeed 27 = .ok (.invokevirtual 64, 3) := by decide +kernel
theorem dX1_presentSpeed_30 : decode cX1_presentSpeed 30 = .ok (.iload_n 2, 1) := by decide +kernel
theorem dX1_presentSpeed_31 : decode cX1_presentSpeed 31 = .ok (.iadd, 1) := by decide +kernel
theorem dX1_presentSpeed_32 : decode cX1_presentSpeed 32 = .ok (.iload_n 3, 1) := by decide +kernel
theorem dX1_presentSpeed_33 : decode cX1_presentSpeed 33 = .ok (.isub, 1) := by decide +kernel
theorem dX1_presentSpeed_34 : decode cX1_presentSpeed 34 = .ok (.invokestatic 110, 3) := by decide +kernel
theorem dX1_presentSpeed_37 : decode cX1_presentSpeed 37 = .ok (.ireturn, 1) := by decide +kernel
theorem dX1_placeOf_0 : decode cX1_placeOf 0 = .ok (.iconst 0, 1) := by decide +kernel
theorem dX1_placeOf_1 : decode cX1_placeOf 1 = .ok (.istore_n 2, 1) := by decide +kernel
theorem dX1_placeOf_2 : decode cX1_placeOf 2 = .ok (.iload_n 2, 1) := by decide +kernel
theorem dX1_placeOf_3 : decode cX1_placeOf 3 = .ok (.aload_n 0, 1) := by decide +kernel
theorem dX1_placeOf_4 : decode cX1_placeOf 4 = .ok (.getfield 27, 3) := by decide +kernel
theorem dX1_placeOf_7 : decode cX1_placeOf 7 = .ok (.invokevirtual 60, 3) := by decide +kernel
theorem dX1_placeOf_10 : decode cX1_placeOf 10 = .ok (.if_icmp .ge 24, 3) := by decide +kernel
theorem dX1_placeOf_13 : decode cX1_placeOf 13 = .ok (.aload_n 0, 1) := by decide +kernel
theorem dX1_placeOf_14 : decode cX1_placeOf 14 = .ok (.getfield 27, 3) := by decide +kernel
theorem dX1_placeOf_17 : decode cX1_placeOf 17 = .ok (.iload_n 2, 1) := by decide +kernel
theorem dX1_placeOf_18 : decode cX1_placeOf 18 = .ok (.iconst 0, 1) := by decide +kernel
theorem dX1_placeOf_19 : decode cX1_placeOf 19 = .ok (.invokevirtual 64, 3) := by decide +kernel
theorem dX1_placeOf_22 : decode cX1_placeOf 22 = .ok (.iload_n 1, 1) := by decide +kernel
theorem dX1_placeOf_23 : decode cX1_placeOf 23 = .ok (.if_icmp .ne 5, 3) := by decide +kernel
theorem dX1_placeOf_26 : decode cX1_placeOf 26 = .ok (.iload_n 2, 1) := by decide +kernel
theorem dX1_placeOf_27 : decode cX1_placeOf 27 = .ok (.ireturn, 1) := by decide +kernel
theorem dX1_placeOf_28 : decode cX1_placeOf 28 = .ok (.iinc 2 1, 3) := by decide +kernel
theorem dX1_placeOf_31 : decode cX1_placeOf 31 = .ok (.goto (-29), 3) := by decide +kernel
theorem dX1_placeOf_34 : decode cX1_placeOf 34 = .ok (.iconst (-1), 1) := by decide +kernel
theorem dX1_placeOf_35 : decode cX1_placeOf 35 = .ok (.ireturn, 1) := by decide +kernel
theorem dX1_stateOf_0 : decode cX1_stateOf 0 = .ok (.aload_n 0, 1) := by decide +kernel
theorem dX1_stateOf_1 : decode cX1_stateOf 1 = .ok (.getfield 27, 3) := by decide +kernel
theorem dX1_stateOf_4 : decode cX1_stateOf 4 = .ok (.aload_n 0, 1) := by decide +kernel
theorem dX1_stateOf_5 : decode cX1_stateOf 5 = .ok (.iload_n 1, 1) := by decide +kernel
theorem dX1_stateOf_6 : decode cX1_stateOf 6 = .ok (.invokevirtual 75, 3) := by decide +kernel
theorem dX1_stateOf_9 : decode cX1_stateOf 9 = .ok (.iconst 1, 1) := by decide +kernel
theorem dX1_stateOf_10 : decode cX1_stateOf 10 = .ok (.invokevirtual 64, 3) := by decide +kernel
theorem dX1_stateOf_13 : decode cX1_stateOf 13 = .ok (.ireturn, 1) := by decide +kernel
theorem dX1_aboutFighter_0 : decode cX1_aboutFighter 0 = .ok (.iload_n 2, 1) := by decide +kernel
theorem dX1_aboutFighter_1 : decode cX1_aboutFighter 1 = .ok (.tableswitch 114 0 7 #[47, 57, 67, 77, 83, 93, 99, 105], 47) := by decide +kernel
theorem dX1_aboutFighter_48 : decode cX1_aboutFighter 48 = .ok (.aload_n 0, 1) := by decide +kernel
theorem dX1_aboutFighter_49 : decode cX1_aboutFighter 49 = .ok (.getfield 16, 3) := by decide +kernel
theorem dX1_aboutFighter_52 : decode cX1_aboutFighter 52 = .ok (.iload_n 1, 1) := by decide +kernel
theorem dX1_aboutFighter_53 : decode cX1_aboutFighter 53 = .ok (.iconst 0, 1) := by decide +kernel
theorem dX1_aboutFighter_54 : decode cX1_aboutFighter 54 = .ok (.invokevirtual 64, 3) := by decide +kernel
theorem dX1_aboutFighter_57 : decode cX1_aboutFighter 57 = .ok (.ireturn, 1) := by decide +kernel
theorem dX1_aboutFighter_58 : decode cX1_aboutFighter 58 = .ok (.aload_n 0, 1) := by decide +kernel
theorem dX1_aboutFighter_59 : decode cX1_aboutFighter 59 = .ok (.getfield 16, 3) := by decide +kernel
theorem dX1_aboutFighter_62 : decode cX1_aboutFighter 62 = .ok (.iload_n 1, 1) := by decide +kernel
theorem dX1_aboutFighter_63 : decode cX1_aboutFighter 63 = .ok (.iconst 1, 1) := by decide +kernel
theorem dX1_aboutFighter_64 : decode cX1_aboutFighter 64 = .ok (.invokevirtual 64, 3) := by decide +kernel
theorem dX1_aboutFighter_67 : decode cX1_aboutFighter 67 = .ok (.ireturn, 1) := by decide +kernel
theorem dX1_aboutFighter_68 : decode cX1_aboutFighter 68 = .ok (.aload_n 0, 1) := by decide +kernel
theorem dX1_aboutFighter_69 : decode cX1_aboutFighter 69 = .ok (.getfield 16, 3) := by decide +kernel
theorem dX1_aboutFighter_72 : decode cX1_aboutFighter 72 = .ok (.iload_n 1, 1) := by decide +kernel
theorem dX1_aboutFighter_73 : decode cX1_aboutFighter 73 = .ok (.iconst 2, 1) := by decide +kernel
theorem dX1_aboutFighter_74 : decode cX1_aboutFighter 74 = .ok (.invokevirtual 64, 3) := by decide +kernel
theorem dX1_aboutFighter_77 : decode cX1_aboutFighter 77 = .ok (.ireturn, 1) := by decide +kernel
theorem dX1_aboutFighter_78 : decode cX1_aboutFighter 78 = .ok (.aload_n 0, 1) := by decide +kernel
theorem dX1_aboutFighter_79 : decode cX1_aboutFighter 79 = .ok (.iload_n 1, 1) := by decide +kernel
theorem dX1_aboutFighter_80 : decode cX1_aboutFighter 80 = .ok (.invokevirtual 68, 3) := by decide +kernel
theorem dX1_aboutFighter_83 : decode cX1_aboutFighter 83 = .ok (.ireturn, 1) := by decide +kernel
theorem dX1_aboutFighter_84 : decode cX1_aboutFighter 84 = .ok (.aload_n 0, 1) := by decide +kernel
theorem dX1_aboutFighter_85 : decode cX1_aboutFighter 85 = .ok (.getfield 16, 3) := by decide +kernel
theorem dX1_aboutFighter_88 : decode cX1_aboutFighter 88 = .ok (.iload_n 1, 1) := by decide +kernel
theorem dX1_aboutFighter_89 : decode cX1_aboutFighter 89 = .ok (.iconst 3, 1) := by decide +kernel
theorem dX1_aboutFighter_90 : decode cX1_aboutFighter 90 = .ok (.invokevirtual 64, 3) := by decide +kernel
theorem dX1_aboutFighter_93 : decode cX1_aboutFighter 93 = .ok (.ireturn, 1) := by decide +kernel
theorem dX1_aboutFighter_94 : decode cX1_aboutFighter 94 = .ok (.aload_n 0, 1) := by decide +kernel
theorem dX1_aboutFighter_95 : decode cX1_aboutFighter 95 = .ok (.iload_n 1, 1) := by decide +kernel
theorem dX1_aboutFighter_96 : decode cX1_aboutFighter 96 = .ok (.invokevirtual 72, 3) := by decide +kernel
theorem dX1_aboutFighter_99 : decode cX1_aboutFighter 99 = .ok (.ireturn, 1) := by decide +kernel
theorem dX1_aboutFighter_100 : decode cX1_aboutFighter 100 = .ok (.aload_n 0, 1) := by decide +kernel
theorem dX1_aboutFighter_101 : decode cX1_aboutFighter 101 = .ok (.iload_n 1, 1) := by decide +kernel
theorem dX1_aboutFighter_102 : decode cX1_aboutFighter 102 = .ok (.invokevirtual 75, 3) := by decide +kernel
theorem dX1_aboutFighter_105 : decode cX1_aboutFighter 105 = .ok (.ireturn, 1) := by decide +kernel
theorem dX1_aboutFighter_106 : decode cX1_aboutFighter 106 = .ok (.aload_n 0, 1) := by decide +kernel
theorem dX1_aboutFighter_107 : decode cX1_aboutFighter 107 = .ok (.getfield 23, 3) := by decide +kernel
theorem dX1_aboutFighter_110 : decode cX1_aboutFighter 110 = .ok (.iload_n 1, 1) := by decide +kernel
theorem dX1_aboutFighter_111 : decode cX1_aboutFighter 111 = .ok (.invokevirtual 78, 3) := by decide +kernel
theorem dX1_aboutFighter_114 : decode cX1_aboutFighter 114 = .ok (.ireturn, 1) := by decide +kernel
theorem dX1_aboutFighter_115 : decode cX1_aboutFighter 115 = .ok (.aload_n 0, 1) := by decide +kernel
theorem dX1_aboutFighter_116 : decode cX1_aboutFighter 116 = .ok (.getfield 23, 3) := by decide +kernel
theorem dX1_aboutFighter_119 : decode cX1_aboutFighter 119 = .ok (.iload_n 1, 1) := by decide +kernel
theorem dX1_aboutFighter_120 : decode cX1_aboutFighter 120 = .ok (.invokevirtual 81, 3) := by decide +kernel
theorem dX1_aboutFighter_123 : decode cX1_aboutFighter 123 = .ok (.ireturn, 1) := by decide +kernel
theorem dX1_effectCount_0 : decode cX1_effectCount 0 = .ok (.aload_n 0, 1) := by decide +kernel
theorem dX1_effectCount_1 : decode cX1_effectCount 1 = .ok (.getfield 23, 3) := by decide +kernel
theorem dX1_effectCount_4 : decode cX1_effectCount 4 = .ok (.invokevirtual 84, 3) := by decide +kernel
theorem dX1_effectCount_7 : decode cX1_effectCount 7 = .ok (.ireturn, 1) := by decide +kernel
theorem dX1_aboutEffect_0 : decode cX1_aboutEffect 0 = .ok (.aload_n 0, 1) := by decide +kernel
theorem dX1_aboutEffect_1 : decode cX1_aboutEffect 1 = .ok (.getfield 23, 3) := by decide +kernel
theorem dX1_aboutEffect_4 : decode cX1_aboutEffect 4 = .ok (.iload_n 1, 1) := by decide +kernel
theorem dX1_aboutEffect_5 : decode cX1_aboutEffect 5 = .ok (.iload_n 2, 1) := by decide +kernel
theorem dX1_aboutEffect_6 : decode cX1_aboutEffect 6 = .ok (.invokevirtual 85, 3) := by decide +kernel
theorem dX1_aboutEffect_9 : decode cX1_aboutEffect 9 = .ok (.ireturn, 1) := by decide +kernel
theorem dX1_birthOf_0 : decode cX1_birthOf 0 = .ok (.aload_n 0, 1) := by decide +kernel
theorem dX1_birthOf_1 : decode cX1_birthOf 1 = .ok (.getfield 23, 3) := by decide +kernel
theorem dX1_birthOf_4 : decode cX1_birthOf 4 = .ok (.iload_n 1, 1) := by decide +kernel
theorem dX1_birthOf_5 : decode cX1_birthOf 5 = .ok (.invokevirtual 88, 3) := by decide +kernel
theorem dX1_birthOf_8 : decode cX1_birthOf 8 = .ok (.ireturn, 1) := by decide +kernel
theorem dX1_hasEffectBorn_0 : decode cX1_hasEffectBorn 0 = .ok (.aload_n 0, 1) := by decide +kernel
theorem dX1_hasEffectBorn_1 : decode cX1_hasEffectBorn 1 = .ok (.getfield 23, 3) := by decide +kernel
theorem dX1_hasEffectBorn_4 : decode cX1_hasEffectBorn 4 = .ok (.iload_n 1, 1) := by decide +kernel
theorem dX1_hasEffectBorn_5 : decode cX1_hasEffectBorn 5 = .ok (.invokevirtual 91, 3) := by decide +kernel
theorem dX1_hasEffectBorn_8 : decode cX1_hasEffectBorn 8 = .ok (.ireturn, 1) := by decide +kernel
theorem dX1_stands_0 : decode cX1_stands 0 = .ok (.aload_n 0, 1) := by decide +kernel
theorem dX1_stands_1 : decode cX1_stands 1 = .ok (.getfield 16, 3) := by decide +kernel
theorem dX1_stands_4 : decode cX1_stands 4 = .ok (.iload_n 1, 1) := by decide +kernel
theorem dX1_stands_5 : decode cX1_stands 5 = .ok (.iconst 2, 1) := by decide +kernel
theorem dX1_stands_6 : decode cX1_stands 6 = .ok (.invokevirtual 64, 3) := by decide +kernel
theorem dX1_stands_9 : decode cX1_stands 9 = .ok (.ifCond .le 7, 3) := by decide +kernel
theorem dX1_stands_12 : decode cX1_stands 12 = .ok (.iconst 1, 1) := by decide +kernel
theorem dX1_stands_13 : decode cX1_stands 13 = .ok (.goto 4, 3) := by decide +kernel
theorem dX1_stands_16 : decode cX1_stands 16 = .ok (.iconst 0, 1) := by decide +kernel
theorem dX1_stands_17 : decode cX1_stands 17 = .ok (.ireturn, 1) := by decide +kernel
theorem dX1_standing_0 : decode cX1_standing 0 = .ok (.iconst 0, 1) := by decide +kernel
theorem dX1_standing_1 : decode cX1_standing 1 = .ok (.istore_n 1, 1) := by decide +kernel
theorem dX1_standing_2 : decode cX1_standing 2 = .ok (.iconst 0, 1) := by decide +kernel
theorem dX1_standing_3 : decode cX1_standing 3 = .ok (.istore_n 2, 1) := by decide +kernel
theorem dX1_standing_4 : decode cX1_standing 4 = .ok (.iload_n 2, 1) := by decide +kernel
theorem dX1_standing_5 : decode cX1_standing 5 = .ok (.aload_n 0, 1) := by decide +kernel
theorem dX1_standing_6 : decode cX1_standing 6 = .ok (.getfield 16, 3) := by decide +kernel
theorem dX1_standing_9 : decode cX1_standing 9 = .ok (.invokevirtual 60, 3) := by decide +kernel
theorem dX1_standing_12 : decode cX1_standing 12 = .ok (.if_icmp .ge 20, 3) := by decide +kernel
theorem dX1_standing_15 : decode cX1_standing 15 = .ok (.aload_n 0, 1) := by decide +kernel
theorem dX1_standing_16 : decode cX1_standing 16 = .ok (.iload_n 2, 1) := by decide +kernel
theorem dX1_standing_17 : decode cX1_standing 17 = .ok (.invokevirtual 104, 3) := by decide +kernel
theorem dX1_standing_20 : decode cX1_standing 20 = .ok (.ifCond .eq 6, 3) := by decide +kernel
theorem dX1_standing_23 : decode cX1_standing 23 = .ok (.iinc 1 1, 3) := by decide +kernel
theorem dX1_standing_26 : decode cX1_standing 26 = .ok (.iinc 2 1, 3) := by decide +kernel
theorem dX1_standing_29 : decode cX1_standing 29 = .ok (.goto (-25), 3) := by decide +kernel
theorem dX1_standing_32 : decode cX1_standing 32 = .ok (.iload_n 1, 1) := by decide +kernel
theorem dX1_standing_33 : decode cX1_standing 33 = .ok (.ireturn, 1) := by decide +kernel
theorem dX1_number_0 : decode cX1_number 0 = .ok (.iload_n 1, 1) := by decide +kernel
theorem dX1_number_1 : decode cX1_number 1 = .ok (.tableswitch 96 0 7 #[47, 55, 60, 68, 73, 78, 86, 91], 47) := by decide +kernel
theorem dX1_number_48 : decode cX1_number 48 = .ok (.aload_n 0, 1) := by decide +kernel
theorem dX1_number_49 : decode cX1_number 49 = .ok (.getfield 16, 3) := by decide +kernel
theorem dX1_number_52 : decode cX1_number 52 = .ok (.invokevirtual 60, 3) := by decide +kernel
theorem dX1_number_55 : decode cX1_number 55 = .ok (.ireturn, 1) := by decide +kernel
theorem dX1_number_56 : decode cX1_number 56 = .ok (.aload_n 0, 1) := by decide +kernel
theorem dX1_number_57 : decode cX1_number 57 = .ok (.invokevirtual 95, 3) := by decide +kernel
theorem dX1_number_60 : decode cX1_number 60 = .ok (.ireturn, 1) := by decide +kernel
theorem dX1_number_61 : decode cX1_number 61 = .ok (.aload_n 0, 1) := by decide +kernel
theorem dX1_number_62 : decode cX1_number 62 = .ok (.getfield 23, 3) := by decide +kernel
theorem dX1_number_65 : decode cX1_number 65 = .ok (.invokevirtual 84, 3) := by decide +kernel
theorem dX1_number_68 : decode cX1_number 68 = .ok (.ireturn, 1) := by decide +kernel
theorem dX1_number_69 : decode cX1_number 69 = .ok (.aload_n 0, 1) := by decide +kernel
theorem dX1_number_70 : decode cX1_number 70 = .ok (.getfield 33, 3) := by decide +kernel
theorem dX1_number_73 : decode cX1_number 73 = .ok (.ireturn, 1) := by decide +kernel
theorem dX1_number_74 : decode cX1_number 74 = .ok (.aload_n 0, 1) := by decide +kernel
theorem dX1_number_75 : decode cX1_number 75 = .ok (.getfield 37, 3) := by decide +kernel
theorem dX1_number_78 : decode cX1_number 78 = .ok (.ireturn, 1) := by decide +kernel
theorem dX1_number_79 : decode cX1_number 79 = .ok (.aload_n 0, 1) := by decide +kernel
theorem dX1_number_80 : decode cX1_number 80 = .ok (.getfield 30, 3) := by decide +kernel
theorem dX1_number_83 : decode cX1_number 83 = .ok (.invokevirtual 60, 3) := by decide +kernel
theorem dX1_number_86 : decode cX1_number 86 = .ok (.ireturn, 1) := by decide +kernel
theorem dX1_number_87 : decode cX1_number 87 = .ok (.aload_n 0, 1) := by decide +kernel
theorem dX1_number_88 : decode cX1_number 88 = .ok (.getfield 47, 3) := by decide +kernel
theorem dX1_number_91 : decode cX1_number 91 = .ok (.ireturn, 1) := by decide +kernel
theorem dX1_number_92 : decode cX1_number 92 = .ok (.aload_n 0, 1) := by decide +kernel
theorem dX1_number_93 : decode cX1_number 93 = .ok (.getfield 50, 3) := by decide +kernel
theorem dX1_number_96 : decode cX1_number 96 = .ok (.ireturn, 1) := by decide +kernel
theorem dX1_number_97 : decode cX1_number 97 = .ok (.aload_n 0, 1) := by decide +kernel
theorem dX1_number_98 : decode cX1_number 98 = .ok (.getfield 23, 3) := by decide +kernel
theorem dX1_number_101 : decode cX1_number 101 = .ok (.invokevirtual 98, 3) := by decide +kernel
theorem dX1_number_104 : decode cX1_number 104 = .ok (.ireturn, 1) := by decide +kernel
theorem dX1_listLength_0 : decode cX1_listLength 0 = .ok (.aload_n 0, 1) := by decide +kernel
theorem dX1_listLength_1 : decode cX1_listLength 1 = .ok (.getfield 27, 3) := by decide +kernel
theorem dX1_listLength_4 : decode cX1_listLength 4 = .ok (.invokevirtual 60, 3) := by decide +kernel
theorem dX1_listLength_7 : decode cX1_listLength 7 = .ok (.ireturn, 1) := by decide +kernel
theorem dX1_listed_0 : decode cX1_listed 0 = .ok (.aload_n 0, 1) := by decide +kernel
theorem dX1_listed_1 : decode cX1_listed 1 = .ok (.getfield 27, 3) := by decide +kernel
theorem dX1_listed_4 : decode cX1_listed 4 = .ok (.iload_n 1, 1) := by decide +kernel
theorem dX1_listed_5 : decode cX1_listed 5 = .ok (.iconst 0, 1) := by decide +kernel
theorem dX1_listed_6 : decode cX1_listed 6 = .ok (.invokevirtual 64, 3) := by decide +kernel
theorem dX1_listed_9 : decode cX1_listed 9 = .ok (.ireturn, 1) := by decide +kernel
theorem dX1_stackSize_0 : decode cX1_stackSize 0 = .ok (.aload_n 0, 1) := by decide +kernel
theorem dX1_stackSize_1 : decode cX1_stackSize 1 = .ok (.getfield 30, 3) := by decide +kernel
theorem dX1_stackSize_4 : decode cX1_stackSize 4 = .ok (.invokevirtual 60, 3) := by decide +kernel
theorem dX1_stackSize_7 : decode cX1_stackSize 7 = .ok (.ireturn, 1) := by decide +kernel
theorem dX1_aboutAct_0 : decode cX1_aboutAct 0 = .ok (.aload_n 0, 1) := by decide +kernel
theorem dX1_aboutAct_1 : decode cX1_aboutAct 1 = .ok (.getfield 30, 3) := by decide +kernel
theorem dX1_aboutAct_4 : decode cX1_aboutAct 4 = .ok (.aload_n 0, 1) := by decide +kernel
theorem dX1_aboutAct_5 : decode cX1_aboutAct 5 = .ok (.getfield 30, 3) := by decide +kernel
theorem dX1_aboutAct_8 : decode cX1_aboutAct 8 = .ok (.invokevirtual 60, 3) := by decide +kernel
theorem dX1_aboutAct_11 : decode cX1_aboutAct 11 = .ok (.iconst 1, 1) := by decide +kernel
theorem dX1_aboutAct_12 : decode cX1_aboutAct 12 = .ok (.isub, 1) := by decide +kernel
theorem dX1_aboutAct_13 : decode cX1_aboutAct 13 = .ok (.iload_n 1, 1) := by decide +kernel
theorem dX1_aboutAct_14 : decode cX1_aboutAct 14 = .ok (.isub, 1) := by decide +kernel
theorem dX1_aboutAct_15 : decode cX1_aboutAct 15 = .ok (.iload_n 2, 1) := by decide +kernel
theorem dX1_aboutAct_16 : decode cX1_aboutAct 16 = .ok (.invokevirtual 64, 3) := by decide +kernel
theorem dX1_aboutAct_19 : decode cX1_aboutAct 19 = .ok (.ireturn, 1) := by decide +kernel
theorem dX1_presentTurn_0 : decode cX1_presentTurn 0 = .ok (.aload_n 0, 1) := by decide +kernel
theorem dX1_presentTurn_1 : decode cX1_presentTurn 1 = .ok (.getfield 37, 3) := by decide +kernel
theorem dX1_presentTurn_4 : decode cX1_presentTurn 4 = .ok (.ireturn, 1) := by decide +kernel
theorem dX1_total_0 : decode cX1_total 0 = .ok (.iconst 0, 1) := by decide +kernel
theorem dX1_total_1 : decode cX1_total 1 = .ok (.istore_n 2, 1) := by decide +kernel
theorem dX1_total_2 : decode cX1_total 2 = .ok (.iconst 0, 1) := by decide +kernel
theorem dX1_total_3 : decode cX1_total 3 = .ok (.istore_n 3, 1) := by decide +kernel
theorem dX1_total_4 : decode cX1_total 4 = .ok (.iload_n 3, 1) := by decide +kernel
theorem dX1_total_5 : decode cX1_total 5 = .ok (.aload_n 0, 1) := by decide +kernel
theorem dX1_total_6 : decode cX1_total 6 = .ok (.getfield 16, 3) := by decide +kernel
theorem dX1_total_9 : decode cX1_total 9 = .ok (.invokevirtual 60, 3) := by decide +kernel
theorem dX1_total_12 : decode cX1_total 12 = .ok (.if_icmp .ge 21, 3) := by decide +kernel
theorem dX1_total_15 : decode cX1_total 15 = .ok (.iload_n 2, 1) := by decide +kernel
theorem dX1_total_16 : decode cX1_total 16 = .ok (.aload_n 0, 1) := by decide +kernel
theorem dX1_total_17 : decode cX1_total 17 = .ok (.getfield 16, 3) := by decide +kernel
theorem dX1_total_20 : decode cX1_total 20 = .ok (.iload_n 3, 1) := by decide +kernel
theorem dX1_total_21 : decode cX1_total 21 = .ok (.iload_n 1, 1) := by decide +kernel
theorem dX1_total_22 : decode cX1_total 22 = .ok (.invokevirtual 64, 3) := by decide +kernel
theorem dX1_total_25 : decode cX1_total 25 = .ok (.iadd, 1) := by decide +kernel
theorem dX1_total_26 : decode cX1_total 26 = .ok (.istore_n 2, 1) := by decide +kernel
theorem dX1_total_27 : decode cX1_total 27 = .ok (.iinc 3 1, 3) := by decide +kernel
theorem dX1_total_30 : decode cX1_total 30 = .ok (.goto (-26), 3) := by decide +kernel
theorem dX1_total_33 : decode cX1_total 33 = .ok (.iload_n 2, 1) := by decide +kernel
theorem dX1_total_34 : decode cX1_total 34 = .ok (.ireturn, 1) := by decide +kernel
theorem dX1_lives_0 : decode cX1_lives 0 = .ok (.aload_n 0, 1) := by decide +kernel
theorem dX1_lives_1 : decode cX1_lives 1 = .ok (.iconst 2, 1) := by decide +kernel
theorem dX1_lives_2 : decode cX1_lives 2 = .ok (.invokevirtual 101, 3) := by decide +kernel
theorem dX1_lives_5 : decode cX1_lives 5 = .ok (.ireturn, 1) := by decide +kernel
theorem dX1_join_0 : decode cX1_join 0 = .ok (.aload_n 0, 1) := by decide +kernel
theorem dX1_join_1 : decode cX1_join 1 = .ok (.getfield 16, 3) := by decide +kernel
theorem dX1_join_4 : decode cX1_join 4 = .ok (.invokevirtual 60, 3) := by decide +kernel
theorem dX1_join_7 : decode cX1_join 7 = .ok (.istore_n 3, 1) := by decide +kernel
theorem dX1_join_8 : decode cX1_join 8 = .ok (.aload_n 0, 1) := by decide +kernel
theorem dX1_join_9 : decode cX1_join 9 = .ok (.getfield 16, 3) := by decide +kernel
theorem dX1_join_12 : decode cX1_join 12 = .ok (.iload_n 3, 1) := by decide +kernel
theorem dX1_join_13 : decode cX1_join 13 = .ok (.invokevirtual 115, 3) := by decide +kernel
theorem dX1_join_16 : decode cX1_join 16 = .ok (.aload_n 0, 1) := by decide +kernel
theorem dX1_join_17 : decode cX1_join 17 = .ok (.getfield 16, 3) := by decide +kernel
theorem dX1_join_20 : decode cX1_join 20 = .ok (.iload_n 3, 1) := by decide +kernel
theorem dX1_join_21 : decode cX1_join 21 = .ok (.iconst 0, 1) := by decide +kernel
theorem dX1_join_22 : decode cX1_join 22 = .ok (.iload_n 1, 1) := by decide +kernel
theorem dX1_join_23 : decode cX1_join 23 = .ok (.invokevirtual 119, 3) := by decide +kernel
theorem dX1_join_26 : decode cX1_join 26 = .ok (.aload_n 0, 1) := by decide +kernel
theorem dX1_join_27 : decode cX1_join 27 = .ok (.getfield 16, 3) := by decide +kernel
theorem dX1_join_30 : decode cX1_join 30 = .ok (.iload_n 3, 1) := by decide +kernel
theorem dX1_join_31 : decode cX1_join 31 = .ok (.iconst 1, 1) := by decide +kernel
theorem dX1_join_32 : decode cX1_join 32 = .ok (.iload_n 2, 1) := by decide +kernel
theorem dX1_join_33 : decode cX1_join 33 = .ok (.invokevirtual 119, 3) := by decide +kernel
theorem dX1_join_36 : decode cX1_join 36 = .ok (.aload_n 0, 1) := by decide +kernel
theorem dX1_join_37 : decode cX1_join 37 = .ok (.getfield 16, 3) := by decide +kernel
theorem dX1_join_40 : decode cX1_join 40 = .ok (.iload_n 3, 1) := by decide +kernel
theorem dX1_join_41 : decode cX1_join 41 = .ok (.iconst 2, 1) := by decide +kernel
theorem dX1_join_42 : decode cX1_join 42 = .ok (.iload_n 2, 1) := by decide +kernel
theorem dX1_join_43 : decode cX1_join 43 = .ok (.invokevirtual 119, 3) := by decide +kernel
theorem dX1_join_46 : decode cX1_join 46 = .ok (.aload_n 0, 1) := by decide +kernel
theorem dX1_join_47 : decode cX1_join 47 = .ok (.getfield 16, 3) := by decide +kernel
theorem dX1_join_50 : decode cX1_join 50 = .ok (.iload_n 3, 1) := by decide +kernel
theorem dX1_join_51 : decode cX1_join 51 = .ok (.iconst 3, 1) := by decide +kernel
theorem dX1_join_52 : decode cX1_join 52 = .ok (.iconst 1, 1) := by decide +kernel
theorem dX1_join_53 : decode cX1_join 53 = .ok (.invokevirtual 119, 3) := by decide +kernel
theorem dX1_join_56 : decode cX1_join 56 = .ok (.iload_n 3, 1) := by decide +kernel
theorem dX1_join_57 : decode cX1_join 57 = .ok (.ireturn, 1) := by decide +kernel
theorem dX1_changeSpeed_0 : decode cX1_changeSpeed 0 = .ok (.aload_n 0, 1) := by decide +kernel
theorem dX1_changeSpeed_1 : decode cX1_changeSpeed 1 = .ok (.getfield 16, 3) := by decide +kernel
theorem dX1_changeSpeed_4 : decode cX1_changeSpeed 4 = .ok (.iload_n 1, 1) := by decide +kernel
theorem dX1_changeSpeed_5 : decode cX1_changeSpeed 5 = .ok (.iconst 0, 1) := by decide +kernel
theorem dX1_changeSpeed_6 : decode cX1_changeSpeed 6 = .ok (.invokevirtual 64, 3) := by decide +kernel
theorem dX1_changeSpeed_9 : decode cX1_changeSpeed 9 = .ok (.istore_n 3, 1) := by decide +kernel
theorem dX1_changeSpeed_10 : decode cX1_changeSpeed 10 = .ok (.aload_n 0, 1) := by decide +kernel
theorem dX1_changeSpeed_11 : decode cX1_changeSpeed 11 = .ok (.getfield 16, 3) := by decide +kernel
theorem dX1_changeSpeed_14 : decode cX1_changeSpeed 14 = .ok (.iload_n 1, 1) := by decide +kernel
theorem dX1_changeSpeed_15 : decode cX1_changeSpeed 15 = .ok (.iconst 0, 1) := by decide +kernel
theorem dX1_changeSpeed_16 : decode cX1_changeSpeed 16 = .ok (.iload_n 2, 1) := by decide +kernel
theorem dX1_changeSpeed_17 : decode cX1_changeSpeed 17 = .ok (.invokevirtual 119, 3) := by decide +kernel
theorem dX1_changeSpeed_20 : decode cX1_changeSpeed 20 = .ok (.iload_n 3, 1) := by decide +kernel
theorem dX1_changeSpeed_21 : decode cX1_changeSpeed 21 = .ok (.ireturn, 1) := by decide +kernel
theorem dX1_changeShock_0 : decode cX1_changeShock 0 = .ok (.aload_n 0, 1) := by decide +kernel
theorem dX1_changeShock_1 : decode cX1_changeShock 1 = .ok (.getfield 47, 3) := by decide +kernel
theorem dX1_changeShock_4 : decode cX1_changeShock 4 = .ok (.istore_n 2, 1) := by decide +kernel
theorem dX1_changeShock_5 : decode cX1_changeShock 5 = .ok (.aload_n 0, 1) := by decide +kernel
theorem dX1_changeShock_6 : decode cX1_changeShock 6 = .ok (.iload_n 1, 1) := by decide +kernel
theorem dX1_changeShock_7 : decode cX1_changeShock 7 = .ok (.putfield 47, 3) := by decide +kernel
theorem dX1_changeShock_10 : decode cX1_changeShock 10 = .ok (.iload_n 2, 1) := by decide +kernel
theorem dX1_changeShock_11 : decode cX1_changeShock 11 = .ok (.ireturn, 1) := by decide +kernel
theorem dX1_mayBeginTurn_0 : decode cX1_mayBeginTurn 0 = .ok (.aload_n 0, 1) := by decide +kernel
theorem dX1_mayBeginTurn_1 : decode cX1_mayBeginTurn 1 = .ok (.getfield 37, 3) := by decide +kernel
theorem dX1_mayBeginTurn_4 : decode cX1_mayBeginTurn 4 = .ok (.iconst (-1), 1) := by decide +kernel
theorem dX1_mayBeginTurn_5 : decode cX1_mayBeginTurn 5 = .ok (.if_icmp .ne 7, 3) := by decide +kernel
theorem dX1_mayBeginTurn_8 : decode cX1_mayBeginTurn 8 = .ok (.iconst 1, 1) := by decide +kernel
theorem dX1_mayBeginTurn_9 : decode cX1_mayBeginTurn 9 = .ok (.goto 4, 3) := by decide +kernel
theorem dX1_mayBeginTurn_12 : decode cX1_mayBeginTurn 12 = .ok (.iconst 0, 1) := by decide +kernel
theorem dX1_mayBeginTurn_13 : decode cX1_mayBeginTurn 13 = .ok (.ireturn, 1) := by decide +kernel
theorem dX1_firstWaiting_0 : decode cX1_firstWaiting 0 = .ok (.iconst 0, 1) := by decide +kernel
theorem dX1_firstWaiting_1 : decode cX1_firstWaiting 1 = .ok (.istore_n 1, 1) := by decide +kernel
theorem dX1_firstWaiting_2 : decode cX1_firstWaiting 2 = .ok (.iload_n 1, 1) := by decide +kernel
theorem dX1_firstWaiting_3 : decode cX1_firstWaiting 3 = .ok (.aload_n 0, 1) := by decide +kernel
theorem dX1_firstWaiting_4 : decode cX1_firstWaiting 4 = .ok (.getfield 27, 3) := by decide +kernel
theorem dX1_firstWaiting_7 : decode cX1_firstWaiting 7 = .ok (.invokevirtual 60, 3) := by decide +kernel
theorem dX1_firstWaiting_10 : decode cX1_firstWaiting 10 = .ok (.if_icmp .ge 41, 3) := by decide +kernel
theorem dX1_firstWaiting_13 : decode cX1_firstWaiting 13 = .ok (.aload_n 0, 1) := by decide +kernel
theorem dX1_firstWaiting_14 : decode cX1_firstWaiting 14 = .ok (.getfield 27, 3) := by decide +kernel
theorem dX1_firstWaiting_17 : decode cX1_firstWaiting 17 = .ok (.iload_n 1, 1) := by decide +kernel
theorem dX1_firstWaiting_18 : decode cX1_firstWaiting 18 = .ok (.iconst 0, 1) := by decide +kernel
theorem dX1_firstWaiting_19 : decode cX1_firstWaiting 19 = .ok (.invokevirtual 64, 3) := by decide +kernel
theorem dX1_firstWaiting_22 : decode cX1_firstWaiting 22 = .ok (.istore_n 2, 1) := by decide +kernel
theorem dX1_firstWaiting_23 : decode cX1_firstWaiting 23 = .ok (.aload_n 0, 1) := by decide +kernel
theorem dX1_firstWaiting_24 : decode cX1_firstWaiting 24 = .ok (.getfield 27, 3) := by decide +kernel
theorem dX1_firstWaiting_27 : decode cX1_firstWaiting 27 = .ok (.iload_n 1, 1) := by decide +kernel
theorem dX1_firstWaiting_28 : decode cX1_firstWaiting 28 = .ok (.iconst 1, 1) := by decide +kernel
theorem dX1_firstWaiting_29 : decode cX1_firstWaiting 29 = .ok (.invokevirtual 64, 3) := by decide +kernel
theorem dX1_firstWaiting_32 : decode cX1_firstWaiting 32 = .ok (.ifCond .ne 13, 3) := by decide +kernel
theorem dX1_firstWaiting_35 : decode cX1_firstWaiting 35 = .ok (.aload_n 0, 1) := by decide +kernel
theorem dX1_firstWaiting_36 : decode cX1_firstWaiting 36 = .ok (.iload_n 2, 1) := by decide +kernel
theorem dX1_firstWaiting_37 : decode cX1_firstWaiting 37 = .ok (.invokevirtual 104, 3) := by decide +kernel
theorem dX1_firstWaiting_40 : decode cX1_firstWaiting 40 = .ok (.ifCond .eq 5, 3) := by decide +kernel
theorem dX1_firstWaiting_43 : decode cX1_firstWaiting 43 = .ok (.iload_n 2, 1) := by decide +kernel
theorem dX1_firstWaiting_44 : decode cX1_firstWaiting 44 = .ok (.ireturn, 1) := by decide +kernel
theorem dX1_firstWaiting_45 : decode cX1_firstWaiting 45 = .ok (.iinc 1 1, 3) := by decide +kernel
theorem dX1_firstWaiting_48 : decode cX1_firstWaiting 48 = .ok (.goto (-46), 3) := by decide +kernel
theorem dX1_firstWaiting_51 : decode cX1_firstWaiting 51 = .ok (.iconst (-1), 1) := by decide +kernel
theorem dX1_firstWaiting_52 : decode cX1_firstWaiting 52 = .ok (.ireturn, 1) := by decide +kernel
theorem dX1_enlist_0 : decode cX1_enlist 0 = .ok (.aload_n 0, 1) := by decide +kernel
theorem dX1_enlist_1 : decode cX1_enlist 1 = .ok (.iload_n 1, 1) := by decide +kernel
theorem dX1_enlist_2 : decode cX1_enlist 2 = .ok (.invokevirtual 68, 3) := by decide +kernel
theorem dX1_enlist_5 : decode cX1_enlist 5 = .ok (.istore_n 2, 1) := by decide +kernel
theorem dX1_enlist_6 : decode cX1_enlist 6 = .ok (.aload_n 0, 1) := by decide +kernel
theorem dX1_enlist_7 : decode cX1_enlist 7 = .ok (.getfield 27, 3) := by decide +kernel
theorem dX1_enlist_10 : decode cX1_enlist 10 = .ok (.invokevirtual 60, 3) := by decide +kernel
theorem dX1_enlist_13 : decode cX1_enlist 13 = .ok (.istore_n 3, 1) := by decide +kernel
theorem dX1_enlist_14 : decode cX1_enlist 14 = .ok (.aload_n 0, 1) := by decide +kernel
theorem dX1_enlist_15 : decode cX1_enlist 15 = .ok (.getfield 27, 3) := by decide +kernel
theorem dX1_enlist_18 : decode cX1_enlist 18 = .ok (.invokevirtual 60, 3) := by decide +kernel
theorem dX1_enlist_21 : decode cX1_enlist 21 = .ok (.iconst 1, 1) := by decide +kernel
theorem dX1_enlist_22 : decode cX1_enlist 22 = .ok (.isub, 1) := by decide +kernel
theorem dX1_enlist_23 : decode cX1_enlist 23 = .ok (.istore 4, 2) := by decide +kernel
theorem dX1_enlist_25 : decode cX1_enlist 25 = .ok (.iload 4, 2) := by decide +kernel
theorem dX1_enlist_27 : decode cX1_enlist 27 = .ok (.ifCond .lt 30, 3) := by decide +kernel
theorem dX1_enlist_30 : decode cX1_enlist 30 = .ok (.aload_n 0, 1) := by decide +kernel
theorem dX1_enlist_31 : decode cX1_enlist 31 = .ok (.aload_n 0, 1) := by decide +kernel
theorem dX1_enlist_32 : decode cX1_enlist 32 = .ok (.getfield 27, 3) := by decide +kernel
theorem dX1_enlist_35 : decode cX1_enlist 35 = .ok (.iload 4, 2) := by decide +kernel
theorem dX1_enlist_37 : decode cX1_enlist 37 = .ok (.iconst 0, 1) := by decide +kernel
theorem dX1_enlist_38 : decode cX1_enlist 38 = .ok (.invokevirtual 64, 3) := by decide +kernel
theorem dX1_enlist_41 : decode cX1_enlist 41 = .ok (.invokevirtual 68, 3) := by decide +kernel
theorem dX1_enlist_44 : decode cX1_enlist 44 = .ok (.iload_n 2, 1) := by decide +kernel
theorem dX1_enlist_45 : decode cX1_enlist 45 = .ok (.if_icmp .ge 12, 3) := by decide +kernel
theorem dX1_enlist_48 : decode cX1_enlist 48 = .ok (.iload 4, 2) := by decide +kernel
theorem dX1_enlist_50 : decode cX1_enlist 50 = .ok (.istore_n 3, 1) := by decide +kernel
theorem dX1_enlist_51 : decode cX1_enlist 51 = .ok (.iinc 4 (-1), 3) := by decide +kernel
theorem dX1_enlist_54 : decode cX1_enlist 54 = .ok (.goto (-29), 3) := by decide +kernel
theorem dX1_enlist_57 : decode cX1_enlist 57 = .ok (.aload_n 0, 1) := by decide +kernel
theorem dX1_enlist_58 : decode cX1_enlist 58 = .ok (.getfield 27, 3) := by decide +kernel
theorem dX1_enlist_61 : decode cX1_enlist 61 = .ok (.iload_n 3, 1) := by decide +kernel
theorem dX1_enlist_62 : decode cX1_enlist 62 = .ok (.invokevirtual 115, 3) := by decide +kernel
theorem dX1_enlist_65 : decode cX1_enlist 65 = .ok (.aload_n 0, 1) := by decide +kernel
theorem dX1_enlist_66 : decode cX1_enlist 66 = .ok (.getfield 27, 3) := by decide +kernel
theorem dX1_enlist_69 : decode cX1_enlist 69 = .ok (.iload_n 3, 1) := by decide +kernel
theorem dX1_enlist_70 : decode cX1_enlist 70 = .ok (.iconst 0, 1) := by decide +kernel
theorem dX1_enlist_71 : decode cX1_enlist 71 = .ok (.iload_n 1, 1) := by decide +kernel
theorem dX1_enlist_72 : decode cX1_enlist 72 = .ok (.invokevirtual 119, 3) := by decide +kernel
theorem dX1_enlist_75 : decode cX1_enlist 75 = .ok (.aload_n 0, 1) := by decide +kernel
theorem dX1_enlist_76 : decode cX1_enlist 76 = .ok (.getfield 27, 3) := by decide +kernel
theorem dX1_enlist_79 : decode cX1_enlist 79 = .ok (.iload_n 3, 1) := by decide +kernel
theorem dX1_enlist_80 : decode cX1_enlist 80 = .ok (.iconst 1, 1) := by decide +kernel
theorem dX1_enlist_81 : decode cX1_enlist 81 = .ok (.iconst 0, 1) := by decide +kernel
theorem dX1_enlist_82 : decode cX1_enlist 82 = .ok (.invokevirtual 119, 3) := by decide +kernel
theorem dX1_enlist_85 : decode cX1_enlist 85 = .ok (.return_, 1) := by decide +kernel
theorem dX1_beginRound_0 : decode cX1_beginRound 0 = .ok (.aload_n 0, 1) := by decide +kernel
theorem dX1_beginRound_1 : decode cX1_beginRound 1 = .ok (.dup, 1) := by decide +kernel
theorem dX1_beginRound_2 : decode cX1_beginRound 2 = .ok (.getfield 33, 3) := by decide +kernel
theorem dX1_beginRound_5 : decode cX1_beginRound 5 = .ok (.iconst 1, 1) := by decide +kernel
theorem dX1_beginRound_6 : decode cX1_beginRound 6 = .ok (.iadd, 1) := by decide +kernel
theorem dX1_beginRound_7 : decode cX1_beginRound 7 = .ok (.putfield 33, 3) := by decide +kernel
theorem dX1_beginRound_10 : decode cX1_beginRound 10 = .ok (.aload_n 0, 1) := by decide +kernel
theorem dX1_beginRound_11 : decode cX1_beginRound 11 = .ok (.getfield 27, 3) := by decide +kernel
theorem dX1_beginRound_14 : decode cX1_beginRound 14 = .ok (.invokevirtual 138, 3) := by decide +kernel
theorem dX1_beginRound_17 : decode cX1_beginRound 17 = .ok (.iconst 0, 1) := by decide +kernel
theorem dX1_beginRound_18 : decode cX1_beginRound 18 = .ok (.istore_n 1, 1) := by decide +kernel
theorem dX1_beginRound_19 : decode cX1_beginRound 19 = .ok (.iload_n 1, 1) := by decide +kernel
theorem dX1_beginRound_20 : decode cX1_beginRound 20 = .ok (.aload_n 0, 1) := by decide +kernel
theorem dX1_beginRound_21 : decode cX1_beginRound 21 = .ok (.getfield 16, 3) := by decide +kernel
theorem dX1_beginRound_24 : decode cX1_beginRound 24 = .ok (.invokevirtual 60, 3) := by decide +kernel
theorem dX1_beginRound_27 : decode cX1_beginRound 27 = .ok (.if_icmp .ge 22, 3) := by decide +kernel
theorem dX1_beginRound_30 : decode cX1_beginRound 30 = .ok (.aload_n 0, 1) := by decide +kernel
theorem dX1_beginRound_31 : decode cX1_beginRound 31 = .ok (.iload_n 1, 1) := by decide +kernel
theorem dX1_beginRound_32 : decode cX1_beginRound 32 = .ok (.invokevirtual 104, 3) := by decide +kernel
theorem dX1_beginRound_35 : decode cX1_beginRound 35 = .ok (.ifCond .eq 8, 3) := by decide +kernel
theorem dX1_beginRound_38 : decode cX1_beginRound 38 = .ok (.aload_n 0, 1) := by decide +kernel
theorem dX1_beginRound_39 : decode cX1_beginRound 39 = .ok (.iload_n 1, 1) := by decide +kernel
theorem dX1_beginRound_40 : decode cX1_beginRound 40 = .ok (.invokevirtual 141, 3) := by decide +kernel
theorem dX1_beginRound_43 : decode cX1_beginRound 43 = .ok (.iinc 1 1, 3) := by decide +kernel
theorem dX1_beginRound_46 : decode cX1_beginRound 46 = .ok (.goto (-27), 3) := by decide +kernel
theorem dX1_beginRound_49 : decode cX1_beginRound 49 = .ok (.return_, 1) := by decide +kernel
theorem dX1_takeTurn_0 : decode cX1_takeTurn 0 = .ok (.aload_n 0, 1) := by decide +kernel
theorem dX1_takeTurn_1 : decode cX1_takeTurn 1 = .ok (.iload_n 1, 1) := by decide +kernel
theorem dX1_takeTurn_2 : decode cX1_takeTurn 2 = .ok (.putfield 37, 3) := by decide +kernel
theorem dX1_takeTurn_5 : decode cX1_takeTurn 5 = .ok (.aload_n 0, 1) := by decide +kernel
theorem dX1_takeTurn_6 : decode cX1_takeTurn 6 = .ok (.iload_n 1, 1) := by decide +kernel
theorem dX1_takeTurn_7 : decode cX1_takeTurn 7 = .ok (.putfield 40, 3) := by decide +kernel
theorem dX1_takeTurn_10 : decode cX1_takeTurn 10 = .ok (.aload_n 0, 1) := by decide +kernel
theorem dX1_takeTurn_11 : decode cX1_takeTurn 11 = .ok (.getfield 27, 3) := by decide +kernel
theorem dX1_takeTurn_14 : decode cX1_takeTurn 14 = .ok (.aload_n 0, 1) := by decide +kernel
theorem dX1_takeTurn_15 : decode cX1_takeTurn 15 = .ok (.iload_n 1, 1) := by decide +kernel
theorem dX1_takeTurn_16 : decode cX1_takeTurn 16 = .ok (.invokevirtual 75, 3) := by decide +kernel
theorem dX1_takeTurn_19 : decode cX1_takeTurn 19 = .ok (.iconst 1, 1) := by decide +kernel
theorem dX1_takeTurn_20 : decode cX1_takeTurn 20 = .ok (.iconst 1, 1) := by decide +kernel
theorem dX1_takeTurn_21 : decode cX1_takeTurn 21 = .ok (.invokevirtual 119, 3) := by decide +kernel
theorem dX1_takeTurn_24 : decode cX1_takeTurn 24 = .ok (.return_, 1) := by decide +kernel
theorem dX1_harm_0 : decode cX1_harm 0 = .ok (.aload_n 0, 1) := by decide +kernel
theorem dX1_harm_1 : decode cX1_harm 1 = .ok (.getfield 16, 3) := by decide +kernel
theorem dX1_harm_4 : decode cX1_harm 4 = .ok (.iload_n 1, 1) := by decide +kernel
theorem dX1_harm_5 : decode cX1_harm 5 = .ok (.iconst 2, 1) := by decide +kernel
theorem dX1_harm_6 : decode cX1_harm 6 = .ok (.invokevirtual 64, 3) := by decide +kernel
theorem dX1_harm_9 : decode cX1_harm 9 = .ok (.istore_n 3, 1) := by decide +kernel
theorem dX1_harm_10 : decode cX1_harm 10 = .ok (.iload_n 2, 1) := by decide +kernel
theorem dX1_harm_11 : decode cX1_harm 11 = .ok (.iload_n 3, 1) := by decide +kernel
theorem dX1_harm_12 : decode cX1_harm 12 = .ok (.invokestatic 150, 3) := by decide +kernel
theorem dX1_harm_15 : decode cX1_harm 15 = .ok (.istore 4, 2) := by decide +kernel
theorem dX1_harm_17 : decode cX1_harm 17 = .ok (.aload_n 0, 1) := by decide +kernel
theorem dX1_harm_18 : decode cX1_harm 18 = .ok (.getfield 16, 3) := by decide +kernel
theorem dX1_harm_21 : decode cX1_harm 21 = .ok (.iload_n 1, 1) := by decide +kernel
theorem dX1_harm_22 : decode cX1_harm 22 = .ok (.iconst 2, 1) := by decide +kernel
theorem dX1_harm_23 : decode cX1_harm 23 = .ok (.iload_n 3, 1) := by decide +kernel
theorem dX1_harm_24 : decode cX1_harm 24 = .ok (.iload 4, 2) := by decide +kernel
theorem dX1_harm_26 : decode cX1_harm 26 = .ok (.isub, 1) := by decide +kernel
theorem dX1_harm_27 : decode cX1_harm 27 = .ok (.invokevirtual 119, 3) := by decide +kernel
theorem dX1_harm_30 : decode cX1_harm 30 = .ok (.iload 4, 2) := by decide +kernel
theorem dX1_harm_32 : decode cX1_harm 32 = .ok (.iload_n 3, 1) := by decide +kernel
theorem dX1_harm_33 : decode cX1_harm 33 = .ok (.if_icmp .lt 14, 3) := by decide +kernel
theorem dX1_harm_36 : decode cX1_harm 36 = .ok (.aload_n 0, 1) := by decide +kernel
theorem dX1_harm_37 : decode cX1_harm 37 = .ok (.getfield 23, 3) := by decide +kernel
theorem dX1_harm_40 : decode cX1_harm 40 = .ok (.iload_n 1, 1) := by decide +kernel
theorem dX1_harm_41 : decode cX1_harm 41 = .ok (.invokevirtual 153, 3) := by decide +kernel
theorem dX1_harm_44 : decode cX1_harm 44 = .ok (.goto 20, 3) := by decide +kernel
theorem dX1_harm_47 : decode cX1_harm 47 = .ok (.iload 4, 2) := by decide +kernel
theorem dX1_harm_49 : decode cX1_harm 49 = .ok (.aload_n 0, 1) := by decide +kernel
theorem dX1_harm_50 : decode cX1_harm 50 = .ok (.getfield 47, 3) := by decide +kernel
theorem dX1_harm_53 : decode cX1_harm 53 = .ok (.if_icmp .lt 11, 3) := by decide +kernel
theorem dX1_harm_56 : decode cX1_harm 56 = .ok (.aload_n 0, 1) := by decide +kernel
theorem dX1_harm_57 : decode cX1_harm 57 = .ok (.getfield 23, 3) := by decide +kernel
theorem dX1_harm_60 : decode cX1_harm 60 = .ok (.iload_n 1, 1) := by decide +kernel
theorem dX1_harm_61 : decode cX1_harm 61 = .ok (.invokevirtual 156, 3) := by decide +kernel
theorem dX1_harm_64 : decode cX1_harm 64 = .ok (.return_, 1) := by decide +kernel
theorem dX1_sufferPoison_0 : decode cX1_sufferPoison 0 = .ok (.iconst (-1), 1) := by decide +kernel
theorem dX1_sufferPoison_1 : decode cX1_sufferPoison 1 = .ok (.istore_n 2, 1) := by decide +kernel
theorem dX1_sufferPoison_2 : decode cX1_sufferPoison 2 = .ok (.iconst 0, 1) := by decide +kernel
theorem dX1_sufferPoison_3 : decode cX1_sufferPoison 3 = .ok (.istore_n 3, 1) := by decide +kernel
theorem dX1_sufferPoison_4 : decode cX1_sufferPoison 4 = .ok (.iload_n 3, 1) := by decide +kernel
theorem dX1_sufferPoison_5 : decode cX1_sufferPoison 5 = .ok (.bipush 30, 2) := by decide +kernel
theorem dX1_sufferPoison_7 : decode cX1_sufferPoison 7 = .ok (.if_icmp .ge 52, 3) := by decide +kernel
theorem dX1_sufferPoison_10 : decode cX1_sufferPoison 10 = .ok (.aload_n 0, 1) := by decide +kernel
theorem dX1_sufferPoison_11 : decode cX1_sufferPoison 11 = .ok (.getfield 23, 3) := by decide +kernel
theorem dX1_sufferPoison_14 : decode cX1_sufferPoison 14 = .ok (.iload_n 1, 1) := by decide +kernel
theorem dX1_sufferPoison_15 : decode cX1_sufferPoison 15 = .ok (.iload_n 2, 1) := by decide +kernel
theorem dX1_sufferPoison_16 : decode cX1_sufferPoison 16 = .ok (.invokevirtual 144, 3) := by decide +kernel
theorem dX1_sufferPoison_19 : decode cX1_sufferPoison 19 = .ok (.istore 4, 2) := by decide +kernel
theorem dX1_sufferPoison_21 : decode cX1_sufferPoison 21 = .ok (.iload 4, 2) := by decide +kernel
theorem dX1_sufferPoison_23 : decode cX1_sufferPoison 23 = .ok (.iconst (-1), 1) := by decide +kernel
theorem dX1_sufferPoison_24 : decode cX1_sufferPoison 24 = .ok (.if_icmp .ne 4, 3) := by decide +kernel
theorem dX1_sufferPoison_27 : decode cX1_sufferPoison 27 = .ok (.return_, 1) := by decide +kernel
theorem dX1_sufferPoison_28 : decode cX1_sufferPoison 28 = .ok (.aload_n 0, 1) := by decide +kernel
theorem dX1_sufferPoison_29 : decode cX1_sufferPoison 29 = .ok (.getfield 23, 3) := by decide +kernel
theorem dX1_sufferPoison_32 : decode cX1_sufferPoison 32 = .ok (.iload 4, 2) := by decide +kernel
theorem dX1_sufferPoison_34 : decode cX1_sufferPoison 34 = .ok (.invokevirtual 88, 3) := by decide +kernel
theorem dX1_sufferPoison_37 : decode cX1_sufferPoison 37 = .ok (.istore_n 2, 1) := by decide +kernel
theorem dX1_sufferPoison_38 : decode cX1_sufferPoison 38 = .ok (.aload_n 0, 1) := by decide +kernel
theorem dX1_sufferPoison_39 : decode cX1_sufferPoison 39 = .ok (.iload_n 1, 1) := by decide +kernel
theorem dX1_sufferPoison_40 : decode cX1_sufferPoison 40 = .ok (.aload_n 0, 1) := by decide +kernel
theorem dX1_sufferPoison_41 : decode cX1_sufferPoison 41 = .ok (.getfield 23, 3) := by decide +kernel
theorem dX1_sufferPoison_44 : decode cX1_sufferPoison 44 = .ok (.iload 4, 2) := by decide +kernel
theorem dX1_sufferPoison_46 : decode cX1_sufferPoison 46 = .ok (.iconst 1, 1) := by decide +kernel
theorem dX1_sufferPoison_47 : decode cX1_sufferPoison 47 = .ok (.invokevirtual 85, 3) := by decide +kernel
theorem dX1_sufferPoison_50 : decode cX1_sufferPoison 50 = .ok (.invokevirtual 147, 3) := by decide +kernel
theorem dX1_sufferPoison_53 : decode cX1_sufferPoison 53 = .ok (.iinc 3 1, 3) := by decide +kernel
theorem dX1_sufferPoison_56 : decode cX1_sufferPoison 56 = .ok (.goto (-52), 3) := by decide +kernel
theorem dX1_sufferPoison_59 : decode cX1_sufferPoison 59 = .ok (.return_, 1) := by decide +kernel
theorem dX1_endTurn_0 : decode cX1_endTurn 0 = .ok (.aload_n 0, 1) := by decide +kernel
theorem dX1_endTurn_1 : decode cX1_endTurn 1 = .ok (.getfield 23, 3) := by decide +kernel
theorem dX1_endTurn_4 : decode cX1_endTurn 4 = .ok (.aload_n 0, 1) := by decide +kernel
theorem dX1_endTurn_5 : decode cX1_endTurn 5 = .ok (.getfield 37, 3) := by decide +kernel
theorem dX1_endTurn_8 : decode cX1_endTurn 8 = .ok (.invokevirtual 159, 3) := by decide +kernel
theorem dX1_endTurn_11 : decode cX1_endTurn 11 = .ok (.istore_n 1, 1) := by decide +kernel
theorem dX1_endTurn_12 : decode cX1_endTurn 12 = .ok (.aload_n 0, 1) := by decide +kernel
theorem dX1_endTurn_13 : decode cX1_endTurn 13 = .ok (.iconst (-1), 1) := by decide +kernel
theorem dX1_endTurn_14 : decode cX1_endTurn 14 = .ok (.putfield 37, 3) := by decide +kernel
theorem dX1_endTurn_17 : decode cX1_endTurn 17 = .ok (.iload_n 1, 1) := by decide +kernel
theorem dX1_endTurn_18 : decode cX1_endTurn 18 = .ok (.ireturn, 1) := by decide +kernel
theorem dX1_beginTurn_0 : decode cX1_beginTurn 0 = .ok (.aload_n 0, 1) := by decide +kernel
theorem dX1_beginTurn_1 : decode cX1_beginTurn 1 = .ok (.invokevirtual 123, 3) := by decide +kernel
theorem dX1_beginTurn_4 : decode cX1_beginTurn 4 = .ok (.istore_n 1, 1) := by decide +kernel
theorem dX1_beginTurn_5 : decode cX1_beginTurn 5 = .ok (.iload_n 1, 1) := by decide +kernel
theorem dX1_beginTurn_6 : decode cX1_beginTurn 6 = .ok (.iconst (-1), 1) := by decide +kernel
theorem dX1_beginTurn_7 : decode cX1_beginTurn 7 = .ok (.if_icmp .ne 12, 3) := by decide +kernel
theorem dX1_beginTurn_10 : decode cX1_beginTurn 10 = .ok (.aload_n 0, 1) := by decide +kernel
theorem dX1_beginTurn_11 : decode cX1_beginTurn 11 = .ok (.invokevirtual 126, 3) := by decide +kernel
theorem dX1_beginTurn_14 : decode cX1_beginTurn 14 = .ok (.aload_n 0, 1) := by decide +kernel
theorem dX1_beginTurn_15 : decode cX1_beginTurn 15 = .ok (.invokevirtual 123, 3) := by decide +kernel
theorem dX1_beginTurn_18 : decode cX1_beginTurn 18 = .ok (.istore_n 1, 1) := by decide +kernel
theorem dX1_beginTurn_19 : decode cX1_beginTurn 19 = .ok (.iload_n 1, 1) := by decide +kernel
theorem dX1_beginTurn_20 : decode cX1_beginTurn 20 = .ok (.iconst (-1), 1) := by decide +kernel
theorem dX1_beginTurn_21 : decode cX1_beginTurn 21 = .ok (.if_icmp .ne 5, 3) := by decide +kernel
theorem dX1_beginTurn_24 : decode cX1_beginTurn 24 = .ok (.iconst (-1), 1) := by decide +kernel
theorem dX1_beginTurn_25 : decode cX1_beginTurn 25 = .ok (.ireturn, 1) := by decide +kernel
theorem dX1_beginTurn_26 : decode cX1_beginTurn 26 = .ok (.aload_n 0, 1) := by decide +kernel
theorem dX1_beginTurn_27 : decode cX1_beginTurn 27 = .ok (.iload_n 1, 1) := by decide +kernel
theorem dX1_beginTurn_28 : decode cX1_beginTurn 28 = .ok (.invokevirtual 129, 3) := by decide +kernel
theorem dX1_beginTurn_31 : decode cX1_beginTurn 31 = .ok (.aload_n 0, 1) := by decide +kernel
theorem dX1_beginTurn_32 : decode cX1_beginTurn 32 = .ok (.iconst 1, 1) := by decide +kernel
theorem dX1_beginTurn_33 : decode cX1_beginTurn 33 = .ok (.putfield 43, 3) := by decide +kernel
theorem dX1_beginTurn_36 : decode cX1_beginTurn 36 = .ok (.aload_n 0, 1) := by decide +kernel
theorem dX1_beginTurn_37 : decode cX1_beginTurn 37 = .ok (.dup, 1) := by decide +kernel
theorem dX1_beginTurn_38 : decode cX1_beginTurn 38 = .ok (.getfield 50, 3) := by decide +kernel
theorem dX1_beginTurn_41 : decode cX1_beginTurn 41 = .ok (.iconst 1, 1) := by decide +kernel
theorem dX1_beginTurn_42 : decode cX1_beginTurn 42 = .ok (.iadd, 1) := by decide +kernel
theorem dX1_beginTurn_43 : decode cX1_beginTurn 43 = .ok (.putfield 50, 3) := by decide +kernel
theorem dX1_beginTurn_46 : decode cX1_beginTurn 46 = .ok (.aload_n 0, 1) := by decide +kernel
theorem dX1_beginTurn_47 : decode cX1_beginTurn 47 = .ok (.getfield 16, 3) := by decide +kernel
theorem dX1_beginTurn_50 : decode cX1_beginTurn 50 = .ok (.iload_n 1, 1) := by decide +kernel
theorem dX1_beginTurn_51 : decode cX1_beginTurn 51 = .ok (.iconst 3, 1) := by decide +kernel
theorem dX1_beginTurn_52 : decode cX1_beginTurn 52 = .ok (.iconst 1, 1) := by decide +kernel
theorem dX1_beginTurn_53 : decode cX1_beginTurn 53 = .ok (.invokevirtual 119, 3) := by decide +kernel
theorem dX1_beginTurn_56 : decode cX1_beginTurn 56 = .ok (.aload_n 0, 1) := by decide +kernel
theorem dX1_beginTurn_57 : decode cX1_beginTurn 57 = .ok (.iload_n 1, 1) := by decide +kernel
theorem dX1_beginTurn_58 : decode cX1_beginTurn 58 = .ok (.invokevirtual 132, 3) := by decide +kernel
theorem dX1_beginTurn_61 : decode cX1_beginTurn 61 = .ok (.aload_n 0, 1) := by decide +kernel
theorem dX1_beginTurn_62 : decode cX1_beginTurn 62 = .ok (.iload_n 1, 1) := by decide +kernel
theorem dX1_beginTurn_63 : decode cX1_beginTurn 63 = .ok (.invokevirtual 104, 3) := by decide +kernel
theorem dX1_beginTurn_66 : decode cX1_beginTurn 66 = .ok (.ifCond .ne 11, 3) := by decide +kernel
theorem dX1_beginTurn_69 : decode cX1_beginTurn 69 = .ok (.aload_n 0, 1) := by decide +kernel
theorem dX1_beginTurn_70 : decode cX1_beginTurn 70 = .ok (.iconst (-1), 1) := by decide +kernel
theorem dX1_beginTurn_71 : decode cX1_beginTurn 71 = .ok (.putfield 37, 3) := by decide +kernel
theorem dX1_beginTurn_74 : decode cX1_beginTurn 74 = .ok (.goto 20, 3) := by decide +kernel
theorem dX1_beginTurn_77 : decode cX1_beginTurn 77 = .ok (.aload_n 0, 1) := by decide +kernel
theorem dX1_beginTurn_78 : decode cX1_beginTurn 78 = .ok (.getfield 23, 3) := by decide +kernel
theorem dX1_beginTurn_81 : decode cX1_beginTurn 81 = .ok (.iload_n 1, 1) := by decide +kernel
theorem dX1_beginTurn_82 : decode cX1_beginTurn 82 = .ok (.iconst 4, 1) := by decide +kernel
theorem dX1_beginTurn_83 : decode cX1_beginTurn 83 = .ok (.invokevirtual 107, 3) := by decide +kernel
theorem dX1_beginTurn_86 : decode cX1_beginTurn 86 = .ok (.ifCond .le 8, 3) := by decide +kernel
theorem dX1_beginTurn_89 : decode cX1_beginTurn 89 = .ok (.aload_n 0, 1) := by decide +kernel
theorem dX1_beginTurn_90 : decode cX1_beginTurn 90 = .ok (.invokevirtual 135, 3) := by decide +kernel
theorem dX1_beginTurn_93 : decode cX1_beginTurn 93 = .ok (.pop, 1) := by decide +kernel
theorem dX1_beginTurn_94 : decode cX1_beginTurn 94 = .ok (.iload_n 1, 1) := by decide +kernel
theorem dX1_beginTurn_95 : decode cX1_beginTurn 95 = .ok (.ireturn, 1) := by decide +kernel
theorem dX1_mayEndTurn_0 : decode cX1_mayEndTurn 0 = .ok (.aload_n 0, 1) := by decide +kernel
theorem dX1_mayEndTurn_1 : decode cX1_mayEndTurn 1 = .ok (.getfield 37, 3) := by decide +kernel
theorem dX1_mayEndTurn_4 : decode cX1_mayEndTurn 4 = .ok (.iconst (-1), 1) := by decide +kernel
theorem dX1_mayEndTurn_5 : decode cX1_mayEndTurn 5 = .ok (.if_icmp .eq 17, 3) := by decide +kernel
theorem dX1_mayEndTurn_8 : decode cX1_mayEndTurn 8 = .ok (.aload_n 0, 1) := by decide +kernel
theorem dX1_mayEndTurn_9 : decode cX1_mayEndTurn 9 = .ok (.getfield 30, 3) := by decide +kernel
theorem dX1_mayEndTurn_12 : decode cX1_mayEndTurn 12 = .ok (.invokevirtual 60, 3) := by decide +kernel
theorem dX1_mayEndTurn_15 : decode cX1_mayEndTurn 15 = .ok (.ifCond .ne 7, 3) := by decide +kernel
theorem dX1_mayEndTurn_18 : decode cX1_mayEndTurn 18 = .ok (.iconst 1, 1) := by decide +kernel
theorem dX1_mayEndTurn_19 : decode cX1_mayEndTurn 19 = .ok (.goto 4, 3) := by decide +kernel
theorem dX1_mayEndTurn_22 : decode cX1_mayEndTurn 22 = .ok (.iconst 0, 1) := by decide +kernel
theorem dX1_mayEndTurn_23 : decode cX1_mayEndTurn 23 = .ok (.ireturn, 1) := by decide +kernel
theorem dX1_mayDelayTurn_0 : decode cX1_mayDelayTurn 0 = .ok (.aload_n 0, 1) := by decide +kernel
theorem dX1_mayDelayTurn_1 : decode cX1_mayDelayTurn 1 = .ok (.getfield 37, 3) := by decide +kernel
theorem dX1_mayDelayTurn_4 : decode cX1_mayDelayTurn 4 = .ok (.iconst (-1), 1) := by decide +kernel
theorem dX1_mayDelayTurn_5 : decode cX1_mayDelayTurn 5 = .ok (.if_icmp .eq 14, 3) := by decide +kernel
theorem dX1_mayDelayTurn_8 : decode cX1_mayDelayTurn 8 = .ok (.aload_n 0, 1) := by decide +kernel
theorem dX1_mayDelayTurn_9 : decode cX1_mayDelayTurn 9 = .ok (.getfield 43, 3) := by decide +kernel
theorem dX1_mayDelayTurn_12 : decode cX1_mayDelayTurn 12 = .ok (.ifCond .eq 7, 3) := by decide +kernel
theorem dX1_mayDelayTurn_15 : decode cX1_mayDelayTurn 15 = .ok (.iconst 1, 1) := by decide +kernel
theorem dX1_mayDelayTurn_16 : decode cX1_mayDelayTurn 16 = .ok (.goto 4, 3) := by decide +kernel
theorem dX1_mayDelayTurn_19 : decode cX1_mayDelayTurn 19 = .ok (.iconst 0, 1) := by decide +kernel
theorem dX1_mayDelayTurn_20 : decode cX1_mayDelayTurn 20 = .ok (.ireturn, 1) := by decide +kernel
theorem dX1_delayTurn_0 : decode cX1_delayTurn 0 = .ok (.aload_n 0, 1) := by decide +kernel
theorem dX1_delayTurn_1 : decode cX1_delayTurn 1 = .ok (.getfield 37, 3) := by decide +kernel
theorem dX1_delayTurn_4 : decode cX1_delayTurn 4 = .ok (.istore_n 1, 1) := by decide +kernel
theorem dX1_delayTurn_5 : decode cX1_delayTurn 5 = .ok (.aload_n 0, 1) := by decide +kernel
theorem dX1_delayTurn_6 : decode cX1_delayTurn 6 = .ok (.getfield 27, 3) := by decide +kernel
theorem dX1_delayTurn_9 : decode cX1_delayTurn 9 = .ok (.aload_n 0, 1) := by decide +kernel
theorem dX1_delayTurn_10 : decode cX1_delayTurn 10 = .ok (.iload_n 1, 1) := by decide +kernel
theorem dX1_delayTurn_11 : decode cX1_delayTurn 11 = .ok (.invokevirtual 75, 3) := by decide +kernel
theorem dX1_delayTurn_14 : decode cX1_delayTurn 14 = .ok (.iconst 1, 1) := by decide +kernel
theorem dX1_delayTurn_15 : decode cX1_delayTurn 15 = .ok (.iconst 2, 1) := by decide +kernel
theorem dX1_delayTurn_16 : decode cX1_delayTurn 16 = .ok (.invokevirtual 119, 3) := by decide +kernel
theorem dX1_delayTurn_19 : decode cX1_delayTurn 19 = .ok (.aload_n 0, 1) := by decide +kernel
theorem dX1_delayTurn_20 : decode cX1_delayTurn 20 = .ok (.iconst (-1), 1) := by decide +kernel
theorem dX1_delayTurn_21 : decode cX1_delayTurn 21 = .ok (.putfield 37, 3) := by decide +kernel
theorem dX1_delayTurn_24 : decode cX1_delayTurn 24 = .ok (.iload_n 1, 1) := by decide +kernel
theorem dX1_delayTurn_25 : decode cX1_delayTurn 25 = .ok (.ireturn, 1) := by decide +kernel
theorem dX1_mayResumeTurn_0 : decode cX1_mayResumeTurn 0 = .ok (.aload_n 0, 1) := by decide +kernel
theorem dX1_mayResumeTurn_1 : decode cX1_mayResumeTurn 1 = .ok (.getfield 37, 3) := by decide +kernel
theorem dX1_mayResumeTurn_4 : decode cX1_mayResumeTurn 4 = .ok (.iconst (-1), 1) := by decide +kernel
theorem dX1_mayResumeTurn_5 : decode cX1_mayResumeTurn 5 = .ok (.if_icmp .ne 24, 3) := by decide +kernel
theorem dX1_mayResumeTurn_8 : decode cX1_mayResumeTurn 8 = .ok (.aload_n 0, 1) := by decide +kernel
theorem dX1_mayResumeTurn_9 : decode cX1_mayResumeTurn 9 = .ok (.iload_n 1, 1) := by decide +kernel
theorem dX1_mayResumeTurn_10 : decode cX1_mayResumeTurn 10 = .ok (.invokevirtual 72, 3) := by decide +kernel
theorem dX1_mayResumeTurn_13 : decode cX1_mayResumeTurn 13 = .ok (.iconst 2, 1) := by decide +kernel
theorem dX1_mayResumeTurn_14 : decode cX1_mayResumeTurn 14 = .ok (.if_icmp .ne 15, 3) := by decide +kernel
theorem dX1_mayResumeTurn_17 : decode cX1_mayResumeTurn 17 = .ok (.aload_n 0, 1) := by decide +kernel
theorem dX1_mayResumeTurn_18 : decode cX1_mayResumeTurn 18 = .ok (.iload_n 1, 1) := by decide +kernel
theorem dX1_mayResumeTurn_19 : decode cX1_mayResumeTurn 19 = .ok (.invokevirtual 104, 3) := by decide +kernel
theorem dX1_mayResumeTurn_22 : decode cX1_mayResumeTurn 22 = .ok (.ifCond .eq 7, 3) := by decide +kernel
theorem dX1_mayResumeTurn_25 : decode cX1_mayResumeTurn 25 = .ok (.iconst 1, 1) := by decide +kernel
theorem dX1_mayResumeTurn_26 : decode cX1_mayResumeTurn 26 = .ok (.goto 4, 3) := by decide +kernel
theorem dX1_mayResumeTurn_29 : decode cX1_mayResumeTurn 29 = .ok (.iconst 0, 1) := by decide +kernel
theorem dX1_mayResumeTurn_30 : decode cX1_mayResumeTurn 30 = .ok (.ireturn, 1) := by decide +kernel
theorem dX1_resumeTurn_0 : decode cX1_resumeTurn 0 = .ok (.iload_n 1, 1) := by decide +kernel
theorem dX1_resumeTurn_1 : decode cX1_resumeTurn 1 = .ok (.aload_n 0, 1) := by decide +kernel
theorem dX1_resumeTurn_2 : decode cX1_resumeTurn 2 = .ok (.getfield 40, 3) := by decide +kernel
theorem dX1_resumeTurn_5 : decode cX1_resumeTurn 5 = .ok (.if_icmp .eq 44, 3) := by decide +kernel
theorem dX1_resumeTurn_8 : decode cX1_resumeTurn 8 = .ok (.aload_n 0, 1) := by decide +kernel
theorem dX1_resumeTurn_9 : decode cX1_resumeTurn 9 = .ok (.getfield 27, 3) := by decide +kernel
theorem dX1_resumeTurn_12 : decode cX1_resumeTurn 12 = .ok (.aload_n 0, 1) := by decide +kernel
theorem dX1_resumeTurn_13 : decode cX1_resumeTurn 13 = .ok (.iload_n 1, 1) := by decide +kernel
theorem dX1_resumeTurn_14 : decode cX1_resumeTurn 14 = .ok (.invokevirtual 75, 3) := by decide +kernel
theorem dX1_resumeTurn_17 : decode cX1_resumeTurn 17 = .ok (.invokevirtual 162, 3) := by decide +kernel
theorem dX1_resumeTurn_20 : decode cX1_resumeTurn 20 = .ok (.aload_n 0, 1) := by decide +kernel
theorem dX1_resumeTurn_21 : decode cX1_resumeTurn 21 = .ok (.aload_n 0, 1) := by decide +kernel
theorem dX1_resumeTurn_22 : decode cX1_resumeTurn 22 = .ok (.getfield 40, 3) := by decide +kernel
theorem dX1_resumeTurn_25 : decode cX1_resumeTurn 25 = .ok (.invokevirtual 75, 3) := by decide +kernel
theorem dX1_resumeTurn_28 : decode cX1_resumeTurn 28 = .ok (.iconst 1, 1) := by decide +kernel
theorem dX1_resumeTurn_29 : decode cX1_resumeTurn 29 = .ok (.iadd, 1) := by decide +kernel
theorem dX1_resumeTurn_30 : decode cX1_resumeTurn 30 = .ok (.istore_n 2, 1) := by decide +kernel
theorem dX1_resumeTurn_31 : decode cX1_resumeTurn 31 = .ok (.aload_n 0, 1) := by decide +kernel
theorem dX1_resumeTurn_32 : decode cX1_resumeTurn 32 = .ok (.getfield 27, 3) := by decide +kernel
theorem dX1_resumeTurn_35 : decode cX1_resumeTurn 35 = .ok (.iload_n 2, 1) := by decide +kernel
theorem dX1_resumeTurn_36 : decode cX1_resumeTurn 36 = .ok (.invokevirtual 115, 3) := by decide +kernel
theorem dX1_resumeTurn_39 : decode cX1_resumeTurn 39 = .ok (.aload_n 0, 1) := by decide +kernel
theorem dX1_resumeTurn_40 : decode cX1_resumeTurn 40 = .ok (.getfield 27, 3) := by decide +kernel
theorem dX1_resumeTurn_43 : decode cX1_resumeTurn 43 = .ok (.iload_n 2, 1) := by decide +kernel
theorem dX1_resumeTurn_44 : decode cX1_resumeTurn 44 = .ok (.iconst 0, 1) := by decide +kernel
theorem dX1_resumeTurn_45 : decode cX1_resumeTurn 45 = .ok (.iload_n 1, 1) := by decide +kernel
theorem dX1_resumeTurn_46 : decode cX1_resumeTurn 46 = .ok (.invokevirtual 119, 3) := by decide +kernel
theorem dX1_resumeTurn_49 : decode cX1_resumeTurn 49 = .ok (.aload_n 0, 1) := by decide +kernel
theorem dX1_resumeTurn_50 : decode cX1_resumeTurn 50 = .ok (.iload_n 1, 1) := by decide +kernel
theorem dX1_resumeTurn_51 : decode cX1_resumeTurn 51 = .ok (.invokevirtual 129, 3) := by decide +kernel
theorem dX1_resumeTurn_54 : decode cX1_resumeTurn 54 = .ok (.aload_n 0, 1) := by decide +kernel
theorem dX1_resumeTurn_55 : decode cX1_resumeTurn 55 = .ok (.iconst 0, 1) := by decide +kernel
theorem dX1_resumeTurn_56 : decode cX1_resumeTurn 56 = .ok (.putfield 43, 3) := by decide +kernel
theorem dX1_resumeTurn_59 : decode cX1_resumeTurn 59 = .ok (.aload_n 0, 1) := by decide +kernel
