/-! decode rows, as the task prints them -/
theorem dX2_init_0 : decode cX2_init 0 = .ok (.aload_n 0, 1) := by decide +kernel
theorem dX2_init_1 : decode cX2_init 1 = .ok (.invokespecial 3, 3) := by decide +kernel
theorem dX2_init_4 : decode cX2_init 4 = .ok (.aload_n 0, 1) := by decide +kernel
theorem dX2_init_5 : decode cX2_init 5 = .ok (.iconst 3, 1) := by decide +kernel
theorem dX2_init_6 : decode cX2_init 6 = .ok (.newarray .int, 2) := by decide +kernel
theorem dX2_init_8 : decode cX2_init 8 = .ok (.dup, 1) := by decide +kernel
theorem dX2_init_9 : decode cX2_init 9 = .ok (.iconst 0, 1) := by decide +kernel
theorem dX2_init_10 : decode cX2_init 10 = .ok (.sipush 1500, 3) := by decide +kernel
theorem dX2_init_13 : decode cX2_init 13 = .ok (.iastore, 1) := by decide +kernel
theorem dX2_init_14 : decode cX2_init 14 = .ok (.dup, 1) := by decide +kernel
theorem dX2_init_15 : decode cX2_init 15 = .ok (.iconst 1, 1) := by decide +kernel
theorem dX2_init_16 : decode cX2_init 16 = .ok (.iconst 0, 1) := by decide +kernel
theorem dX2_init_17 : decode cX2_init 17 = .ok (.iastore, 1) := by decide +kernel
theorem dX2_init_18 : decode cX2_init 18 = .ok (.dup, 1) := by decide +kernel
theorem dX2_init_19 : decode cX2_init 19 = .ok (.iconst 2, 1) := by decide +kernel
theorem dX2_init_20 : decode cX2_init 20 = .ok (.iconst 0, 1) := by decide +kernel
theorem dX2_init_21 : decode cX2_init 21 = .ok (.iastore, 1) := by decide +kernel
theorem dX2_init_22 : decode cX2_init 22 = .ok (.putfield 9, 3) := by decide +kernel
theorem dX2_init_25 : decode cX2_init 25 = .ok (.aload_n 0, 1) := by decide +kernel
theorem dX2_init_26 : decode cX2_init 26 = .ok (.iconst 3, 1) := by decide +kernel
theorem dX2_init_27 : decode cX2_init 27 = .ok (.newarray .boolean, 2) := by decide +kernel
theorem dX2_init_29 : decode cX2_init 29 = .ok (.dup, 1) := by decide +kernel
theorem dX2_init_30 : decode cX2_init 30 = .ok (.iconst 0, 1) := by decide +kernel
theorem dX2_init_31 : decode cX2_init 31 = .ok (.iconst 1, 1) := by decide +kernel
theorem dX2_init_32 : decode cX2_init 32 = .ok (.bastore, 1) := by decide +kernel
theorem dX2_init_33 : decode cX2_init 33 = .ok (.dup, 1) := by decide +kernel
theorem dX2_init_34 : decode cX2_init 34 = .ok (.iconst 1, 1) := by decide +kernel
theorem dX2_init_35 : decode cX2_init 35 = .ok (.iconst 1, 1) := by decide +kernel
theorem dX2_init_36 : decode cX2_init 36 = .ok (.bastore, 1) := by decide +kernel
theorem dX2_init_37 : decode cX2_init 37 = .ok (.dup, 1) := by decide +kernel
theorem dX2_init_38 : decode cX2_init 38 = .ok (.iconst 2, 1) := by decide +kernel
theorem dX2_init_39 : decode cX2_init 39 = .ok (.iconst 1, 1) := by decide +kernel
theorem dX2_init_40 : decode cX2_init 40 = .ok (.bastore, 1) := by decide +kernel
theorem dX2_init_41 : decode cX2_init 41 = .ok (.putfield 15, 3) := by decide +kernel
theorem dX2_init_44 : decode cX2_init 44 = .ok (.aload_n 0, 1) := by decide +kernel
theorem dX2_init_45 : decode cX2_init 45 = .ok (.bipush 8, 2) := by decide +kernel
theorem dX2_init_47 : decode cX2_init 47 = .ok (.anewarray 19, 3) := by decide +kernel
theorem dX2_init_50 : decode cX2_init 50 = .ok (.putfield 21, 3) := by decide +kernel
theorem dX2_init_53 : decode cX2_init 53 = .ok (.aload_n 0, 1) := by decide +kernel
theorem dX2_init_54 : decode cX2_init 54 = .ok (.new 25, 3) := by decide +kernel
theorem dX2_init_57 : decode cX2_init 57 = .ok (.dup, 1) := by decide +kernel
theorem dX2_init_58 : decode cX2_init 58 = .ok (.invokespecial 27, 3) := by decide +kernel
theorem dX2_init_61 : decode cX2_init 61 = .ok (.putfield 28, 3) := by decide +kernel
theorem dX2_init_64 : decode cX2_init 64 = .ok (.aload_n 0, 1) := by decide +kernel
theorem dX2_init_65 : decode cX2_init 65 = .ok (.iconst 2, 1) := by decide +kernel
theorem dX2_init_66 : decode cX2_init 66 = .ok (.putfield 32, 3) := by decide +kernel
theorem dX2_init_69 : decode cX2_init 69 = .ok (.aload_n 0, 1) := by decide +kernel
theorem dX2_init_70 : decode cX2_init 70 = .ok (.iconst 3, 1) := by decide +kernel
theorem dX2_init_71 : decode cX2_init 71 = .ok (.putfield 36, 3) := by decide +kernel
theorem dX2_init_74 : decode cX2_init 74 = .ok (.aload_n 0, 1) := by decide +kernel
theorem dX2_init_75 : decode cX2_init 75 = .ok (.iconst 5, 1) := by decide +kernel
theorem dX2_init_76 : decode cX2_init 76 = .ok (.putfield 39, 3) := by decide +kernel
theorem dX2_init_79 : decode cX2_init 79 = .ok (.iconst 0, 1) := by decide +kernel
theorem dX2_init_80 : decode cX2_init 80 = .ok (.istore_n 1, 1) := by decide +kernel
theorem dX2_init_81 : decode cX2_init 81 = .ok (.iload_n 1, 1) := by decide +kernel
theorem dX2_init_82 : decode cX2_init 82 = .ok (.bipush 8, 2) := by decide +kernel
theorem dX2_init_84 : decode cX2_init 84 = .ok (.if_icmp .ge 22, 3) := by decide +kernel
theorem dX2_init_87 : decode cX2_init 87 = .ok (.aload_n 0, 1) := by decide +kernel
theorem dX2_init_88 : decode cX2_init 88 = .ok (.getfield 21, 3) := by decide +kernel
theorem dX2_init_91 : decode cX2_init 91 = .ok (.iload_n 1, 1) := by decide +kernel
theorem dX2_init_92 : decode cX2_init 92 = .ok (.new 19, 3) := by decide +kernel
theorem dX2_init_95 : decode cX2_init 95 = .ok (.dup, 1) := by decide +kernel
theorem dX2_init_96 : decode cX2_init 96 = .ok (.invokespecial 42, 3) := by decide +kernel
theorem dX2_init_99 : decode cX2_init 99 = .ok (.aastore, 1) := by decide +kernel
theorem dX2_init_100 : decode cX2_init 100 = .ok (.iinc 1 1, 3) := by decide +kernel
theorem dX2_init_103 : decode cX2_init 103 = .ok (.goto (-22), 3) := by decide +kernel
theorem dX2_init_106 : decode cX2_init 106 = .ok (.return_, 1) := by decide +kernel
theorem dX2_copyFrom_0 : decode cX2_copyFrom 0 = .ok (.iconst 0, 1) := by decide +kernel
theorem dX2_copyFrom_1 : decode cX2_copyFrom 1 = .ok (.istore_n 2, 1) := by decide +kernel
theorem dX2_copyFrom_2 : decode cX2_copyFrom 2 = .ok (.iload_n 2, 1) := by decide +kernel
theorem dX2_copyFrom_3 : decode cX2_copyFrom 3 = .ok (.iconst 3, 1) := by decide +kernel
theorem dX2_copyFrom_4 : decode cX2_copyFrom 4 = .ok (.if_icmp .ge 33, 3) := by decide +kernel
theorem dX2_copyFrom_7 : decode cX2_copyFrom 7 = .ok (.aload_n 0, 1) := by decide +kernel
theorem dX2_copyFrom_8 : decode cX2_copyFrom 8 = .ok (.getfield 9, 3) := by decide +kernel
theorem dX2_copyFrom_11 : decode cX2_copyFrom 11 = .ok (.iload_n 2, 1) := by decide +kernel
theorem dX2_copyFrom_12 : decode cX2_copyFrom 12 = .ok (.aload_n 1, 1) := by decide +kernel
theorem dX2_copyFrom_13 : decode cX2_copyFrom 13 = .ok (.getfield 9, 3) := by decide +kernel
theorem dX2_copyFrom_16 : decode cX2_copyFrom 16 = .ok (.iload_n 2, 1) := by decide +kernel
theorem dX2_copyFrom_17 : decode cX2_copyFrom 17 = .ok (.iaload, 1) := by decide +kernel
theorem dX2_copyFrom_18 : decode cX2_copyFrom 18 = .ok (.iastore, 1) := by decide +kernel
theorem dX2_copyFrom_19 : decode cX2_copyFrom 19 = .ok (.aload_n 0, 1) := by decide +kernel
theorem dX2_copyFrom_20 : decode cX2_copyFrom 20 = .ok (.getfield 15, 3) := by decide +kernel
theorem dX2_copyFrom_23 : decode cX2_copyFrom 23 = .ok (.iload_n 2, 1) := by decide +kernel
theorem dX2_copyFrom_24 : decode cX2_copyFrom 24 = .ok (.aload_n 1, 1) := by decide +kernel
theorem dX2_copyFrom_25 : decode cX2_copyFrom 25 = .ok (.getfield 15, 3) := by decide +kernel
theorem dX2_copyFrom_28 : decode cX2_copyFrom 28 = .ok (.iload_n 2, 1) := by decide +kernel
theorem dX2_copyFrom_29 : decode cX2_copyFrom 29 = .ok (.baload, 1) := by decide +kernel
theorem dX2_copyFrom_30 : decode cX2_copyFrom 30 = .ok (.bastore, 1) := by decide +kernel
theorem dX2_copyFrom_31 : decode cX2_copyFrom 31 = .ok (.iinc 2 1, 3) := by decide +kernel
theorem dX2_copyFrom_34 : decode cX2_copyFrom 34 = .ok (.goto (-32), 3) := by decide +kernel
theorem dX2_copyFrom_37 : decode cX2_copyFrom 37 = .ok (.iconst 0, 1) := by decide +kernel
theorem dX2_copyFrom_38 : decode cX2_copyFrom 38 = .ok (.istore_n 2, 1) := by decide +kernel
theorem dX2_copyFrom_39 : decode cX2_copyFrom 39 = .ok (.iload_n 2, 1) := by decide +kernel
theorem dX2_copyFrom_40 : decode cX2_copyFrom 40 = .ok (.bipush 8, 2) := by decide +kernel
theorem dX2_copyFrom_42 : decode cX2_copyFrom 42 = .ok (.if_icmp .ge 24, 3) := by decide +kernel
theorem dX2_copyFrom_45 : decode cX2_copyFrom 45 = .ok (.aload_n 0, 1) := by decide +kernel
theorem dX2_copyFrom_46 : decode cX2_copyFrom 46 = .ok (.getfield 21, 3) := by decide +kernel
theorem dX2_copyFrom_49 : decode cX2_copyFrom 49 = .ok (.iload_n 2, 1) := by decide +kernel
theorem dX2_copyFrom_50 : decode cX2_copyFrom 50 = .ok (.aaload, 1) := by decide +kernel
theorem dX2_copyFrom_51 : decode cX2_copyFrom 51 = .ok (.aload_n 1, 1) := by decide +kernel
theorem dX2_copyFrom_52 : decode cX2_copyFrom 52 = .ok (.getfield 21, 3) := by decide +kernel
theorem dX2_copyFrom_55 : decode cX2_copyFrom 55 = .ok (.iload_n 2, 1) := by decide +kernel
theorem dX2_copyFrom_56 : decode cX2_copyFrom 56 = .ok (.aaload, 1) := by decide +kernel
theorem dX2_copyFrom_57 : decode cX2_copyFrom 57 = .ok (.invokevirtual 43, 3) := by decide +kernel
theorem dX2_copyFrom_60 : decode cX2_copyFrom 60 = .ok (.iinc 2 1, 3) := by decide +kernel
theorem dX2_copyFrom_63 : decode cX2_copyFrom 63 = .ok (.goto (-24), 3) := by decide +kernel
theorem dX2_copyFrom_66 : decode cX2_copyFrom 66 = .ok (.aload_n 0, 1) := by decide +kernel
theorem dX2_copyFrom_67 : decode cX2_copyFrom 67 = .ok (.getfield 28, 3) := by decide +kernel
theorem dX2_copyFrom_70 : decode cX2_copyFrom 70 = .ok (.aload_n 1, 1) := by decide +kernel
theorem dX2_copyFrom_71 : decode cX2_copyFrom 71 = .ok (.getfield 28, 3) := by decide +kernel
theorem dX2_copyFrom_74 : decode cX2_copyFrom 74 = .ok (.invokevirtual 47, 3) := by decide +kernel
theorem dX2_copyFrom_77 : decode cX2_copyFrom 77 = .ok (.aload_n 0, 1) := by decide +kernel
theorem dX2_copyFrom_78 : decode cX2_copyFrom 78 = .ok (.aload_n 1, 1) := by decide +kernel
theorem dX2_copyFrom_79 : decode cX2_copyFrom 79 = .ok (.getfield 50, 3) := by decide +kernel
theorem dX2_copyFrom_82 : decode cX2_copyFrom 82 = .ok (.putfield 50, 3) := by decide +kernel
theorem dX2_copyFrom_85 : decode cX2_copyFrom 85 = .ok (.aload_n 0, 1) := by decide +kernel
theorem dX2_copyFrom_86 : decode cX2_copyFrom 86 = .ok (.aload_n 1, 1) := by decide +kernel
theorem dX2_copyFrom_87 : decode cX2_copyFrom 87 = .ok (.getfield 32, 3) := by decide +kernel
theorem dX2_copyFrom_90 : decode cX2_copyFrom 90 = .ok (.putfield 32, 3) := by decide +kernel
theorem dX2_copyFrom_93 : decode cX2_copyFrom 93 = .ok (.aload_n 0, 1) := by decide +kernel
theorem dX2_copyFrom_94 : decode cX2_copyFrom 94 = .ok (.aload_n 1, 1) := by decide +kernel
theorem dX2_copyFrom_95 : decode cX2_copyFrom 95 = .ok (.getfield 36, 3) := by decide +kernel
theorem dX2_copyFrom_98 : decode cX2_copyFrom 98 = .ok (.putfield 36, 3) := by decide +kernel
theorem dX2_copyFrom_101 : decode cX2_copyFrom 101 = .ok (.aload_n 0, 1) := by decide +kernel
theorem dX2_copyFrom_102 : decode cX2_copyFrom 102 = .ok (.aload_n 1, 1) := by decide +kernel
theorem dX2_copyFrom_103 : decode cX2_copyFrom 103 = .ok (.getfield 39, 3) := by decide +kernel
theorem dX2_copyFrom_106 : decode cX2_copyFrom 106 = .ok (.putfield 39, 3) := by decide +kernel
theorem dX2_copyFrom_109 : decode cX2_copyFrom 109 = .ok (.aload_n 0, 1) := by decide +kernel
theorem dX2_copyFrom_110 : decode cX2_copyFrom 110 = .ok (.aload_n 1, 1) := by decide +kernel
theorem dX2_copyFrom_111 : decode cX2_copyFrom 111 = .ok (.getfield 53, 3) := by decide +kernel
theorem dX2_copyFrom_114 : decode cX2_copyFrom 114 = .ok (.putfield 53, 3) := by decide +kernel
theorem dX2_copyFrom_117 : decode cX2_copyFrom 117 = .ok (.aload_n 0, 1) := by decide +kernel
theorem dX2_copyFrom_118 : decode cX2_copyFrom 118 = .ok (.aload_n 1, 1) := by decide +kernel
theorem dX2_copyFrom_119 : decode cX2_copyFrom 119 = .ok (.getfield 56, 3) := by decide +kernel
theorem dX2_copyFrom_122 : decode cX2_copyFrom 122 = .ok (.putfield 56, 3) := by decide +kernel
theorem dX2_copyFrom_125 : decode cX2_copyFrom 125 = .ok (.return_, 1) := by decide +kernel
theorem dX2_wholeBudget_0 : decode cX2_wholeBudget 0 = .ok (.iconst 0, 1) := by decide +kernel
theorem dX2_wholeBudget_1 : decode cX2_wholeBudget 1 = .ok (.istore_n 1, 1) := by decide +kernel
theorem dX2_wholeBudget_2 : decode cX2_wholeBudget 2 = .ok (.iconst 0, 1) := by decide +kernel
theorem dX2_wholeBudget_3 : decode cX2_wholeBudget 3 = .ok (.istore_n 2, 1) := by decide +kernel
theorem dX2_wholeBudget_4 : decode cX2_wholeBudget 4 = .ok (.iload_n 2, 1) := by decide +kernel
theorem dX2_wholeBudget_5 : decode cX2_wholeBudget 5 = .ok (.iconst 3, 1) := by decide +kernel
theorem dX2_wholeBudget_6 : decode cX2_wholeBudget 6 = .ok (.if_icmp .ge 27, 3) := by decide +kernel
theorem dX2_wholeBudget_9 : decode cX2_wholeBudget 9 = .ok (.aload_n 0, 1) := by decide +kernel
theorem dX2_wholeBudget_10 : decode cX2_wholeBudget 10 = .ok (.getfield 15, 3) := by decide +kernel
theorem dX2_wholeBudget_13 : decode cX2_wholeBudget 13 = .ok (.iload_n 2, 1) := by decide +kernel
theorem dX2_wholeBudget_14 : decode cX2_wholeBudget 14 = .ok (.baload, 1) := by decide +kernel
theorem dX2_wholeBudget_15 : decode cX2_wholeBudget 15 = .ok (.ifCond .eq 12, 3) := by decide +kernel
theorem dX2_wholeBudget_18 : decode cX2_wholeBudget 18 = .ok (.iload_n 1, 1) := by decide +kernel
theorem dX2_wholeBudget_19 : decode cX2_wholeBudget 19 = .ok (.aload_n 0, 1) := by decide +kernel
theorem dX2_wholeBudget_20 : decode cX2_wholeBudget 20 = .ok (.getfield 9, 3) := by decide +kernel
theorem dX2_wholeBudget_23 : decode cX2_wholeBudget 23 = .ok (.iload_n 2, 1) := by decide +kernel
theorem dX2_wholeBudget_24 : decode cX2_wholeBudget 24 = .ok (.iaload, 1) := by decide +kernel
theorem dX2_wholeBudget_25 : decode cX2_wholeBudget 25 = .ok (.iadd, 1) := by decide +kernel
theorem dX2_wholeBudget_26 : decode cX2_wholeBudget 26 = .ok (.istore_n 1, 1) := by decide +kernel
theorem dX2_wholeBudget_27 : decode cX2_wholeBudget 27 = .ok (.iinc 2 1, 3) := by decide +kernel
theorem dX2_wholeBudget_30 : decode cX2_wholeBudget 30 = .ok (.goto (-26), 3) := by decide +kernel
theorem dX2_wholeBudget_33 : decode cX2_wholeBudget 33 = .ok (.iconst 0, 1) := by decide +kernel
theorem dX2_wholeBudget_34 : decode cX2_wholeBudget 34 = .ok (.iload_n 1, 1) := by decide +kernel
theorem dX2_wholeBudget_35 : decode cX2_wholeBudget 35 = .ok (.aload_n 0, 1) := by decide +kernel
theorem dX2_wholeBudget_36 : decode cX2_wholeBudget 36 = .ok (.getfield 50, 3) := by decide +kernel
theorem dX2_wholeBudget_39 : decode cX2_wholeBudget 39 = .ok (.isub, 1) := by decide +kernel
theorem dX2_wholeBudget_40 : decode cX2_wholeBudget 40 = .ok (.invokestatic 59, 3) := by decide +kernel
theorem dX2_wholeBudget_43 : decode cX2_wholeBudget 43 = .ok (.ireturn, 1) := by decide +kernel
theorem dX2_sparePower_0 : decode cX2_sparePower 0 = .ok (.aload_n 0, 1) := by decide +kernel
theorem dX2_sparePower_1 : decode cX2_sparePower 1 = .ok (.invokevirtual 65, 3) := by decide +kernel
theorem dX2_sparePower_4 : decode cX2_sparePower 4 = .ok (.istore_n 1, 1) := by decide +kernel
theorem dX2_sparePower_5 : decode cX2_sparePower 5 = .ok (.iconst 0, 1) := by decide +kernel
theorem dX2_sparePower_6 : decode cX2_sparePower 6 = .ok (.istore_n 2, 1) := by decide +kernel
theorem dX2_sparePower_7 : decode cX2_sparePower 7 = .ok (.iload_n 2, 1) := by decide +kernel
theorem dX2_sparePower_8 : decode cX2_sparePower 8 = .ok (.bipush 8, 2) := by decide +kernel
theorem dX2_sparePower_10 : decode cX2_sparePower 10 = .ok (.if_icmp .ge 21, 3) := by decide +kernel
theorem dX2_sparePower_13 : decode cX2_sparePower 13 = .ok (.iload_n 1, 1) := by decide +kernel
theorem dX2_sparePower_14 : decode cX2_sparePower 14 = .ok (.aload_n 0, 1) := by decide +kernel
theorem dX2_sparePower_15 : decode cX2_sparePower 15 = .ok (.getfield 21, 3) := by decide +kernel
theorem dX2_sparePower_18 : decode cX2_sparePower 18 = .ok (.iload_n 2, 1) := by decide +kernel
theorem dX2_sparePower_19 : decode cX2_sparePower 19 = .ok (.aaload, 1) := by decide +kernel
theorem dX2_sparePower_20 : decode cX2_sparePower 20 = .ok (.getfield 69, 3) := by decide +kernel
theorem dX2_sparePower_23 : decode cX2_sparePower 23 = .ok (.isub, 1) := by decide +kernel
theorem dX2_sparePower_24 : decode cX2_sparePower 24 = .ok (.istore_n 1, 1) := by decide +kernel
theorem dX2_sparePower_25 : decode cX2_sparePower 25 = .ok (.iinc 2 1, 3) := by decide +kernel
theorem dX2_sparePower_28 : decode cX2_sparePower 28 = .ok (.goto (-21), 3) := by decide +kernel
theorem dX2_sparePower_31 : decode cX2_sparePower 31 = .ok (.iload_n 1, 1) := by decide +kernel
theorem dX2_sparePower_32 : decode cX2_sparePower 32 = .ok (.ireturn, 1) := by decide +kernel
theorem dX2_eligibleSet_0 : decode cX2_eligibleSet 0 = .ok (.iconst 0, 1) := by decide +kernel
theorem dX2_eligibleSet_1 : decode cX2_eligibleSet 1 = .ok (.istore_n 1, 1) := by decide +kernel
theorem dX2_eligibleSet_2 : decode cX2_eligibleSet 2 = .ok (.iconst 0, 1) := by decide +kernel
theorem dX2_eligibleSet_3 : decode cX2_eligibleSet 3 = .ok (.istore_n 2, 1) := by decide +kernel
theorem dX2_eligibleSet_4 : decode cX2_eligibleSet 4 = .ok (.iload_n 2, 1) := by decide +kernel
theorem dX2_eligibleSet_5 : decode cX2_eligibleSet 5 = .ok (.bipush 8, 2) := by decide +kernel
theorem dX2_eligibleSet_7 : decode cX2_eligibleSet 7 = .ok (.if_icmp .ge 27, 3) := by decide +kernel
theorem dX2_eligibleSet_10 : decode cX2_eligibleSet 10 = .ok (.aload_n 0, 1) := by decide +kernel
theorem dX2_eligibleSet_11 : decode cX2_eligibleSet 11 = .ok (.getfield 21, 3) := by decide +kernel
theorem dX2_eligibleSet_14 : decode cX2_eligibleSet 14 = .ok (.iload_n 2, 1) := by decide +kernel
theorem dX2_eligibleSet_15 : decode cX2_eligibleSet 15 = .ok (.aaload, 1) := by decide +kernel
theorem dX2_eligibleSet_16 : decode cX2_eligibleSet 16 = .ok (.invokevirtual 72, 3) := by decide +kernel
theorem dX2_eligibleSet_19 : decode cX2_eligibleSet 19 = .ok (.ifCond .eq 9, 3) := by decide +kernel
theorem dX2_eligibleSet_22 : decode cX2_eligibleSet 22 = .ok (.iload_n 1, 1) := by decide +kernel
theorem dX2_eligibleSet_23 : decode cX2_eligibleSet 23 = .ok (.iconst 1, 1) := by decide +kernel
theorem dX2_eligibleSet_24 : decode cX2_eligibleSet 24 = .ok (.iload_n 2, 1) := by decide +kernel
theorem dX2_eligibleSet_25 : decode cX2_eligibleSet 25 = .ok (.ishl, 1) := by decide +kernel
theorem dX2_eligibleSet_26 : decode cX2_eligibleSet 26 = .ok (.ior, 1) := by decide +kernel
theorem dX2_eligibleSet_27 : decode cX2_eligibleSet 27 = .ok (.istore_n 1, 1) := by decide +kernel
theorem dX2_eligibleSet_28 : decode cX2_eligibleSet 28 = .ok (.iinc 2 1, 3) := by decide +kernel
theorem dX2_eligibleSet_31 : decode cX2_eligibleSet 31 = .ok (.goto (-27), 3) := by decide +kernel
theorem dX2_eligibleSet_34 : decode cX2_eligibleSet 34 = .ok (.iload_n 1, 1) := by decide +kernel
theorem dX2_eligibleSet_35 : decode cX2_eligibleSet 35 = .ok (.ireturn, 1) := by decide +kernel
theorem dX2_poweredSet_0 : decode cX2_poweredSet 0 = .ok (.iconst 0, 1) := by decide +kernel
theorem dX2_poweredSet_1 : decode cX2_poweredSet 1 = .ok (.istore_n 1, 1) := by decide +kernel
theorem dX2_poweredSet_2 : decode cX2_poweredSet 2 = .ok (.iconst 0, 1) := by decide +kernel
theorem dX2_poweredSet_3 : decode cX2_poweredSet 3 = .ok (.istore_n 2, 1) := by decide +kernel
theorem dX2_poweredSet_4 : decode cX2_poweredSet 4 = .ok (.iload_n 2, 1) := by decide +kernel
theorem dX2_poweredSet_5 : decode cX2_poweredSet 5 = .ok (.bipush 8, 2) := by decide +kernel
theorem dX2_poweredSet_7 : decode cX2_poweredSet 7 = .ok (.if_icmp .ge 27, 3) := by decide +kernel
theorem dX2_poweredSet_10 : decode cX2_poweredSet 10 = .ok (.aload_n 0, 1) := by decide +kernel
theorem dX2_poweredSet_11 : decode cX2_poweredSet 11 = .ok (.getfield 21, 3) := by decide +kernel
theorem dX2_poweredSet_14 : decode cX2_poweredSet 14 = .ok (.iload_n 2, 1) := by decide +kernel
theorem dX2_poweredSet_15 : decode cX2_poweredSet 15 = .ok (.aaload, 1) := by decide +kernel
theorem dX2_poweredSet_16 : decode cX2_poweredSet 16 = .ok (.invokevirtual 76, 3) := by decide +kernel
theorem dX2_poweredSet_19 : decode cX2_poweredSet 19 = .ok (.ifCond .eq 9, 3) := by decide +kernel
theorem dX2_poweredSet_22 : decode cX2_poweredSet 22 = .ok (.iload_n 1, 1) := by decide +kernel
theorem dX2_poweredSet_23 : decode cX2_poweredSet 23 = .ok (.iconst 1, 1) := by decide +kernel
theorem dX2_poweredSet_24 : decode cX2_poweredSet 24 = .ok (.iload_n 2, 1) := by decide +kernel
theorem dX2_poweredSet_25 : decode cX2_poweredSet 25 = .ok (.ishl, 1) := by decide +kernel
theorem dX2_poweredSet_26 : decode cX2_poweredSet 26 = .ok (.ior, 1) := by decide +kernel
theorem dX2_poweredSet_27 : decode cX2_poweredSet 27 = .ok (.istore_n 1, 1) := by decide +kernel
theorem dX2_poweredSet_28 : decode cX2_poweredSet 28 = .ok (.iinc 2 1, 3) := by decide +kernel
theorem dX2_poweredSet_31 : decode cX2_poweredSet 31 = .ok (.goto (-27), 3) := by decide +kernel
theorem dX2_poweredSet_34 : decode cX2_poweredSet 34 = .ok (.iload_n 1, 1) := by decide +kernel
theorem dX2_poweredSet_35 : decode cX2_poweredSet 35 = .ok (.ireturn, 1) := by decide +kernel
theorem dX2_fittingSet_0 : decode cX2_fittingSet 0 = .ok (.iconst 0, 1) := by decide +kernel
theorem dX2_fittingSet_1 : decode cX2_fittingSet 1 = .ok (.istore_n 1, 1) := by decide +kernel
theorem dX2_fittingSet_2 : decode cX2_fittingSet 2 = .ok (.aload_n 0, 1) := by decide +kernel
theorem dX2_fittingSet_3 : decode cX2_fittingSet 3 = .ok (.invokevirtual 65, 3) := by decide +kernel
theorem dX2_fittingSet_6 : decode cX2_fittingSet 6 = .ok (.istore_n 2, 1) := by decide +kernel
theorem dX2_fittingSet_7 : decode cX2_fittingSet 7 = .ok (.iconst 0, 1) := by decide +kernel
theorem dX2_fittingSet_8 : decode cX2_fittingSet 8 = .ok (.istore_n 3, 1) := by decide +kernel
theorem dX2_fittingSet_9 : decode cX2_fittingSet 9 = .ok (.iload_n 3, 1) := by decide +kernel
theorem dX2_fittingSet_10 : decode cX2_fittingSet 10 = .ok (.iconst 2, 1) := by decide +kernel
theorem dX2_fittingSet_11 : decode cX2_fittingSet 11 = .ok (.if_icmp .gt 75, 3) := by decide +kernel
theorem dX2_fittingSet_14 : decode cX2_fittingSet 14 = .ok (.iconst 0, 1) := by decide +kernel
theorem dX2_fittingSet_15 : decode cX2_fittingSet 15 = .ok (.istore 4, 2) := by decide +kernel
theorem dX2_fittingSet_17 : decode cX2_fittingSet 17 = .ok (.iload 4, 2) := by decide +kernel
theorem dX2_fittingSet_19 : decode cX2_fittingSet 19 = .ok (.bipush 8, 2) := by decide +kernel
theorem dX2_fittingSet_21 : decode cX2_fittingSet 21 = .ok (.if_icmp .ge 59, 3) := by decide +kernel
theorem dX2_fittingSet_24 : decode cX2_fittingSet 24 = .ok (.aload_n 0, 1) := by decide +kernel
theorem dX2_fittingSet_25 : decode cX2_fittingSet 25 = .ok (.getfield 21, 3) := by decide +kernel
theorem dX2_fittingSet_28 : decode cX2_fittingSet 28 = .ok (.iload 4, 2) := by decide +kernel
theorem dX2_fittingSet_30 : decode cX2_fittingSet 30 = .ok (.aaload, 1) := by decide +kernel
theorem dX2_fittingSet_31 : decode cX2_fittingSet 31 = .ok (.astore 5, 2) := by decide +kernel
theorem dX2_fittingSet_33 : decode cX2_fittingSet 33 = .ok (.aload 5, 2) := by decide +kernel
theorem dX2_fittingSet_35 : decode cX2_fittingSet 35 = .ok (.getfield 79, 3) := by decide +kernel
theorem dX2_fittingSet_38 : decode cX2_fittingSet 38 = .ok (.iload_n 3, 1) := by decide +kernel
theorem dX2_fittingSet_39 : decode cX2_fittingSet 39 = .ok (.if_icmp .ne 35, 3) := by decide +kernel
theorem dX2_fittingSet_42 : decode cX2_fittingSet 42 = .ok (.aload 5, 2) := by decide +kernel
theorem dX2_fittingSet_44 : decode cX2_fittingSet 44 = .ok (.invokevirtual 72, 3) := by decide +kernel
theorem dX2_fittingSet_47 : decode cX2_fittingSet 47 = .ok (.ifCond .eq 27, 3) := by decide +kernel
theorem dX2_fittingSet_50 : decode cX2_fittingSet 50 = .ok (.aload 5, 2) := by decide +kernel
theorem dX2_fittingSet_52 : decode cX2_fittingSet 52 = .ok (.getfield 82, 3) := by decide +kernel
theorem dX2_fittingSet_55 : decode cX2_fittingSet 55 = .ok (.iload_n 2, 1) := by decide +kernel
theorem dX2_fittingSet_56 : decode cX2_fittingSet 56 = .ok (.if_icmp .gt 18, 3) := by decide +kernel
theorem dX2_fittingSet_59 : decode cX2_fittingSet 59 = .ok (.iload_n 1, 1) := by decide +kernel
theorem dX2_fittingSet_60 : decode cX2_fittingSet 60 = .ok (.iconst 1, 1) := by decide +kernel
theorem dX2_fittingSet_61 : decode cX2_fittingSet 61 = .ok (.iload 4, 2) := by decide +kernel
theorem dX2_fittingSet_63 : decode cX2_fittingSet 63 = .ok (.ishl, 1) := by decide +kernel
theorem dX2_fittingSet_64 : decode cX2_fittingSet 64 = .ok (.ior, 1) := by decide +kernel
theorem dX2_fittingSet_65 : decode cX2_fittingSet 65 = .ok (.istore_n 1, 1) := by decide +kernel
theorem dX2_fittingSet_66 : decode cX2_fittingSet 66 = .ok (.iload_n 2, 1) := by decide +kernel
theorem dX2_fittingSet_67 : decode cX2_fittingSet 67 = .ok (.aload 5, 2) := by decide +kernel
theorem dX2_fittingSet_69 : decode cX2_fittingSet 69 = .ok (.getfield 82, 3) := by decide +kernel
theorem dX2_fittingSet_72 : decode cX2_fittingSet 72 = .ok (.isub, 1) := by decide +kernel
theorem dX2_fittingSet_73 : decode cX2_fittingSet 73 = .ok (.istore_n 2, 1) := by decide +kernel
theorem dX2_fittingSet_74 : decode cX2_fittingSet 74 = .ok (.iinc 4 1, 3) := by decide +kernel
theorem dX2_fittingSet_77 : decode cX2_fittingSet 77 = .ok (.goto (-60), 3) := by decide +kernel
theorem dX2_fittingSet_80 : decode cX2_fittingSet 80 = .ok (.iinc 3 1, 3) := by decide +kernel
theorem dX2_fittingSet_83 : decode cX2_fittingSet 83 = .ok (.goto (-74), 3) := by decide +kernel
theorem dX2_fittingSet_86 : decode cX2_fittingSet 86 = .ok (.iload_n 1, 1) := by decide +kernel
theorem dX2_fittingSet_87 : decode cX2_fittingSet 87 = .ok (.ireturn, 1) := by decide +kernel
theorem dX2_runSecond_0 : decode cX2_runSecond 0 = .ok (.aload_n 0, 1) := by decide +kernel
theorem dX2_runSecond_1 : decode cX2_runSecond 1 = .ok (.invokevirtual 85, 3) := by decide +kernel
theorem dX2_runSecond_4 : decode cX2_runSecond 4 = .ok (.istore_n 1, 1) := by decide +kernel
theorem dX2_runSecond_5 : decode cX2_runSecond 5 = .ok (.aload_n 0, 1) := by decide +kernel
theorem dX2_runSecond_6 : decode cX2_runSecond 6 = .ok (.invokevirtual 88, 3) := by decide +kernel
theorem dX2_runSecond_9 : decode cX2_runSecond 9 = .ok (.istore_n 2, 1) := by decide +kernel
theorem dX2_runSecond_10 : decode cX2_runSecond 10 = .ok (.aload_n 0, 1) := by decide +kernel
theorem dX2_runSecond_11 : decode cX2_runSecond 11 = .ok (.iload_n 2, 1) := by decide +kernel
theorem dX2_runSecond_12 : decode cX2_runSecond 12 = .ok (.invokevirtual 91, 3) := by decide +kernel
theorem dX2_runSecond_15 : decode cX2_runSecond 15 = .ok (.aload_n 0, 1) := by decide +kernel
theorem dX2_runSecond_16 : decode cX2_runSecond 16 = .ok (.invokevirtual 95, 3) := by decide +kernel
theorem dX2_runSecond_19 : decode cX2_runSecond 19 = .ok (.istore_n 3, 1) := by decide +kernel
theorem dX2_runSecond_20 : decode cX2_runSecond 20 = .ok (.aload_n 0, 1) := by decide +kernel
theorem dX2_runSecond_21 : decode cX2_runSecond 21 = .ok (.dup, 1) := by decide +kernel
theorem dX2_runSecond_22 : decode cX2_runSecond 22 = .ok (.getfield 56, 3) := by decide +kernel
theorem dX2_runSecond_25 : decode cX2_runSecond 25 = .ok (.iconst 1, 1) := by decide +kernel
theorem dX2_runSecond_26 : decode cX2_runSecond 26 = .ok (.iadd, 1) := by decide +kernel
theorem dX2_runSecond_27 : decode cX2_runSecond 27 = .ok (.putfield 56, 3) := by decide +kernel
theorem dX2_runSecond_30 : decode cX2_runSecond 30 = .ok (.iload_n 1, 1) := by decide +kernel
theorem dX2_runSecond_31 : decode cX2_runSecond 31 = .ok (.invokestatic 98, 3) := by decide +kernel
theorem dX2_runSecond_34 : decode cX2_runSecond 34 = .ok (.iload_n 2, 1) := by decide +kernel
theorem dX2_runSecond_35 : decode cX2_runSecond 35 = .ok (.invokestatic 98, 3) := by decide +kernel
theorem dX2_runSecond_38 : decode cX2_runSecond 38 = .ok (.iadd, 1) := by decide +kernel
theorem dX2_runSecond_39 : decode cX2_runSecond 39 = .ok (.iload_n 3, 1) := by decide +kernel
theorem dX2_runSecond_40 : decode cX2_runSecond 40 = .ok (.iadd, 1) := by decide +kernel
theorem dX2_runSecond_41 : decode cX2_runSecond 41 = .ok (.ireturn, 1) := by decide +kernel
theorem dX2_shedPorts_0 : decode cX2_shedPorts 0 = .ok (.iconst 0, 1) := by decide +kernel
theorem dX2_shedPorts_1 : decode cX2_shedPorts 1 = .ok (.istore_n 1, 1) := by decide +kernel
theorem dX2_shedPorts_2 : decode cX2_shedPorts 2 = .ok (.iconst 0, 1) := by decide +kernel
theorem dX2_shedPorts_3 : decode cX2_shedPorts 3 = .ok (.istore_n 2, 1) := by decide +kernel
theorem dX2_shedPorts_4 : decode cX2_shedPorts 4 = .ok (.iload_n 2, 1) := by decide +kernel
theorem dX2_shedPorts_5 : decode cX2_shedPorts 5 = .ok (.bipush 8, 2) := by decide +kernel
theorem dX2_shedPorts_7 : decode cX2_shedPorts 7 = .ok (.if_icmp .ge 55, 3) := by decide +kernel
theorem dX2_shedPorts_10 : decode cX2_shedPorts 10 = .ok (.aload_n 0, 1) := by decide +kernel
theorem dX2_shedPorts_11 : decode cX2_shedPorts 11 = .ok (.invokevirtual 104, 3) := by decide +kernel
theorem dX2_shedPorts_14 : decode cX2_shedPorts 14 = .ok (.ifCond .ge 48, 3) := by decide +kernel
theorem dX2_shedPorts_17 : decode cX2_shedPorts 17 = .ok (.aload_n 0, 1) := by decide +kernel
theorem dX2_shedPorts_18 : decode cX2_shedPorts 18 = .ok (.invokevirtual 107, 3) := by decide +kernel
theorem dX2_shedPorts_21 : decode cX2_shedPorts 21 = .ok (.istore_n 3, 1) := by decide +kernel
theorem dX2_shedPorts_22 : decode cX2_shedPorts 22 = .ok (.iload_n 3, 1) := by decide +kernel
theorem dX2_shedPorts_23 : decode cX2_shedPorts 23 = .ok (.bipush (-6), 2) := by decide +kernel
theorem dX2_shedPorts_25 : decode cX2_shedPorts 25 = .ok (.if_icmp .eq 31, 3) := by decide +kernel
theorem dX2_shedPorts_28 : decode cX2_shedPorts 28 = .ok (.aload_n 0, 1) := by decide +kernel
theorem dX2_shedPorts_29 : decode cX2_shedPorts 29 = .ok (.getfield 21, 3) := by decide +kernel
theorem dX2_shedPorts_32 : decode cX2_shedPorts 32 = .ok (.iload_n 3, 1) := by decide +kernel
theorem dX2_shedPorts_33 : decode cX2_shedPorts 33 = .ok (.aaload, 1) := by decide +kernel
theorem dX2_shedPorts_34 : decode cX2_shedPorts 34 = .ok (.invokevirtual 110, 3) := by decide +kernel
theorem dX2_shedPorts_37 : decode cX2_shedPorts 37 = .ok (.aload_n 0, 1) := by decide +kernel
theorem dX2_shedPorts_38 : decode cX2_shedPorts 38 = .ok (.getfield 28, 3) := by decide +kernel
theorem dX2_shedPorts_41 : decode cX2_shedPorts 41 = .ok (.aload_n 0, 1) := by decide +kernel
theorem dX2_shedPorts_42 : decode cX2_shedPorts 42 = .ok (.getfield 56, 3) := by decide +kernel
theorem dX2_shedPorts_45 : decode cX2_shedPorts 45 = .ok (.iload_n 3, 1) := by decide +kernel
theorem dX2_shedPorts_46 : decode cX2_shedPorts 46 = .ok (.iconst 1, 1) := by decide +kernel
theorem dX2_shedPorts_47 : decode cX2_shedPorts 47 = .ok (.invokevirtual 113, 3) := by decide +kernel
theorem dX2_shedPorts_50 : decode cX2_shedPorts 50 = .ok (.iload_n 1, 1) := by decide +kernel
theorem dX2_shedPorts_51 : decode cX2_shedPorts 51 = .ok (.iconst 1, 1) := by decide +kernel
theorem dX2_shedPorts_52 : decode cX2_shedPorts 52 = .ok (.iload_n 3, 1) := by decide +kernel
theorem dX2_shedPorts_53 : decode cX2_shedPorts 53 = .ok (.ishl, 1) := by decide +kernel
theorem dX2_shedPorts_54 : decode cX2_shedPorts 54 = .ok (.ior, 1) := by decide +kernel
theorem dX2_shedPorts_55 : decode cX2_shedPorts 55 = .ok (.istore_n 1, 1) := by decide +kernel
theorem dX2_shedPorts_56 : decode cX2_shedPorts 56 = .ok (.iinc 2 1, 3) := by decide +kernel
theorem dX2_shedPorts_59 : decode cX2_shedPorts 59 = .ok (.goto (-55), 3) := by decide +kernel
theorem dX2_shedPorts_62 : decode cX2_shedPorts 62 = .ok (.iload_n 1, 1) := by decide +kernel
theorem dX2_shedPorts_63 : decode cX2_shedPorts 63 = .ok (.ireturn, 1) := by decide +kernel
theorem dX2_lastPoweredPort_0 : decode cX2_lastPoweredPort 0 = .ok (.bipush (-6), 2) := by decide +kernel
theorem dX2_lastPoweredPort_2 : decode cX2_lastPoweredPort 2 = .ok (.istore_n 1, 1) := by decide +kernel
theorem dX2_lastPoweredPort_3 : decode cX2_lastPoweredPort 3 = .ok (.iconst 0, 1) := by decide +kernel
theorem dX2_lastPoweredPort_4 : decode cX2_lastPoweredPort 4 = .ok (.istore_n 2, 1) := by decide +kernel
theorem dX2_lastPoweredPort_5 : decode cX2_lastPoweredPort 5 = .ok (.iconst 0, 1) := by decide +kernel
theorem dX2_lastPoweredPort_6 : decode cX2_lastPoweredPort 6 = .ok (.istore_n 3, 1) := by decide +kernel
theorem dX2_lastPoweredPort_7 : decode cX2_lastPoweredPort 7 = .ok (.iload_n 3, 1) := by decide +kernel
theorem dX2_lastPoweredPort_8 : decode cX2_lastPoweredPort 8 = .ok (.bipush 8, 2) := by decide +kernel
theorem dX2_lastPoweredPort_10 : decode cX2_lastPoweredPort 10 = .ok (.if_icmp .ge 42, 3) := by decide +kernel
theorem dX2_lastPoweredPort_13 : decode cX2_lastPoweredPort 13 = .ok (.aload_n 0, 1) := by decide +kernel
theorem dX2_lastPoweredPort_14 : decode cX2_lastPoweredPort 14 = .ok (.getfield 21, 3) := by decide +kernel
theorem dX2_lastPoweredPort_17 : decode cX2_lastPoweredPort 17 = .ok (.iload_n 3, 1) := by decide +kernel
theorem dX2_lastPoweredPort_18 : decode cX2_lastPoweredPort 18 = .ok (.aaload, 1) := by decide +kernel
theorem dX2_lastPoweredPort_19 : decode cX2_lastPoweredPort 19 = .ok (.astore 4, 2) := by decide +kernel
theorem dX2_lastPoweredPort_21 : decode cX2_lastPoweredPort 21 = .ok (.aload 4, 2) := by decide +kernel
theorem dX2_lastPoweredPort_23 : decode cX2_lastPoweredPort 23 = .ok (.invokevirtual 76, 3) := by decide +kernel
theorem dX2_lastPoweredPort_26 : decode cX2_lastPoweredPort 26 = .ok (.ifCond .eq 20, 3) := by decide +kernel
theorem dX2_lastPoweredPort_29 : decode cX2_lastPoweredPort 29 = .ok (.aload 4, 2) := by decide +kernel
theorem dX2_lastPoweredPort_31 : decode cX2_lastPoweredPort 31 = .ok (.getfield 79, 3) := by decide +kernel
theorem dX2_lastPoweredPort_34 : decode cX2_lastPoweredPort 34 = .ok (.iload_n 2, 1) := by decide +kernel
theorem dX2_lastPoweredPort_35 : decode cX2_lastPoweredPort 35 = .ok (.if_icmp .lt 11, 3) := by decide +kernel
theorem dX2_lastPoweredPort_38 : decode cX2_lastPoweredPort 38 = .ok (.iload_n 3, 1) := by decide +kernel
theorem dX2_lastPoweredPort_39 : decode cX2_lastPoweredPort 39 = .ok (.istore_n 1, 1) := by decide +kernel
theorem dX2_lastPoweredPort_40 : decode cX2_lastPoweredPort 40 = .ok (.aload 4, 2) := by decide +kernel
theorem dX2_lastPoweredPort_42 : decode cX2_lastPoweredPort 42 = .ok (.getfield 79, 3) := by decide +kernel
theorem dX2_lastPoweredPort_45 : decode cX2_lastPoweredPort 45 = .ok (.istore_n 2, 1) := by decide +kernel
theorem dX2_lastPoweredPort_46 : decode cX2_lastPoweredPort 46 = .ok (.iinc 3 1, 3) := by decide +kernel
theorem dX2_lastPoweredPort_49 : decode cX2_lastPoweredPort 49 = .ok (.goto (-42), 3) := by decide +kernel
theorem dX2_lastPoweredPort_52 : decode cX2_lastPoweredPort 52 = .ok (.iload_n 1, 1) := by decide +kernel
theorem dX2_lastPoweredPort_53 : decode cX2_lastPoweredPort 53 = .ok (.ireturn, 1) := by decide +kernel
theorem dX2_cutPorts_0 : decode cX2_cutPorts 0 = .ok (.iconst 0, 1) := by decide +kernel
theorem dX2_cutPorts_1 : decode cX2_cutPorts 1 = .ok (.istore_n 1, 1) := by decide +kernel
theorem dX2_cutPorts_2 : decode cX2_cutPorts 2 = .ok (.iconst 0, 1) := by decide +kernel
theorem dX2_cutPorts_3 : decode cX2_cutPorts 3 = .ok (.istore_n 2, 1) := by decide +kernel
theorem dX2_cutPorts_4 : decode cX2_cutPorts 4 = .ok (.iload_n 2, 1) := by decide +kernel
theorem dX2_cutPorts_5 : decode cX2_cutPorts 5 = .ok (.bipush 8, 2) := by decide +kernel
theorem dX2_cutPorts_7 : decode cX2_cutPorts 7 = .ok (.if_icmp .ge 79, 3) := by decide +kernel
theorem dX2_cutPorts_10 : decode cX2_cutPorts 10 = .ok (.aload_n 0, 1) := by decide +kernel
theorem dX2_cutPorts_11 : decode cX2_cutPorts 11 = .ok (.getfield 21, 3) := by decide +kernel
theorem dX2_cutPorts_14 : decode cX2_cutPorts 14 = .ok (.iload_n 2, 1) := by decide +kernel
theorem dX2_cutPorts_15 : decode cX2_cutPorts 15 = .ok (.aaload, 1) := by decide +kernel
theorem dX2_cutPorts_16 : decode cX2_cutPorts 16 = .ok (.astore_n 3, 1) := by decide +kernel
theorem dX2_cutPorts_17 : decode cX2_cutPorts 17 = .ok (.aload_n 3, 1) := by decide +kernel
theorem dX2_cutPorts_18 : decode cX2_cutPorts 18 = .ok (.aload_n 3, 1) := by decide +kernel
theorem dX2_cutPorts_19 : decode cX2_cutPorts 19 = .ok (.invokevirtual 117, 3) := by decide +kernel
theorem dX2_cutPorts_22 : decode cX2_cutPorts 22 = .ok (.ifCond .eq 12, 3) := by decide +kernel
theorem dX2_cutPorts_25 : decode cX2_cutPorts 25 = .ok (.aload_n 3, 1) := by decide +kernel
theorem dX2_cutPorts_26 : decode cX2_cutPorts 26 = .ok (.getfield 120, 3) := by decide +kernel
theorem dX2_cutPorts_29 : decode cX2_cutPorts 29 = .ok (.iconst 1, 1) := by decide +kernel
theorem dX2_cutPorts_30 : decode cX2_cutPorts 30 = .ok (.iadd, 1) := by decide +kernel
theorem dX2_cutPorts_31 : decode cX2_cutPorts 31 = .ok (.goto 4, 3) := by decide +kernel
theorem dX2_cutPorts_34 : decode cX2_cutPorts 34 = .ok (.iconst 0, 1) := by decide +kernel
theorem dX2_cutPorts_35 : decode cX2_cutPorts 35 = .ok (.putfield 120, 3) := by decide +kernel
theorem dX2_cutPorts_38 : decode cX2_cutPorts 38 = .ok (.aload_n 3, 1) := by decide +kernel
theorem dX2_cutPorts_39 : decode cX2_cutPorts 39 = .ok (.getfield 120, 3) := by decide +kernel
theorem dX2_cutPorts_42 : decode cX2_cutPorts 42 = .ok (.aload_n 0, 1) := by decide +kernel
theorem dX2_cutPorts_43 : decode cX2_cutPorts 43 = .ok (.getfield 36, 3) := by decide +kernel
theorem dX2_cutPorts_46 : decode cX2_cutPorts 46 = .ok (.if_icmp .lt 34, 3) := by decide +kernel
theorem dX2_cutPorts_49 : decode cX2_cutPorts 49 = .ok (.aload_n 3, 1) := by decide +kernel
theorem dX2_cutPorts_50 : decode cX2_cutPorts 50 = .ok (.invokevirtual 110, 3) := by decide +kernel
theorem dX2_cutPorts_53 : decode cX2_cutPorts 53 = .ok (.aload_n 3, 1) := by decide +kernel
theorem dX2_cutPorts_54 : decode cX2_cutPorts 54 = .ok (.aload_n 0, 1) := by decide +kernel
theorem dX2_cutPorts_55 : decode cX2_cutPorts 55 = .ok (.getfield 39, 3) := by decide +kernel
theorem dX2_cutPorts_58 : decode cX2_cutPorts 58 = .ok (.putfield 123, 3) := by decide +kernel
theorem dX2_cutPorts_61 : decode cX2_cutPorts 61 = .ok (.aload_n 0, 1) := by decide +kernel
theorem dX2_cutPorts_62 : decode cX2_cutPorts 62 = .ok (.getfield 28, 3) := by decide +kernel
theorem dX2_cutPorts_65 : decode cX2_cutPorts 65 = .ok (.aload_n 0, 1) := by decide +kernel
theorem dX2_cutPorts_66 : decode cX2_cutPorts 66 = .ok (.getfield 56, 3) := by decide +kernel
theorem dX2_cutPorts_69 : decode cX2_cutPorts 69 = .ok (.iload_n 2, 1) := by decide +kernel
theorem dX2_cutPorts_70 : decode cX2_cutPorts 70 = .ok (.iconst 2, 1) := by decide +kernel
theorem dX2_cutPorts_71 : decode cX2_cutPorts 71 = .ok (.invokevirtual 113, 3) := by decide +kernel
theorem dX2_cutPorts_74 : decode cX2_cutPorts 74 = .ok (.iload_n 1, 1) := by decide +kernel
theorem dX2_cutPorts_75 : decode cX2_cutPorts 75 = .ok (.iconst 1, 1) := by decide +kernel
theorem dX2_cutPorts_76 : decode cX2_cutPorts 76 = .ok (.iload_n 2, 1) := by decide +kernel
theorem dX2_cutPorts_77 : decode cX2_cutPorts 77 = .ok (.ishl, 1) := by decide +kernel
theorem dX2_cutPorts_78 : decode cX2_cutPorts 78 = .ok (.ior, 1) := by decide +kernel
theorem dX2_cutPorts_79 : decode cX2_cutPorts 79 = .ok (.istore_n 1, 1) := by decide +kernel
theorem dX2_cutPorts_80 : decode cX2_cutPorts 80 = .ok (.iinc 2 1, 3) := by decide +kernel
theorem dX2_cutPorts_83 : decode cX2_cutPorts 83 = .ok (.goto (-79), 3) := by decide +kernel
theorem dX2_cutPorts_86 : decode cX2_cutPorts 86 = .ok (.iload_n 1, 1) := by decide +kernel
theorem dX2_cutPorts_87 : decode cX2_cutPorts 87 = .ok (.ireturn, 1) := by decide +kernel
theorem dX2_coolDownExcept_0 : decode cX2_coolDownExcept 0 = .ok (.iconst 0, 1) := by decide +kernel
theorem dX2_coolDownExcept_1 : decode cX2_coolDownExcept 1 = .ok (.istore_n 2, 1) := by decide +kernel
theorem dX2_coolDownExcept_2 : decode cX2_coolDownExcept 2 = .ok (.iload_n 2, 1) := by decide +kernel
theorem dX2_coolDownExcept_3 : decode cX2_coolDownExcept 3 = .ok (.bipush 8, 2) := by decide +kernel
theorem dX2_coolDownExcept_5 : decode cX2_coolDownExcept 5 = .ok (.if_icmp .ge 54, 3) := by decide +kernel
theorem dX2_coolDownExcept_8 : decode cX2_coolDownExcept 8 = .ok (.iload_n 1, 1) := by decide +kernel
theorem dX2_coolDownExcept_9 : decode cX2_coolDownExcept 9 = .ok (.iconst 1, 1) := by decide +kernel
theorem dX2_coolDownExcept_10 : decode cX2_coolDownExcept 10 = .ok (.iload_n 2, 1) := by decide +kernel
theorem dX2_coolDownExcept_11 : decode cX2_coolDownExcept 11 = .ok (.ishl, 1) := by decide +kernel
theorem dX2_coolDownExcept_12 : decode cX2_coolDownExcept 12 = .ok (.iand, 1) := by decide +kernel
theorem dX2_coolDownExcept_13 : decode cX2_coolDownExcept 13 = .ok (.ifCond .eq 7, 3) := by decide +kernel
theorem dX2_coolDownExcept_16 : decode cX2_coolDownExcept 16 = .ok (.iconst 1, 1) := by decide +kernel
theorem dX2_coolDownExcept_17 : decode cX2_coolDownExcept 17 = .ok (.goto 4, 3) := by decide +kernel
theorem dX2_coolDownExcept_20 : decode cX2_coolDownExcept 20 = .ok (.iconst 0, 1) := by decide +kernel
theorem dX2_coolDownExcept_21 : decode cX2_coolDownExcept 21 = .ok (.istore_n 3, 1) := by decide +kernel
theorem dX2_coolDownExcept_22 : decode cX2_coolDownExcept 22 = .ok (.iload_n 3, 1) := by decide +kernel
theorem dX2_coolDownExcept_23 : decode cX2_coolDownExcept 23 = .ok (.ifCond .ne 30, 3) := by decide +kernel
theorem dX2_coolDownExcept_26 : decode cX2_coolDownExcept 26 = .ok (.aload_n 0, 1) := by decide +kernel
theorem dX2_coolDownExcept_27 : decode cX2_coolDownExcept 27 = .ok (.getfield 21, 3) := by decide +kernel
theorem dX2_coolDownExcept_30 : decode cX2_coolDownExcept 30 = .ok (.iload_n 2, 1) := by decide +kernel
theorem dX2_coolDownExcept_31 : decode cX2_coolDownExcept 31 = .ok (.aaload, 1) := by decide +kernel
theorem dX2_coolDownExcept_32 : decode cX2_coolDownExcept 32 = .ok (.getfield 123, 3) := by decide +kernel
theorem dX2_coolDownExcept_35 : decode cX2_coolDownExcept 35 = .ok (.ifCond .le 18, 3) := by decide +kernel
theorem dX2_coolDownExcept_38 : decode cX2_coolDownExcept 38 = .ok (.aload_n 0, 1) := by decide +kernel
theorem dX2_coolDownExcept_39 : decode cX2_coolDownExcept 39 = .ok (.getfield 21, 3) := by decide +kernel
theorem dX2_coolDownExcept_42 : decode cX2_coolDownExcept 42 = .ok (.iload_n 2, 1) := by decide +kernel
theorem dX2_coolDownExcept_43 : decode cX2_coolDownExcept 43 = .ok (.aaload, 1) := by decide +kernel
theorem dX2_coolDownExcept_44 : decode cX2_coolDownExcept 44 = .ok (.dup, 1) := by decide +kernel
theorem dX2_coolDownExcept_45 : decode cX2_coolDownExcept 45 = .ok (.getfield 123, 3) := by decide +kernel
theorem dX2_coolDownExcept_48 : decode cX2_coolDownExcept 48 = .ok (.iconst 1, 1) := by decide +kernel
theorem dX2_coolDownExcept_49 : decode cX2_coolDownExcept 49 = .ok (.isub, 1) := by decide +kernel
theorem dX2_coolDownExcept_50 : decode cX2_coolDownExcept 50 = .ok (.putfield 123, 3) := by decide +kernel
theorem dX2_coolDownExcept_53 : decode cX2_coolDownExcept 53 = .ok (.iinc 2 1, 3) := by decide +kernel
theorem dX2_coolDownExcept_56 : decode cX2_coolDownExcept 56 = .ok (.goto (-54), 3) := by decide +kernel
theorem dX2_coolDownExcept_59 : decode cX2_coolDownExcept 59 = .ok (.return_, 1) := by decide +kernel
theorem dX2_powerUp_0 : decode cX2_powerUp 0 = .ok (.aload_n 0, 1) := by decide +kernel
theorem dX2_powerUp_1 : decode cX2_powerUp 1 = .ok (.getfield 53, 3) := by decide +kernel
theorem dX2_powerUp_4 : decode cX2_powerUp 4 = .ok (.ifCond .le 13, 3) := by decide +kernel
theorem dX2_powerUp_7 : decode cX2_powerUp 7 = .ok (.aload_n 0, 1) := by decide +kernel
theorem dX2_powerUp_8 : decode cX2_powerUp 8 = .ok (.dup, 1) := by decide +kernel
theorem dX2_powerUp_9 : decode cX2_powerUp 9 = .ok (.getfield 53, 3) := by decide +kernel
theorem dX2_powerUp_12 : decode cX2_powerUp 12 = .ok (.iconst 1, 1) := by decide +kernel
theorem dX2_powerUp_13 : decode cX2_powerUp 13 = .ok (.isub, 1) := by decide +kernel
theorem dX2_powerUp_14 : decode cX2_powerUp 14 = .ok (.putfield 53, 3) := by decide +kernel
theorem dX2_powerUp_17 : decode cX2_powerUp 17 = .ok (.aload_n 0, 1) := by decide +kernel
theorem dX2_powerUp_18 : decode cX2_powerUp 18 = .ok (.getfield 53, 3) := by decide +kernel
theorem dX2_powerUp_21 : decode cX2_powerUp 21 = .ok (.ifCond .le 5, 3) := by decide +kernel
theorem dX2_powerUp_24 : decode cX2_powerUp 24 = .ok (.iconst 0, 1) := by decide +kernel
theorem dX2_powerUp_25 : decode cX2_powerUp 25 = .ok (.ireturn, 1) := by decide +kernel
theorem dX2_powerUp_26 : decode cX2_powerUp 26 = .ok (.aload_n 0, 1) := by decide +kernel
theorem dX2_powerUp_27 : decode cX2_powerUp 27 = .ok (.invokevirtual 126, 3) := by decide +kernel
theorem dX2_powerUp_30 : decode cX2_powerUp 30 = .ok (.istore_n 1, 1) := by decide +kernel
theorem dX2_powerUp_31 : decode cX2_powerUp 31 = .ok (.iload_n 1, 1) := by decide +kernel
theorem dX2_powerUp_32 : decode cX2_powerUp 32 = .ok (.bipush (-6), 2) := by decide +kernel
theorem dX2_powerUp_34 : decode cX2_powerUp 34 = .ok (.if_icmp .ne 5, 3) := by decide +kernel
theorem dX2_powerUp_37 : decode cX2_powerUp 37 = .ok (.iconst 0, 1) := by decide +kernel
theorem dX2_powerUp_38 : decode cX2_powerUp 38 = .ok (.ireturn, 1) := by decide +kernel
theorem dX2_powerUp_39 : decode cX2_powerUp 39 = .ok (.aload_n 0, 1) := by decide +kernel
theorem dX2_powerUp_40 : decode cX2_powerUp 40 = .ok (.getfield 21, 3) := by decide +kernel
theorem dX2_powerUp_43 : decode cX2_powerUp 43 = .ok (.iload_n 1, 1) := by decide +kernel
theorem dX2_powerUp_44 : decode cX2_powerUp 44 = .ok (.aaload, 1) := by decide +kernel
theorem dX2_powerUp_45 : decode cX2_powerUp 45 = .ok (.aload_n 0, 1) := by decide +kernel
theorem dX2_powerUp_46 : decode cX2_powerUp 46 = .ok (.getfield 21, 3) := by decide +kernel
theorem dX2_powerUp_49 : decode cX2_powerUp 49 = .ok (.iload_n 1, 1) := by decide +kernel
theorem dX2_powerUp_50 : decode cX2_powerUp 50 = .ok (.aaload, 1) := by decide +kernel
theorem dX2_powerUp_51 : decode cX2_powerUp 51 = .ok (.getfield 82, 3) := by decide +kernel
theorem dX2_powerUp_54 : decode cX2_powerUp 54 = .ok (.putfield 69, 3) := by decide +kernel
theorem dX2_powerUp_57 : decode cX2_powerUp 57 = .ok (.aload_n 0, 1) := by decide +kernel
theorem dX2_powerUp_58 : decode cX2_powerUp 58 = .ok (.aload_n 0, 1) := by decide +kernel
theorem dX2_powerUp_59 : decode cX2_powerUp 59 = .ok (.getfield 32, 3) := by decide +kernel
theorem dX2_powerUp_62 : decode cX2_powerUp 62 = .ok (.putfield 53, 3) := by decide +kernel
theorem dX2_powerUp_65 : decode cX2_powerUp 65 = .ok (.aload_n 0, 1) := by decide +kernel
theorem dX2_powerUp_66 : decode cX2_powerUp 66 = .ok (.getfield 28, 3) := by decide +kernel
theorem dX2_powerUp_69 : decode cX2_powerUp 69 = .ok (.aload_n 0, 1) := by decide +kernel
theorem dX2_powerUp_70 : decode cX2_powerUp 70 = .ok (.getfield 56, 3) := by decide +kernel
theorem dX2_powerUp_73 : decode cX2_powerUp 73 = .ok (.iload_n 1, 1) := by decide +kernel
theorem dX2_powerUp_74 : decode cX2_powerUp 74 = .ok (.iconst 0, 1) := by decide +kernel
theorem dX2_powerUp_75 : decode cX2_powerUp 75 = .ok (.invokevirtual 113, 3) := by decide +kernel
theorem dX2_powerUp_78 : decode cX2_powerUp 78 = .ok (.iconst 1, 1) := by decide +kernel
theorem dX2_powerUp_79 : decode cX2_powerUp 79 = .ok (.ireturn, 1) := by decide +kernel
theorem dX2_firstPortToPowerUp_0 : decode cX2_firstPortToPowerUp 0 = .ok (.bipush (-6), 2) := by decide +kernel
theorem dX2_firstPortToPowerUp_2 : decode cX2_firstPortToPowerUp 2 = .ok (.istore_n 1, 1) := by decide +kernel
theorem dX2_firstPortToPowerUp_3 : decode cX2_firstPortToPowerUp 3 = .ok (.iconst 3, 1) := by decide +kernel
theorem dX2_firstPortToPowerUp_4 : decode cX2_firstPortToPowerUp 4 = .ok (.istore_n 2, 1) := by decide +kernel
theorem dX2_firstPortToPowerUp_5 : decode cX2_firstPortToPowerUp 5 = .ok (.aload_n 0, 1) := by decide +kernel
theorem dX2_firstPortToPowerUp_6 : decode cX2_firstPortToPowerUp 6 = .ok (.invokevirtual 104, 3) := by decide +kernel
theorem dX2_firstPortToPowerUp_9 : decode cX2_firstPortToPowerUp 9 = .ok (.istore_n 3, 1) := by decide +kernel
theorem dX2_firstPortToPowerUp_10 : decode cX2_firstPortToPowerUp 10 = .ok (.iconst 0, 1) := by decide +kernel
theorem dX2_firstPortToPowerUp_11 : decode cX2_firstPortToPowerUp 11 = .ok (.istore 4, 2) := by decide +kernel
theorem dX2_firstPortToPowerUp_13 : decode cX2_firstPortToPowerUp 13 = .ok (.iload 4, 2) := by decide +kernel
theorem dX2_firstPortToPowerUp_15 : decode cX2_firstPortToPowerUp 15 = .ok (.bipush 8, 2) := by decide +kernel
theorem dX2_firstPortToPowerUp_17 : decode cX2_firstPortToPowerUp 17 = .ok (.if_icmp .ge 45, 3) := by decide +kernel
theorem dX2_firstPortToPowerUp_20 : decode cX2_firstPortToPowerUp 20 = .ok (.aload_n 0, 1) := by decide +kernel
theorem dX2_firstPortToPowerUp_21 : decode cX2_firstPortToPowerUp 21 = .ok (.getfield 21, 3) := by decide +kernel
theorem dX2_firstPortToPowerUp_24 : decode cX2_firstPortToPowerUp 24 = .ok (.iload 4, 2) := by decide +kernel
theorem dX2_firstPortToPowerUp_26 : decode cX2_firstPortToPowerUp 26 = .ok (.aaload, 1) := by decide +kernel
theorem dX2_firstPortToPowerUp_27 : decode cX2_firstPortToPowerUp 27 = .ok (.astore 5, 2) := by decide +kernel
theorem dX2_firstPortToPowerUp_29 : decode cX2_firstPortToPowerUp 29 = .ok (.aload 5, 2) := by decide +kernel
theorem dX2_firstPortToPowerUp_31 : decode cX2_firstPortToPowerUp 31 = .ok (.getfield 79, 3) := by decide +kernel
theorem dX2_firstPortToPowerUp_34 : decode cX2_firstPortToPowerUp 34 = .ok (.iload_n 2, 1) := by decide +kernel
theorem dX2_firstPortToPowerUp_35 : decode cX2_firstPortToPowerUp 35 = .ok (.if_icmp .ge 21, 3) := by decide +kernel
theorem dX2_firstPortToPowerUp_38 : decode cX2_firstPortToPowerUp 38 = .ok (.aload 5, 2) := by decide +kernel
theorem dX2_firstPortToPowerUp_40 : decode cX2_firstPortToPowerUp 40 = .ok (.iload_n 3, 1) := by decide +kernel
theorem dX2_firstPortToPowerUp_41 : decode cX2_firstPortToPowerUp 41 = .ok (.invokevirtual 129, 3) := by decide +kernel
theorem dX2_firstPortToPowerUp_44 : decode cX2_firstPortToPowerUp 44 = .ok (.ifCond .eq 12, 3) := by decide +kernel
theorem dX2_firstPortToPowerUp_47 : decode cX2_firstPortToPowerUp 47 = .ok (.iload 4, 2) := by decide +kernel
theorem dX2_firstPortToPowerUp_49 : decode cX2_firstPortToPowerUp 49 = .ok (.istore_n 1, 1) := by decide +kernel
theorem dX2_firstPortToPowerUp_50 : decode cX2_firstPortToPowerUp 50 = .ok (.aload 5, 2) := by decide +kernel
theorem dX2_firstPortToPowerUp_52 : decode cX2_firstPortToPowerUp 52 = .ok (.getfield 79, 3) := by decide +kernel
theorem dX2_firstPortToPowerUp_55 : decode cX2_firstPortToPowerUp 55 = .ok (.istore_n 2, 1) := by decide +kernel
theorem dX2_firstPortToPowerUp_56 : decode cX2_firstPortToPowerUp 56 = .ok (.iinc 4 1, 3) := by decide +kernel
theorem dX2_firstPortToPowerUp_59 : decode cX2_firstPortToPowerUp 59 = .ok (.goto (-46), 3) := by decide +kernel
theorem dX2_firstPortToPowerUp_62 : decode cX2_firstPortToPowerUp 62 = .ok (.iload_n 1, 1) := by decide +kernel
theorem dX2_firstPortToPowerUp_63 : decode cX2_firstPortToPowerUp 63 = .ok (.ireturn, 1) := by decide +kernel
theorem dX2_isStable_0 : decode cX2_isStable 0 = .ok (.aload_n 0, 1) := by decide +kernel
theorem dX2_isStable_1 : decode cX2_isStable 1 = .ok (.getfield 53, 3) := by decide +kernel
theorem dX2_isStable_4 : decode cX2_isStable 4 = .ok (.ifCond .ne 30, 3) := by decide +kernel
theorem dX2_isStable_7 : decode cX2_isStable 7 = .ok (.aload_n 0, 1) := by decide +kernel
theorem dX2_isStable_8 : decode cX2_isStable 8 = .ok (.invokevirtual 104, 3) := by decide +kernel
theorem dX2_isStable_11 : decode cX2_isStable 11 = .ok (.ifCond .lt 23, 3) := by decide +kernel
theorem dX2_isStable_14 : decode cX2_isStable 14 = .ok (.aload_n 0, 1) := by decide +kernel
theorem dX2_isStable_15 : decode cX2_isStable 15 = .ok (.invokevirtual 133, 3) := by decide +kernel
theorem dX2_isStable_18 : decode cX2_isStable 18 = .ok (.ifCond .eq 16, 3) := by decide +kernel
theorem dX2_isStable_21 : decode cX2_isStable 21 = .ok (.aload_n 0, 1) := by decide +kernel
theorem dX2_isStable_22 : decode cX2_isStable 22 = .ok (.invokevirtual 126, 3) := by decide +kernel
theorem dX2_isStable_25 : decode cX2_isStable 25 = .ok (.bipush (-6), 2) := by decide +kernel
theorem dX2_isStable_27 : decode cX2_isStable 27 = .ok (.if_icmp .ne 7, 3) := by decide +kernel
theorem dX2_isStable_30 : decode cX2_isStable 30 = .ok (.iconst 1, 1) := by decide +kernel
theorem dX2_isStable_31 : decode cX2_isStable 31 = .ok (.goto 4, 3) := by decide +kernel
theorem dX2_isStable_34 : decode cX2_isStable 34 = .ok (.iconst 0, 1) := by decide +kernel
theorem dX2_isStable_35 : decode cX2_isStable 35 = .ok (.ireturn, 1) := by decide +kernel
theorem dX2_portsAreCalm_0 : decode cX2_portsAreCalm 0 = .ok (.iconst 0, 1) := by decide +kernel
theorem dX2_portsAreCalm_1 : decode cX2_portsAreCalm 1 = .ok (.istore_n 1, 1) := by decide +kernel
theorem dX2_portsAreCalm_2 : decode cX2_portsAreCalm 2 = .ok (.iload_n 1, 1) := by decide +kernel
theorem dX2_portsAreCalm_3 : decode cX2_portsAreCalm 3 = .ok (.bipush 8, 2) := by decide +kernel
theorem dX2_portsAreCalm_5 : decode cX2_portsAreCalm 5 = .ok (.if_icmp .ge 39, 3) := by decide +kernel
theorem dX2_portsAreCalm_8 : decode cX2_portsAreCalm 8 = .ok (.aload_n 0, 1) := by decide +kernel
theorem dX2_portsAreCalm_9 : decode cX2_portsAreCalm 9 = .ok (.getfield 21, 3) := by decide +kernel
theorem dX2_portsAreCalm_12 : decode cX2_portsAreCalm 12 = .ok (.iload_n 1, 1) := by decide +kernel
theorem dX2_portsAreCalm_13 : decode cX2_portsAreCalm 13 = .ok (.aaload, 1) := by decide +kernel
theorem dX2_portsAreCalm_14 : decode cX2_portsAreCalm 14 = .ok (.astore_n 2, 1) := by decide +kernel
theorem dX2_portsAreCalm_15 : decode cX2_portsAreCalm 15 = .ok (.aload_n 2, 1) := by decide +kernel
theorem dX2_portsAreCalm_16 : decode cX2_portsAreCalm 16 = .ok (.getfield 123, 3) := by decide +kernel
theorem dX2_portsAreCalm_19 : decode cX2_portsAreCalm 19 = .ok (.ifCond .gt 17, 3) := by decide +kernel
theorem dX2_portsAreCalm_22 : decode cX2_portsAreCalm 22 = .ok (.aload_n 2, 1) := by decide +kernel
theorem dX2_portsAreCalm_23 : decode cX2_portsAreCalm 23 = .ok (.getfield 120, 3) := by decide +kernel
theorem dX2_portsAreCalm_26 : decode cX2_portsAreCalm 26 = .ok (.ifCond .gt 10, 3) := by decide +kernel
theorem dX2_portsAreCalm_29 : decode cX2_portsAreCalm 29 = .ok (.aload_n 2, 1) := by decide +kernel
theorem dX2_portsAreCalm_30 : decode cX2_portsAreCalm 30 = .ok (.invokevirtual 117, 3) := by decide +kernel
theorem dX2_portsAreCalm_33 : decode cX2_portsAreCalm 33 = .ok (.ifCond .eq 5, 3) := by decide +kernel
theorem dX2_portsAreCalm_36 : decode cX2_portsAreCalm 36 = .ok (.iconst 0, 1) := by decide +kernel
theorem dX2_portsAreCalm_37 : decode cX2_portsAreCalm 37 = .ok (.ireturn, 1) := by decide +kernel
theorem dX2_portsAreCalm_38 : decode cX2_portsAreCalm 38 = .ok (.iinc 1 1, 3) := by decide +kernel
theorem dX2_portsAreCalm_41 : decode cX2_portsAreCalm 41 = .ok (.goto (-39), 3) := by decide +kernel
theorem dX2_portsAreCalm_44 : decode cX2_portsAreCalm 44 = .ok (.iconst 1, 1) := by decide +kernel
theorem dX2_portsAreCalm_45 : decode cX2_portsAreCalm 45 = .ok (.ireturn, 1) := by decide +kernel
