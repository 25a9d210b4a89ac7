/-! decode rows, as the task prints them -/
theorem dX4_init_0 : decode cX4_init 0 = .ok (.aload_n 0, 1) := by decide +kernel
theorem dX4_init_1 : decode cX4_init 1 = .ok (.invokespecial 1, 3) := by decide +kernel
theorem dX4_init_4 : decode cX4_init 4 = .ok (.aload_n 0, 1) := by decide +kernel
theorem dX4_init_5 : decode cX4_init 5 = .ok (.sipush 149, 3) := by decide +kernel
theorem dX4_init_8 : decode cX4_init 8 = .ok (.newarray .int, 2) := by decide +kernel
theorem dX4_init_10 : decode cX4_init 10 = .ok (.putfield 7, 3) := by decide +kernel
theorem dX4_init_13 : decode cX4_init 13 = .ok (.aload_n 0, 1) := by decide +kernel
theorem dX4_init_14 : decode cX4_init 14 = .ok (.sipush 149, 3) := by decide +kernel
theorem dX4_init_17 : decode cX4_init 17 = .ok (.newarray .int, 2) := by decide +kernel
theorem dX4_init_19 : decode cX4_init 19 = .ok (.putfield 13, 3) := by decide +kernel
theorem dX4_init_22 : decode cX4_init 22 = .ok (.aload_n 0, 1) := by decide +kernel
theorem dX4_init_23 : decode cX4_init 23 = .ok (.sipush 298, 3) := by decide +kernel
theorem dX4_init_26 : decode cX4_init 26 = .ok (.newarray .int, 2) := by decide +kernel
theorem dX4_init_28 : decode cX4_init 28 = .ok (.putfield 16, 3) := by decide +kernel
theorem dX4_init_31 : decode cX4_init 31 = .ok (.aload_n 0, 1) := by decide +kernel
theorem dX4_init_32 : decode cX4_init 32 = .ok (.iconst 2, 1) := by decide +kernel
theorem dX4_init_33 : decode cX4_init 33 = .ok (.newarray .boolean, 2) := by decide +kernel
theorem dX4_init_35 : decode cX4_init 35 = .ok (.putfield 19, 3) := by decide +kernel
theorem dX4_init_38 : decode cX4_init 38 = .ok (.aload_n 0, 1) := by decide +kernel
theorem dX4_init_39 : decode cX4_init 39 = .ok (.sipush 149, 3) := by decide +kernel
theorem dX4_init_42 : decode cX4_init 42 = .ok (.newarray .int, 2) := by decide +kernel
theorem dX4_init_44 : decode cX4_init 44 = .ok (.putfield 23, 3) := by decide +kernel
theorem dX4_init_47 : decode cX4_init 47 = .ok (.aload_n 0, 1) := by decide +kernel
theorem dX4_init_48 : decode cX4_init 48 = .ok (.getfield 7, 3) := by decide +kernel
theorem dX4_init_51 : decode cX4_init 51 = .ok (.iconst 0, 1) := by decide +kernel
theorem dX4_init_52 : decode cX4_init 52 = .ok (.sipush 1500, 3) := by decide +kernel
theorem dX4_init_55 : decode cX4_init 55 = .ok (.iastore, 1) := by decide +kernel
theorem dX4_init_56 : decode cX4_init 56 = .ok (.iconst 0, 1) := by decide +kernel
theorem dX4_init_57 : decode cX4_init 57 = .ok (.istore_n 1, 1) := by decide +kernel
theorem dX4_init_58 : decode cX4_init 58 = .ok (.iload_n 1, 1) := by decide +kernel
theorem dX4_init_59 : decode cX4_init 59 = .ok (.iconst 3, 1) := by decide +kernel
theorem dX4_init_60 : decode cX4_init 60 = .ok (.if_icmp .ge 18, 3) := by decide +kernel
theorem dX4_init_63 : decode cX4_init 63 = .ok (.aload_n 0, 1) := by decide +kernel
theorem dX4_init_64 : decode cX4_init 64 = .ok (.getfield 7, 3) := by decide +kernel
theorem dX4_init_67 : decode cX4_init 67 = .ok (.iconst 3, 1) := by decide +kernel
theorem dX4_init_68 : decode cX4_init 68 = .ok (.iload_n 1, 1) := by decide +kernel
theorem dX4_init_69 : decode cX4_init 69 = .ok (.iadd, 1) := by decide +kernel
theorem dX4_init_70 : decode cX4_init 70 = .ok (.iconst 1, 1) := by decide +kernel
theorem dX4_init_71 : decode cX4_init 71 = .ok (.iastore, 1) := by decide +kernel
theorem dX4_init_72 : decode cX4_init 72 = .ok (.iinc 1 1, 3) := by decide +kernel
theorem dX4_init_75 : decode cX4_init 75 = .ok (.goto (-17), 3) := by decide +kernel
theorem dX4_init_78 : decode cX4_init 78 = .ok (.aload_n 0, 1) := by decide +kernel
theorem dX4_init_79 : decode cX4_init 79 = .ok (.getfield 7, 3) := by decide +kernel
theorem dX4_init_82 : decode cX4_init 82 = .ok (.bipush 7, 2) := by decide +kernel
theorem dX4_init_84 : decode cX4_init 84 = .ok (.iconst 2, 1) := by decide +kernel
theorem dX4_init_85 : decode cX4_init 85 = .ok (.iastore, 1) := by decide +kernel
theorem dX4_init_86 : decode cX4_init 86 = .ok (.aload_n 0, 1) := by decide +kernel
theorem dX4_init_87 : decode cX4_init 87 = .ok (.getfield 7, 3) := by decide +kernel
theorem dX4_init_90 : decode cX4_init 90 = .ok (.bipush 8, 2) := by decide +kernel
theorem dX4_init_92 : decode cX4_init 92 = .ok (.iconst 3, 1) := by decide +kernel
theorem dX4_init_93 : decode cX4_init 93 = .ok (.iastore, 1) := by decide +kernel
theorem dX4_init_94 : decode cX4_init 94 = .ok (.aload_n 0, 1) := by decide +kernel
theorem dX4_init_95 : decode cX4_init 95 = .ok (.getfield 7, 3) := by decide +kernel
theorem dX4_init_98 : decode cX4_init 98 = .ok (.bipush 9, 2) := by decide +kernel
theorem dX4_init_100 : decode cX4_init 100 = .ok (.iconst 5, 1) := by decide +kernel
theorem dX4_init_101 : decode cX4_init 101 = .ok (.iastore, 1) := by decide +kernel
theorem dX4_init_102 : decode cX4_init 102 = .ok (.iconst 0, 1) := by decide +kernel
theorem dX4_init_103 : decode cX4_init 103 = .ok (.istore_n 1, 1) := by decide +kernel
theorem dX4_init_104 : decode cX4_init 104 = .ok (.iload_n 1, 1) := by decide +kernel
theorem dX4_init_105 : decode cX4_init 105 = .ok (.bipush 8, 2) := by decide +kernel
theorem dX4_init_107 : decode cX4_init 107 = .ok (.if_icmp .ge 31, 3) := by decide +kernel
theorem dX4_init_110 : decode cX4_init 110 = .ok (.aload_n 0, 1) := by decide +kernel
theorem dX4_init_111 : decode cX4_init 111 = .ok (.getfield 7, 3) := by decide +kernel
theorem dX4_init_114 : decode cX4_init 114 = .ok (.iload_n 1, 1) := by decide +kernel
theorem dX4_init_115 : decode cX4_init 115 = .ok (.iconst 0, 1) := by decide +kernel
theorem dX4_init_116 : decode cX4_init 116 = .ok (.invokestatic 26, 3) := by decide +kernel
theorem dX4_init_119 : decode cX4_init 119 = .ok (.iconst 1, 1) := by decide +kernel
theorem dX4_init_120 : decode cX4_init 120 = .ok (.iastore, 1) := by decide +kernel
theorem dX4_init_121 : decode cX4_init 121 = .ok (.aload_n 0, 1) := by decide +kernel
theorem dX4_init_122 : decode cX4_init 122 = .ok (.getfield 7, 3) := by decide +kernel
theorem dX4_init_125 : decode cX4_init 125 = .ok (.iload_n 1, 1) := by decide +kernel
theorem dX4_init_126 : decode cX4_init 126 = .ok (.iconst 1, 1) := by decide +kernel
theorem dX4_init_127 : decode cX4_init 127 = .ok (.invokestatic 26, 3) := by decide +kernel
theorem dX4_init_130 : decode cX4_init 130 = .ok (.iconst 2, 1) := by decide +kernel
theorem dX4_init_131 : decode cX4_init 131 = .ok (.iastore, 1) := by decide +kernel
theorem dX4_init_132 : decode cX4_init 132 = .ok (.iinc 1 1, 3) := by decide +kernel
theorem dX4_init_135 : decode cX4_init 135 = .ok (.goto (-31), 3) := by decide +kernel
theorem dX4_init_138 : decode cX4_init 138 = .ok (.return_, 1) := by decide +kernel
theorem dX4_in_0 : decode cX4_in 0 = .ok (.iload_n 0, 1) := by decide +kernel
theorem dX4_in_1 : decode cX4_in 1 = .ok (.iload_n 1, 1) := by decide +kernel
theorem dX4_in_2 : decode cX4_in 2 = .ok (.if_icmp .lt 12, 3) := by decide +kernel
theorem dX4_in_5 : decode cX4_in 5 = .ok (.iload_n 0, 1) := by decide +kernel
theorem dX4_in_6 : decode cX4_in 6 = .ok (.iload_n 2, 1) := by decide +kernel
theorem dX4_in_7 : decode cX4_in 7 = .ok (.if_icmp .gt 7, 3) := by decide +kernel
theorem dX4_in_10 : decode cX4_in 10 = .ok (.iconst 1, 1) := by decide +kernel
theorem dX4_in_11 : decode cX4_in 11 = .ok (.goto 4, 3) := by decide +kernel
theorem dX4_in_14 : decode cX4_in 14 = .ok (.iconst 0, 1) := by decide +kernel
theorem dX4_in_15 : decode cX4_in 15 = .ok (.ireturn, 1) := by decide +kernel
theorem dX4_isPort_0 : decode cX4_isPort 0 = .ok (.iload_n 0, 1) := by decide +kernel
theorem dX4_isPort_1 : decode cX4_isPort 1 = .ok (.iconst 0, 1) := by decide +kernel
theorem dX4_isPort_2 : decode cX4_isPort 2 = .ok (.bipush 7, 2) := by decide +kernel
theorem dX4_isPort_4 : decode cX4_isPort 4 = .ok (.invokestatic 30, 3) := by decide +kernel
theorem dX4_isPort_7 : decode cX4_isPort 7 = .ok (.ireturn, 1) := by decide +kernel
theorem dX4_isSupply_0 : decode cX4_isSupply 0 = .ok (.iload_n 0, 1) := by decide +kernel
theorem dX4_isSupply_1 : decode cX4_isSupply 1 = .ok (.iconst 0, 1) := by decide +kernel
theorem dX4_isSupply_2 : decode cX4_isSupply 2 = .ok (.iconst 2, 1) := by decide +kernel
theorem dX4_isSupply_3 : decode cX4_isSupply 3 = .ok (.invokestatic 30, 3) := by decide +kernel
theorem dX4_isSupply_6 : decode cX4_isSupply 6 = .ok (.ireturn, 1) := by decide +kernel
theorem dX4_at_0 : decode cX4_at 0 = .ok (.bipush 61, 2) := by decide +kernel
theorem dX4_at_2 : decode cX4_at 2 = .ok (.bipush 11, 2) := by decide +kernel
theorem dX4_at_4 : decode cX4_at 4 = .ok (.iload_n 0, 1) := by decide +kernel
theorem dX4_at_5 : decode cX4_at 5 = .ok (.imul, 1) := by decide +kernel
theorem dX4_at_6 : decode cX4_at 6 = .ok (.iadd, 1) := by decide +kernel
theorem dX4_at_7 : decode cX4_at 7 = .ok (.iload_n 1, 1) := by decide +kernel
theorem dX4_at_8 : decode cX4_at 8 = .ok (.iadd, 1) := by decide +kernel
theorem dX4_at_9 : decode cX4_at 9 = .ok (.ireturn, 1) := by decide +kernel
theorem dX4_of_0 : decode cX4_of 0 = .ok (.aload_n 0, 1) := by decide +kernel
theorem dX4_of_1 : decode cX4_of 1 = .ok (.getfield 7, 3) := by decide +kernel
theorem dX4_of_4 : decode cX4_of 4 = .ok (.iload_n 1, 1) := by decide +kernel
theorem dX4_of_5 : decode cX4_of 5 = .ok (.iload_n 2, 1) := by decide +kernel
theorem dX4_of_6 : decode cX4_of 6 = .ok (.invokestatic 26, 3) := by decide +kernel
theorem dX4_of_9 : decode cX4_of 9 = .ok (.iaload, 1) := by decide +kernel
theorem dX4_of_10 : decode cX4_of 10 = .ok (.ireturn, 1) := by decide +kernel
theorem dX4_set_0 : decode cX4_set 0 = .ok (.aload_n 0, 1) := by decide +kernel
theorem dX4_set_1 : decode cX4_set 1 = .ok (.getfield 7, 3) := by decide +kernel
theorem dX4_set_4 : decode cX4_set 4 = .ok (.iload_n 1, 1) := by decide +kernel
theorem dX4_set_5 : decode cX4_set 5 = .ok (.iaload, 1) := by decide +kernel
theorem dX4_set_6 : decode cX4_set 6 = .ok (.istore_n 3, 1) := by decide +kernel
theorem dX4_set_7 : decode cX4_set 7 = .ok (.aload_n 0, 1) := by decide +kernel
theorem dX4_set_8 : decode cX4_set 8 = .ok (.getfield 7, 3) := by decide +kernel
theorem dX4_set_11 : decode cX4_set 11 = .ok (.iload_n 1, 1) := by decide +kernel
theorem dX4_set_12 : decode cX4_set 12 = .ok (.iload_n 2, 1) := by decide +kernel
theorem dX4_set_13 : decode cX4_set 13 = .ok (.iastore, 1) := by decide +kernel
theorem dX4_set_14 : decode cX4_set 14 = .ok (.iload_n 3, 1) := by decide +kernel
theorem dX4_set_15 : decode cX4_set 15 = .ok (.ireturn, 1) := by decide +kernel
theorem dX4_setCapacity_0 : decode cX4_setCapacity 0 = .ok (.iload_n 1, 1) := by decide +kernel
theorem dX4_setCapacity_1 : decode cX4_setCapacity 1 = .ok (.invokestatic 34, 3) := by decide +kernel
theorem dX4_setCapacity_4 : decode cX4_setCapacity 4 = .ok (.ifCond .ne 5, 3) := by decide +kernel
theorem dX4_setCapacity_7 : decode cX4_setCapacity 7 = .ok (.iconst (-1), 1) := by decide +kernel
theorem dX4_setCapacity_8 : decode cX4_setCapacity 8 = .ok (.ireturn, 1) := by decide +kernel
theorem dX4_setCapacity_9 : decode cX4_setCapacity 9 = .ok (.iload_n 2, 1) := by decide +kernel
theorem dX4_setCapacity_10 : decode cX4_setCapacity 10 = .ok (.iconst 0, 1) := by decide +kernel
theorem dX4_setCapacity_11 : decode cX4_setCapacity 11 = .ok (.sipush 3000, 3) := by decide +kernel
theorem dX4_setCapacity_14 : decode cX4_setCapacity 14 = .ok (.invokestatic 30, 3) := by decide +kernel
theorem dX4_setCapacity_17 : decode cX4_setCapacity 17 = .ok (.ifCond .eq 14, 3) := by decide +kernel
theorem dX4_setCapacity_20 : decode cX4_setCapacity 20 = .ok (.aload_n 0, 1) := by decide +kernel
theorem dX4_setCapacity_21 : decode cX4_setCapacity 21 = .ok (.iconst 0, 1) := by decide +kernel
theorem dX4_setCapacity_22 : decode cX4_setCapacity 22 = .ok (.iload_n 1, 1) := by decide +kernel
theorem dX4_setCapacity_23 : decode cX4_setCapacity 23 = .ok (.iadd, 1) := by decide +kernel
theorem dX4_setCapacity_24 : decode cX4_setCapacity 24 = .ok (.iload_n 2, 1) := by decide +kernel
theorem dX4_setCapacity_25 : decode cX4_setCapacity 25 = .ok (.invokevirtual 38, 3) := by decide +kernel
theorem dX4_setCapacity_28 : decode cX4_setCapacity 28 = .ok (.goto 5, 3) := by decide +kernel
theorem dX4_setCapacity_31 : decode cX4_setCapacity 31 = .ok (.bipush (-2), 2) := by decide +kernel
theorem dX4_setCapacity_33 : decode cX4_setCapacity 33 = .ok (.ireturn, 1) := by decide +kernel
theorem dX4_setWorking_0 : decode cX4_setWorking 0 = .ok (.iload_n 1, 1) := by decide +kernel
theorem dX4_setWorking_1 : decode cX4_setWorking 1 = .ok (.invokestatic 34, 3) := by decide +kernel
theorem dX4_setWorking_4 : decode cX4_setWorking 4 = .ok (.ifCond .eq 22, 3) := by decide +kernel
theorem dX4_setWorking_7 : decode cX4_setWorking 7 = .ok (.aload_n 0, 1) := by decide +kernel
theorem dX4_setWorking_8 : decode cX4_setWorking 8 = .ok (.iconst 3, 1) := by decide +kernel
theorem dX4_setWorking_9 : decode cX4_setWorking 9 = .ok (.iload_n 1, 1) := by decide +kernel
theorem dX4_setWorking_10 : decode cX4_setWorking 10 = .ok (.iadd, 1) := by decide +kernel
theorem dX4_setWorking_11 : decode cX4_setWorking 11 = .ok (.iload_n 2, 1) := by decide +kernel
theorem dX4_setWorking_12 : decode cX4_setWorking 12 = .ok (.ifCond .eq 7, 3) := by decide +kernel
theorem dX4_setWorking_15 : decode cX4_setWorking 15 = .ok (.iconst 1, 1) := by decide +kernel
theorem dX4_setWorking_16 : decode cX4_setWorking 16 = .ok (.goto 4, 3) := by decide +kernel
theorem dX4_setWorking_19 : decode cX4_setWorking 19 = .ok (.iconst 0, 1) := by decide +kernel
theorem dX4_setWorking_20 : decode cX4_setWorking 20 = .ok (.invokevirtual 38, 3) := by decide +kernel
theorem dX4_setWorking_23 : decode cX4_setWorking 23 = .ok (.goto 4, 3) := by decide +kernel
theorem dX4_setWorking_26 : decode cX4_setWorking 26 = .ok (.iconst (-1), 1) := by decide +kernel
theorem dX4_setWorking_27 : decode cX4_setWorking 27 = .ok (.ireturn, 1) := by decide +kernel
theorem dX4_setReserve_0 : decode cX4_setReserve 0 = .ok (.iload_n 1, 1) := by decide +kernel
theorem dX4_setReserve_1 : decode cX4_setReserve 1 = .ok (.iconst 0, 1) := by decide +kernel
theorem dX4_setReserve_2 : decode cX4_setReserve 2 = .ok (.sipush 3000, 3) := by decide +kernel
theorem dX4_setReserve_5 : decode cX4_setReserve 5 = .ok (.invokestatic 30, 3) := by decide +kernel
theorem dX4_setReserve_8 : decode cX4_setReserve 8 = .ok (.ifCond .eq 13, 3) := by decide +kernel
theorem dX4_setReserve_11 : decode cX4_setReserve 11 = .ok (.aload_n 0, 1) := by decide +kernel
theorem dX4_setReserve_12 : decode cX4_setReserve 12 = .ok (.bipush 6, 2) := by decide +kernel
theorem dX4_setReserve_14 : decode cX4_setReserve 14 = .ok (.iload_n 1, 1) := by decide +kernel
theorem dX4_setReserve_15 : decode cX4_setReserve 15 = .ok (.invokevirtual 38, 3) := by decide +kernel
theorem dX4_setReserve_18 : decode cX4_setReserve 18 = .ok (.goto 5, 3) := by decide +kernel
theorem dX4_setReserve_21 : decode cX4_setReserve 21 = .ok (.bipush (-2), 2) := by decide +kernel
theorem dX4_setReserve_23 : decode cX4_setReserve 23 = .ok (.ireturn, 1) := by decide +kernel
theorem dX4_setRestartGap_0 : decode cX4_setRestartGap 0 = .ok (.iload_n 1, 1) := by decide +kernel
theorem dX4_setRestartGap_1 : decode cX4_setRestartGap 1 = .ok (.iconst 1, 1) := by decide +kernel
theorem dX4_setRestartGap_2 : decode cX4_setRestartGap 2 = .ok (.bipush 30, 2) := by decide +kernel
theorem dX4_setRestartGap_4 : decode cX4_setRestartGap 4 = .ok (.invokestatic 30, 3) := by decide +kernel
theorem dX4_setRestartGap_7 : decode cX4_setRestartGap 7 = .ok (.ifCond .eq 13, 3) := by decide +kernel
theorem dX4_setRestartGap_10 : decode cX4_setRestartGap 10 = .ok (.aload_n 0, 1) := by decide +kernel
theorem dX4_setRestartGap_11 : decode cX4_setRestartGap 11 = .ok (.bipush 7, 2) := by decide +kernel
theorem dX4_setRestartGap_13 : decode cX4_setRestartGap 13 = .ok (.iload_n 1, 1) := by decide +kernel
theorem dX4_setRestartGap_14 : decode cX4_setRestartGap 14 = .ok (.invokevirtual 38, 3) := by decide +kernel
theorem dX4_setRestartGap_17 : decode cX4_setRestartGap 17 = .ok (.goto 5, 3) := by decide +kernel
theorem dX4_setRestartGap_20 : decode cX4_setRestartGap 20 = .ok (.bipush (-2), 2) := by decide +kernel
theorem dX4_setRestartGap_22 : decode cX4_setRestartGap 22 = .ok (.ireturn, 1) := by decide +kernel
theorem dX4_setOverloadLimit_0 : decode cX4_setOverloadLimit 0 = .ok (.iload_n 1, 1) := by decide +kernel
theorem dX4_setOverloadLimit_1 : decode cX4_setOverloadLimit 1 = .ok (.iconst 1, 1) := by decide +kernel
theorem dX4_setOverloadLimit_2 : decode cX4_setOverloadLimit 2 = .ok (.bipush 30, 2) := by decide +kernel
theorem dX4_setOverloadLimit_4 : decode cX4_setOverloadLimit 4 = .ok (.invokestatic 30, 3) := by decide +kernel
theorem dX4_setOverloadLimit_7 : decode cX4_setOverloadLimit 7 = .ok (.ifCond .eq 13, 3) := by decide +kernel
theorem dX4_setOverloadLimit_10 : decode cX4_setOverloadLimit 10 = .ok (.aload_n 0, 1) := by decide +kernel
theorem dX4_setOverloadLimit_11 : decode cX4_setOverloadLimit 11 = .ok (.bipush 8, 2) := by decide +kernel
theorem dX4_setOverloadLimit_13 : decode cX4_setOverloadLimit 13 = .ok (.iload_n 1, 1) := by decide +kernel
theorem dX4_setOverloadLimit_14 : decode cX4_setOverloadLimit 14 = .ok (.invokevirtual 38, 3) := by decide +kernel
theorem dX4_setOverloadLimit_17 : decode cX4_setOverloadLimit 17 = .ok (.goto 5, 3) := by decide +kernel
theorem dX4_setOverloadLimit_20 : decode cX4_setOverloadLimit 20 = .ok (.bipush (-2), 2) := by decide +kernel
theorem dX4_setOverloadLimit_22 : decode cX4_setOverloadLimit 22 = .ok (.ireturn, 1) := by decide +kernel
theorem dX4_setCooldownTime_0 : decode cX4_setCooldownTime 0 = .ok (.iload_n 1, 1) := by decide +kernel
theorem dX4_setCooldownTime_1 : decode cX4_setCooldownTime 1 = .ok (.iconst 1, 1) := by decide +kernel
theorem dX4_setCooldownTime_2 : decode cX4_setCooldownTime 2 = .ok (.bipush 60, 2) := by decide +kernel
theorem dX4_setCooldownTime_4 : decode cX4_setCooldownTime 4 = .ok (.invokestatic 30, 3) := by decide +kernel
theorem dX4_setCooldownTime_7 : decode cX4_setCooldownTime 7 = .ok (.ifCond .eq 13, 3) := by decide +kernel
theorem dX4_setCooldownTime_10 : decode cX4_setCooldownTime 10 = .ok (.aload_n 0, 1) := by decide +kernel
theorem dX4_setCooldownTime_11 : decode cX4_setCooldownTime 11 = .ok (.bipush 9, 2) := by decide +kernel
theorem dX4_setCooldownTime_13 : decode cX4_setCooldownTime 13 = .ok (.iload_n 1, 1) := by decide +kernel
theorem dX4_setCooldownTime_14 : decode cX4_setCooldownTime 14 = .ok (.invokevirtual 38, 3) := by decide +kernel
theorem dX4_setCooldownTime_17 : decode cX4_setCooldownTime 17 = .ok (.goto 5, 3) := by decide +kernel
theorem dX4_setCooldownTime_20 : decode cX4_setCooldownTime 20 = .ok (.bipush (-2), 2) := by decide +kernel
theorem dX4_setCooldownTime_22 : decode cX4_setCooldownTime 22 = .ok (.ireturn, 1) := by decide +kernel
theorem dX4_budget_0 : decode cX4_budget 0 = .ok (.iconst 0, 1) := by decide +kernel
theorem dX4_budget_1 : decode cX4_budget 1 = .ok (.istore_n 1, 1) := by decide +kernel
theorem dX4_budget_2 : decode cX4_budget 2 = .ok (.iconst 0, 1) := by decide +kernel
theorem dX4_budget_3 : decode cX4_budget 3 = .ok (.istore_n 2, 1) := by decide +kernel
theorem dX4_budget_4 : decode cX4_budget 4 = .ok (.iload_n 2, 1) := by decide +kernel
theorem dX4_budget_5 : decode cX4_budget 5 = .ok (.iconst 3, 1) := by decide +kernel
theorem dX4_budget_6 : decode cX4_budget 6 = .ok (.if_icmp .ge 29, 3) := by decide +kernel
theorem dX4_budget_9 : decode cX4_budget 9 = .ok (.iload_n 1, 1) := by decide +kernel
theorem dX4_budget_10 : decode cX4_budget 10 = .ok (.aload_n 0, 1) := by decide +kernel
theorem dX4_budget_11 : decode cX4_budget 11 = .ok (.getfield 7, 3) := by decide +kernel
theorem dX4_budget_14 : decode cX4_budget 14 = .ok (.iconst 3, 1) := by decide +kernel
theorem dX4_budget_15 : decode cX4_budget 15 = .ok (.iload_n 2, 1) := by decide +kernel
theorem dX4_budget_16 : decode cX4_budget 16 = .ok (.iadd, 1) := by decide +kernel
theorem dX4_budget_17 : decode cX4_budget 17 = .ok (.iaload, 1) := by decide +kernel
theorem dX4_budget_18 : decode cX4_budget 18 = .ok (.aload_n 0, 1) := by decide +kernel
theorem dX4_budget_19 : decode cX4_budget 19 = .ok (.getfield 7, 3) := by decide +kernel
theorem dX4_budget_22 : decode cX4_budget 22 = .ok (.iconst 0, 1) := by decide +kernel
theorem dX4_budget_23 : decode cX4_budget 23 = .ok (.iload_n 2, 1) := by decide +kernel
theorem dX4_budget_24 : decode cX4_budget 24 = .ok (.iadd, 1) := by decide +kernel
theorem dX4_budget_25 : decode cX4_budget 25 = .ok (.iaload, 1) := by decide +kernel
theorem dX4_budget_26 : decode cX4_budget 26 = .ok (.imul, 1) := by decide +kernel
theorem dX4_budget_27 : decode cX4_budget 27 = .ok (.iadd, 1) := by decide +kernel
theorem dX4_budget_28 : decode cX4_budget 28 = .ok (.istore_n 1, 1) := by decide +kernel
theorem dX4_budget_29 : decode cX4_budget 29 = .ok (.iinc 2 1, 3) := by decide +kernel
theorem dX4_budget_32 : decode cX4_budget 32 = .ok (.goto (-28), 3) := by decide +kernel
theorem dX4_budget_35 : decode cX4_budget 35 = .ok (.iload_n 1, 1) := by decide +kernel
theorem dX4_budget_36 : decode cX4_budget 36 = .ok (.aload_n 0, 1) := by decide +kernel
theorem dX4_budget_37 : decode cX4_budget 37 = .ok (.getfield 7, 3) := by decide +kernel
theorem dX4_budget_40 : decode cX4_budget 40 = .ok (.bipush 6, 2) := by decide +kernel
theorem dX4_budget_42 : decode cX4_budget 42 = .ok (.iaload, 1) := by decide +kernel
theorem dX4_budget_43 : decode cX4_budget 43 = .ok (.if_icmp .le 15, 3) := by decide +kernel
theorem dX4_budget_46 : decode cX4_budget 46 = .ok (.iload_n 1, 1) := by decide +kernel
theorem dX4_budget_47 : decode cX4_budget 47 = .ok (.aload_n 0, 1) := by decide +kernel
theorem dX4_budget_48 : decode cX4_budget 48 = .ok (.getfield 7, 3) := by decide +kernel
theorem dX4_budget_51 : decode cX4_budget 51 = .ok (.bipush 6, 2) := by decide +kernel
theorem dX4_budget_53 : decode cX4_budget 53 = .ok (.iaload, 1) := by decide +kernel
theorem dX4_budget_54 : decode cX4_budget 54 = .ok (.isub, 1) := by decide +kernel
theorem dX4_budget_55 : decode cX4_budget 55 = .ok (.goto 4, 3) := by decide +kernel
theorem dX4_budget_58 : decode cX4_budget 58 = .ok (.iconst 0, 1) := by decide +kernel
theorem dX4_budget_59 : decode cX4_budget 59 = .ok (.ireturn, 1) := by decide +kernel
theorem dX4_available_0 : decode cX4_available 0 = .ok (.aload_n 0, 1) := by decide +kernel
theorem dX4_available_1 : decode cX4_available 1 = .ok (.invokevirtual 41, 3) := by decide +kernel
theorem dX4_available_4 : decode cX4_available 4 = .ok (.istore_n 1, 1) := by decide +kernel
theorem dX4_available_5 : decode cX4_available 5 = .ok (.iconst 0, 1) := by decide +kernel
theorem dX4_available_6 : decode cX4_available 6 = .ok (.istore_n 2, 1) := by decide +kernel
theorem dX4_available_7 : decode cX4_available 7 = .ok (.iload_n 2, 1) := by decide +kernel
theorem dX4_available_8 : decode cX4_available 8 = .ok (.bipush 8, 2) := by decide +kernel
theorem dX4_available_10 : decode cX4_available 10 = .ok (.if_icmp .ge 19, 3) := by decide +kernel
theorem dX4_available_13 : decode cX4_available 13 = .ok (.iload_n 1, 1) := by decide +kernel
theorem dX4_available_14 : decode cX4_available 14 = .ok (.aload_n 0, 1) := by decide +kernel
theorem dX4_available_15 : decode cX4_available 15 = .ok (.iload_n 2, 1) := by decide +kernel
theorem dX4_available_16 : decode cX4_available 16 = .ok (.bipush 8, 2) := by decide +kernel
theorem dX4_available_18 : decode cX4_available 18 = .ok (.invokevirtual 45, 3) := by decide +kernel
theorem dX4_available_21 : decode cX4_available 21 = .ok (.isub, 1) := by decide +kernel
theorem dX4_available_22 : decode cX4_available 22 = .ok (.istore_n 1, 1) := by decide +kernel
theorem dX4_available_23 : decode cX4_available 23 = .ok (.iinc 2 1, 3) := by decide +kernel
theorem dX4_available_26 : decode cX4_available 26 = .ok (.goto (-19), 3) := by decide +kernel
theorem dX4_available_29 : decode cX4_available 29 = .ok (.iload_n 1, 1) := by decide +kernel
theorem dX4_available_30 : decode cX4_available 30 = .ok (.ireturn, 1) := by decide +kernel
theorem dX4_losePower_0 : decode cX4_losePower 0 = .ok (.aload_n 0, 1) := by decide +kernel
theorem dX4_losePower_1 : decode cX4_losePower 1 = .ok (.getfield 7, 3) := by decide +kernel
theorem dX4_losePower_4 : decode cX4_losePower 4 = .ok (.iload_n 1, 1) := by decide +kernel
theorem dX4_losePower_5 : decode cX4_losePower 5 = .ok (.bipush 8, 2) := by decide +kernel
theorem dX4_losePower_7 : decode cX4_losePower 7 = .ok (.invokestatic 26, 3) := by decide +kernel
theorem dX4_losePower_10 : decode cX4_losePower 10 = .ok (.iconst 0, 1) := by decide +kernel
theorem dX4_losePower_11 : decode cX4_losePower 11 = .ok (.iastore, 1) := by decide +kernel
theorem dX4_losePower_12 : decode cX4_losePower 12 = .ok (.aload_n 0, 1) := by decide +kernel
theorem dX4_losePower_13 : decode cX4_losePower 13 = .ok (.getfield 7, 3) := by decide +kernel
theorem dX4_losePower_16 : decode cX4_losePower 16 = .ok (.iload_n 1, 1) := by decide +kernel
theorem dX4_losePower_17 : decode cX4_losePower 17 = .ok (.bipush 9, 2) := by decide +kernel
theorem dX4_losePower_19 : decode cX4_losePower 19 = .ok (.invokestatic 26, 3) := by decide +kernel
theorem dX4_losePower_22 : decode cX4_losePower 22 = .ok (.iconst 0, 1) := by decide +kernel
theorem dX4_losePower_23 : decode cX4_losePower 23 = .ok (.iastore, 1) := by decide +kernel
theorem dX4_losePower_24 : decode cX4_losePower 24 = .ok (.return_, 1) := by decide +kernel
theorem dX4_isPowered_0 : decode cX4_isPowered 0 = .ok (.aload_n 0, 1) := by decide +kernel
theorem dX4_isPowered_1 : decode cX4_isPowered 1 = .ok (.iload_n 1, 1) := by decide +kernel
theorem dX4_isPowered_2 : decode cX4_isPowered 2 = .ok (.bipush 8, 2) := by decide +kernel
theorem dX4_isPowered_4 : decode cX4_isPowered 4 = .ok (.invokevirtual 45, 3) := by decide +kernel
theorem dX4_isPowered_7 : decode cX4_isPowered 7 = .ok (.ifCond .le 7, 3) := by decide +kernel
theorem dX4_isPowered_10 : decode cX4_isPowered 10 = .ok (.iconst 1, 1) := by decide +kernel
theorem dX4_isPowered_11 : decode cX4_isPowered 11 = .ok (.goto 4, 3) := by decide +kernel
theorem dX4_isPowered_14 : decode cX4_isPowered 14 = .ok (.iconst 0, 1) := by decide +kernel
theorem dX4_isPowered_15 : decode cX4_isPowered 15 = .ok (.ireturn, 1) := by decide +kernel
theorem dX4_setEnabled_0 : decode cX4_setEnabled 0 = .ok (.iload_n 1, 1) := by decide +kernel
theorem dX4_setEnabled_1 : decode cX4_setEnabled 1 = .ok (.invokestatic 48, 3) := by decide +kernel
theorem dX4_setEnabled_4 : decode cX4_setEnabled 4 = .ok (.ifCond .ne 5, 3) := by decide +kernel
theorem dX4_setEnabled_7 : decode cX4_setEnabled 7 = .ok (.iconst (-1), 1) := by decide +kernel
theorem dX4_setEnabled_8 : decode cX4_setEnabled 8 = .ok (.ireturn, 1) := by decide +kernel
theorem dX4_setEnabled_9 : decode cX4_setEnabled 9 = .ok (.iload_n 2, 1) := by decide +kernel
theorem dX4_setEnabled_10 : decode cX4_setEnabled 10 = .ok (.ifCond .ne 20, 3) := by decide +kernel
theorem dX4_setEnabled_13 : decode cX4_setEnabled 13 = .ok (.aload_n 0, 1) := by decide +kernel
theorem dX4_setEnabled_14 : decode cX4_setEnabled 14 = .ok (.iload_n 1, 1) := by decide +kernel
theorem dX4_setEnabled_15 : decode cX4_setEnabled 15 = .ok (.invokevirtual 51, 3) := by decide +kernel
theorem dX4_setEnabled_18 : decode cX4_setEnabled 18 = .ok (.aload_n 0, 1) := by decide +kernel
theorem dX4_setEnabled_19 : decode cX4_setEnabled 19 = .ok (.getfield 7, 3) := by decide +kernel
theorem dX4_setEnabled_22 : decode cX4_setEnabled 22 = .ok (.iload_n 1, 1) := by decide +kernel
theorem dX4_setEnabled_23 : decode cX4_setEnabled 23 = .ok (.bipush 10, 2) := by decide +kernel
theorem dX4_setEnabled_25 : decode cX4_setEnabled 25 = .ok (.invokestatic 26, 3) := by decide +kernel
theorem dX4_setEnabled_28 : decode cX4_setEnabled 28 = .ok (.iconst 0, 1) := by decide +kernel
theorem dX4_setEnabled_29 : decode cX4_setEnabled 29 = .ok (.iastore, 1) := by decide +kernel
theorem dX4_setEnabled_30 : decode cX4_setEnabled 30 = .ok (.aload_n 0, 1) := by decide +kernel
theorem dX4_setEnabled_31 : decode cX4_setEnabled 31 = .ok (.iload_n 1, 1) := by decide +kernel
theorem dX4_setEnabled_32 : decode cX4_setEnabled 32 = .ok (.iconst 0, 1) := by decide +kernel
theorem dX4_setEnabled_33 : decode cX4_setEnabled 33 = .ok (.invokestatic 26, 3) := by decide +kernel
theorem dX4_setEnabled_36 : decode cX4_setEnabled 36 = .ok (.iload_n 2, 1) := by decide +kernel
theorem dX4_setEnabled_37 : decode cX4_setEnabled 37 = .ok (.ifCond .eq 7, 3) := by decide +kernel
theorem dX4_setEnabled_40 : decode cX4_setEnabled 40 = .ok (.iconst 1, 1) := by decide +kernel
theorem dX4_setEnabled_41 : decode cX4_setEnabled 41 = .ok (.goto 4, 3) := by decide +kernel
theorem dX4_setEnabled_44 : decode cX4_setEnabled 44 = .ok (.iconst 0, 1) := by decide +kernel
theorem dX4_setEnabled_45 : decode cX4_setEnabled 45 = .ok (.invokevirtual 38, 3) := by decide +kernel
theorem dX4_setEnabled_48 : decode cX4_setEnabled 48 = .ok (.ireturn, 1) := by decide +kernel
theorem dX4_setPriority_0 : decode cX4_setPriority 0 = .ok (.iload_n 1, 1) := by decide +kernel
theorem dX4_setPriority_1 : decode cX4_setPriority 1 = .ok (.invokestatic 48, 3) := by decide +kernel
theorem dX4_setPriority_4 : decode cX4_setPriority 4 = .ok (.ifCond .ne 5, 3) := by decide +kernel
theorem dX4_setPriority_7 : decode cX4_setPriority 7 = .ok (.iconst (-1), 1) := by decide +kernel
theorem dX4_setPriority_8 : decode cX4_setPriority 8 = .ok (.ireturn, 1) := by decide +kernel
theorem dX4_setPriority_9 : decode cX4_setPriority 9 = .ok (.iload_n 2, 1) := by decide +kernel
theorem dX4_setPriority_10 : decode cX4_setPriority 10 = .ok (.iconst 0, 1) := by decide +kernel
theorem dX4_setPriority_11 : decode cX4_setPriority 11 = .ok (.iconst 2, 1) := by decide +kernel
theorem dX4_setPriority_12 : decode cX4_setPriority 12 = .ok (.invokestatic 30, 3) := by decide +kernel
theorem dX4_setPriority_15 : decode cX4_setPriority 15 = .ok (.ifCond .eq 16, 3) := by decide +kernel
theorem dX4_setPriority_18 : decode cX4_setPriority 18 = .ok (.aload_n 0, 1) := by decide +kernel
theorem dX4_setPriority_19 : decode cX4_setPriority 19 = .ok (.iload_n 1, 1) := by decide +kernel
theorem dX4_setPriority_20 : decode cX4_setPriority 20 = .ok (.iconst 1, 1) := by decide +kernel
theorem dX4_setPriority_21 : decode cX4_setPriority 21 = .ok (.invokestatic 26, 3) := by decide +kernel
theorem dX4_setPriority_24 : decode cX4_setPriority 24 = .ok (.iload_n 2, 1) := by decide +kernel
theorem dX4_setPriority_25 : decode cX4_setPriority 25 = .ok (.invokevirtual 38, 3) := by decide +kernel
theorem dX4_setPriority_28 : decode cX4_setPriority 28 = .ok (.goto 5, 3) := by decide +kernel
theorem dX4_setPriority_31 : decode cX4_setPriority 31 = .ok (.bipush (-2), 2) := by decide +kernel
theorem dX4_setPriority_33 : decode cX4_setPriority 33 = .ok (.ireturn, 1) := by decide +kernel
theorem dX4_classBy_0 : decode cX4_classBy 0 = .ok (.iload_n 0, 1) := by decide +kernel
theorem dX4_classBy_1 : decode cX4_classBy 1 = .ok (.iconst 0, 1) := by decide +kernel
theorem dX4_classBy_2 : decode cX4_classBy 2 = .ok (.iconst 4, 1) := by decide +kernel
theorem dX4_classBy_3 : decode cX4_classBy 3 = .ok (.invokestatic 30, 3) := by decide +kernel
theorem dX4_classBy_6 : decode cX4_classBy 6 = .ok (.ifCond .eq 5, 3) := by decide +kernel
theorem dX4_classBy_9 : decode cX4_classBy 9 = .ok (.iconst 0, 1) := by decide +kernel
theorem dX4_classBy_10 : decode cX4_classBy 10 = .ok (.ireturn, 1) := by decide +kernel
theorem dX4_classBy_11 : decode cX4_classBy 11 = .ok (.iload_n 0, 1) := by decide +kernel
theorem dX4_classBy_12 : decode cX4_classBy 12 = .ok (.bipush 9, 2) := by decide +kernel
theorem dX4_classBy_14 : decode cX4_classBy 14 = .ok (.bipush 12, 2) := by decide +kernel
theorem dX4_classBy_16 : decode cX4_classBy 16 = .ok (.invokestatic 30, 3) := by decide +kernel
theorem dX4_classBy_19 : decode cX4_classBy 19 = .ok (.ifCond .eq 5, 3) := by decide +kernel
theorem dX4_classBy_22 : decode cX4_classBy 22 = .ok (.iconst 1, 1) := by decide +kernel
theorem dX4_classBy_23 : decode cX4_classBy 23 = .ok (.ireturn, 1) := by decide +kernel
theorem dX4_classBy_24 : decode cX4_classBy 24 = .ok (.iload_n 0, 1) := by decide +kernel
theorem dX4_classBy_25 : decode cX4_classBy 25 = .ok (.bipush 17, 2) := by decide +kernel
theorem dX4_classBy_27 : decode cX4_classBy 27 = .ok (.bipush 20, 2) := by decide +kernel
theorem dX4_classBy_29 : decode cX4_classBy 29 = .ok (.invokestatic 30, 3) := by decide +kernel
theorem dX4_classBy_32 : decode cX4_classBy 32 = .ok (.ifCond .eq 5, 3) := by decide +kernel
theorem dX4_classBy_35 : decode cX4_classBy 35 = .ok (.iconst 2, 1) := by decide +kernel
theorem dX4_classBy_36 : decode cX4_classBy 36 = .ok (.ireturn, 1) := by decide +kernel
theorem dX4_classBy_37 : decode cX4_classBy 37 = .ok (.iload_n 0, 1) := by decide +kernel
theorem dX4_classBy_38 : decode cX4_classBy 38 = .ok (.bipush 26, 2) := by decide +kernel
theorem dX4_classBy_40 : decode cX4_classBy 40 = .ok (.bipush 30, 2) := by decide +kernel
theorem dX4_classBy_42 : decode cX4_classBy 42 = .ok (.invokestatic 30, 3) := by decide +kernel
theorem dX4_classBy_45 : decode cX4_classBy 45 = .ok (.ifCond .eq 5, 3) := by decide +kernel
theorem dX4_classBy_48 : decode cX4_classBy 48 = .ok (.iconst 3, 1) := by decide +kernel
theorem dX4_classBy_49 : decode cX4_classBy 49 = .ok (.ireturn, 1) := by decide +kernel
theorem dX4_classBy_50 : decode cX4_classBy 50 = .ok (.iload_n 0, 1) := by decide +kernel
theorem dX4_classBy_51 : decode cX4_classBy 51 = .ok (.bipush 36, 2) := by decide +kernel
theorem dX4_classBy_53 : decode cX4_classBy 53 = .ok (.bipush 44, 2) := by decide +kernel
theorem dX4_classBy_55 : decode cX4_classBy 55 = .ok (.invokestatic 30, 3) := by decide +kernel
theorem dX4_classBy_58 : decode cX4_classBy 58 = .ok (.ifCond .eq 7, 3) := by decide +kernel
theorem dX4_classBy_61 : decode cX4_classBy 61 = .ok (.iconst 4, 1) := by decide +kernel
theorem dX4_classBy_62 : decode cX4_classBy 62 = .ok (.goto 5, 3) := by decide +kernel
theorem dX4_classBy_65 : decode cX4_classBy 65 = .ok (.bipush (-6), 2) := by decide +kernel
theorem dX4_classBy_67 : decode cX4_classBy 67 = .ok (.ireturn, 1) := by decide +kernel
theorem dX4_maximumOf_0 : decode cX4_maximumOf 0 = .ok (.iload_n 0, 1) := by decide +kernel
theorem dX4_maximumOf_1 : decode cX4_maximumOf 1 = .ok (.tableswitch 41 0 3 #[31, 35, 38, 31], 31) := by decide +kernel
theorem dX4_maximumOf_32 : decode cX4_maximumOf 32 = .ok (.sipush 154, 3) := by decide +kernel
theorem dX4_maximumOf_35 : decode cX4_maximumOf 35 = .ok (.ireturn, 1) := by decide +kernel
theorem dX4_maximumOf_36 : decode cX4_maximumOf 36 = .ok (.bipush 40, 2) := by decide +kernel
theorem dX4_maximumOf_38 : decode cX4_maximumOf 38 = .ok (.ireturn, 1) := by decide +kernel
theorem dX4_maximumOf_39 : decode cX4_maximumOf 39 = .ok (.bipush 70, 2) := by decide +kernel
theorem dX4_maximumOf_41 : decode cX4_maximumOf 41 = .ok (.ireturn, 1) := by decide +kernel
theorem dX4_maximumOf_42 : decode cX4_maximumOf 42 = .ok (.sipush 300, 3) := by decide +kernel
theorem dX4_maximumOf_45 : decode cX4_maximumOf 45 = .ok (.ireturn, 1) := by decide +kernel
theorem dX4_isConnected_0 : decode cX4_isConnected 0 = .ok (.aload_n 0, 1) := by decide +kernel
theorem dX4_isConnected_1 : decode cX4_isConnected 1 = .ok (.iload_n 1, 1) := by decide +kernel
theorem dX4_isConnected_2 : decode cX4_isConnected 2 = .ok (.iconst 2, 1) := by decide +kernel
theorem dX4_isConnected_3 : decode cX4_isConnected 3 = .ok (.invokevirtual 45, 3) := by decide +kernel
theorem dX4_isConnected_6 : decode cX4_isConnected 6 = .ok (.iconst 1, 1) := by decide +kernel
theorem dX4_isConnected_7 : decode cX4_isConnected 7 = .ok (.if_icmp .ne 7, 3) := by decide +kernel
theorem dX4_isConnected_10 : decode cX4_isConnected 10 = .ok (.iconst 1, 1) := by decide +kernel
theorem dX4_isConnected_11 : decode cX4_isConnected 11 = .ok (.goto 4, 3) := by decide +kernel
theorem dX4_isConnected_14 : decode cX4_isConnected 14 = .ok (.iconst 0, 1) := by decide +kernel
theorem dX4_isConnected_15 : decode cX4_isConnected 15 = .ok (.ireturn, 1) := by decide +kernel
theorem dX4_classOf_0 : decode cX4_classOf 0 = .ok (.aload_n 0, 1) := by decide +kernel
theorem dX4_classOf_1 : decode cX4_classOf 1 = .ok (.iload_n 1, 1) := by decide +kernel
theorem dX4_classOf_2 : decode cX4_classOf 2 = .ok (.invokevirtual 55, 3) := by decide +kernel
theorem dX4_classOf_5 : decode cX4_classOf 5 = .ok (.ifCond .eq 15, 3) := by decide +kernel
theorem dX4_classOf_8 : decode cX4_classOf 8 = .ok (.aload_n 0, 1) := by decide +kernel
theorem dX4_classOf_9 : decode cX4_classOf 9 = .ok (.iload_n 1, 1) := by decide +kernel
theorem dX4_classOf_10 : decode cX4_classOf 10 = .ok (.iconst 5, 1) := by decide +kernel
theorem dX4_classOf_11 : decode cX4_classOf 11 = .ok (.invokevirtual 45, 3) := by decide +kernel
theorem dX4_classOf_14 : decode cX4_classOf 14 = .ok (.invokestatic 58, 3) := by decide +kernel
theorem dX4_classOf_17 : decode cX4_classOf 17 = .ok (.goto 5, 3) := by decide +kernel
theorem dX4_classOf_20 : decode cX4_classOf 20 = .ok (.bipush (-6), 2) := by decide +kernel
theorem dX4_classOf_22 : decode cX4_classOf 22 = .ok (.ireturn, 1) := by decide +kernel
theorem dX4_connect_0 : decode cX4_connect 0 = .ok (.iload_n 1, 1) := by decide +kernel
theorem dX4_connect_1 : decode cX4_connect 1 = .ok (.invokestatic 48, 3) := by decide +kernel
theorem dX4_connect_4 : decode cX4_connect 4 = .ok (.ifCond .ne 5, 3) := by decide +kernel
theorem dX4_connect_7 : decode cX4_connect 7 = .ok (.iconst (-1), 1) := by decide +kernel
theorem dX4_connect_8 : decode cX4_connect 8 = .ok (.ireturn, 1) := by decide +kernel
theorem dX4_connect_9 : decode cX4_connect 9 = .ok (.iload_n 2, 1) := by decide +kernel
theorem dX4_connect_10 : decode cX4_connect 10 = .ok (.iconst 1, 1) := by decide +kernel
theorem dX4_connect_11 : decode cX4_connect 11 = .ok (.sipush 999, 3) := by decide +kernel
theorem dX4_connect_14 : decode cX4_connect 14 = .ok (.invokestatic 30, 3) := by decide +kernel
theorem dX4_connect_17 : decode cX4_connect 17 = .ok (.ifCond .eq 36, 3) := by decide +kernel
theorem dX4_connect_20 : decode cX4_connect 20 = .ok (.iload_n 3, 1) := by decide +kernel
theorem dX4_connect_21 : decode cX4_connect 21 = .ok (.iconst 0, 1) := by decide +kernel
theorem dX4_connect_22 : decode cX4_connect 22 = .ok (.bipush 99, 2) := by decide +kernel
theorem dX4_connect_24 : decode cX4_connect 24 = .ok (.invokestatic 30, 3) := by decide +kernel
theorem dX4_connect_27 : decode cX4_connect 27 = .ok (.ifCond .eq 26, 3) := by decide +kernel
theorem dX4_connect_30 : decode cX4_connect 30 = .ok (.iload 4, 2) := by decide +kernel
theorem dX4_connect_32 : decode cX4_connect 32 = .ok (.iconst 0, 1) := by decide +kernel
theorem dX4_connect_33 : decode cX4_connect 33 = .ok (.bipush 60, 2) := by decide +kernel
theorem dX4_connect_35 : decode cX4_connect 35 = .ok (.invokestatic 30, 3) := by decide +kernel
theorem dX4_connect_38 : decode cX4_connect 38 = .ok (.ifCond .eq 15, 3) := by decide +kernel
theorem dX4_connect_41 : decode cX4_connect 41 = .ok (.iload 5, 2) := by decide +kernel
theorem dX4_connect_43 : decode cX4_connect 43 = .ok (.iconst 0, 1) := by decide +kernel
theorem dX4_connect_44 : decode cX4_connect 44 = .ok (.sipush 999, 3) := by decide +kernel
theorem dX4_connect_47 : decode cX4_connect 47 = .ok (.invokestatic 30, 3) := by decide +kernel
theorem dX4_connect_50 : decode cX4_connect 50 = .ok (.ifCond .ne 6, 3) := by decide +kernel
theorem dX4_connect_53 : decode cX4_connect 53 = .ok (.bipush (-2), 2) := by decide +kernel
theorem dX4_connect_55 : decode cX4_connect 55 = .ok (.ireturn, 1) := by decide +kernel
theorem dX4_connect_56 : decode cX4_connect 56 = .ok (.aload_n 0, 1) := by decide +kernel
theorem dX4_connect_57 : decode cX4_connect 57 = .ok (.iload_n 1, 1) := by decide +kernel
theorem dX4_connect_58 : decode cX4_connect 58 = .ok (.invokevirtual 55, 3) := by decide +kernel
theorem dX4_connect_61 : decode cX4_connect 61 = .ok (.ifCond .eq 6, 3) := by decide +kernel
theorem dX4_connect_64 : decode cX4_connect 64 = .ok (.bipush (-3), 2) := by decide +kernel
theorem dX4_connect_66 : decode cX4_connect 66 = .ok (.ireturn, 1) := by decide +kernel
theorem dX4_connect_67 : decode cX4_connect 67 = .ok (.iload 4, 2) := by decide +kernel
theorem dX4_connect_69 : decode cX4_connect 69 = .ok (.invokestatic 58, 3) := by decide +kernel
theorem dX4_connect_72 : decode cX4_connect 72 = .ok (.istore 6, 2) := by decide +kernel
theorem dX4_connect_74 : decode cX4_connect 74 = .ok (.aload_n 0, 1) := by decide +kernel
theorem dX4_connect_75 : decode cX4_connect 75 = .ok (.getfield 7, 3) := by decide +kernel
theorem dX4_connect_78 : decode cX4_connect 78 = .ok (.iload_n 1, 1) := by decide +kernel
theorem dX4_connect_79 : decode cX4_connect 79 = .ok (.iconst 2, 1) := by decide +kernel
theorem dX4_connect_80 : decode cX4_connect 80 = .ok (.invokestatic 26, 3) := by decide +kernel
theorem dX4_connect_83 : decode cX4_connect 83 = .ok (.iconst 1, 1) := by decide +kernel
theorem dX4_connect_84 : decode cX4_connect 84 = .ok (.iastore, 1) := by decide +kernel
theorem dX4_connect_85 : decode cX4_connect 85 = .ok (.aload_n 0, 1) := by decide +kernel
theorem dX4_connect_86 : decode cX4_connect 86 = .ok (.getfield 7, 3) := by decide +kernel
theorem dX4_connect_89 : decode cX4_connect 89 = .ok (.iload_n 1, 1) := by decide +kernel
theorem dX4_connect_90 : decode cX4_connect 90 = .ok (.iconst 3, 1) := by decide +kernel
theorem dX4_connect_91 : decode cX4_connect 91 = .ok (.invokestatic 26, 3) := by decide +kernel
theorem dX4_connect_94 : decode cX4_connect 94 = .ok (.iload_n 2, 1) := by decide +kernel
theorem dX4_connect_95 : decode cX4_connect 95 = .ok (.iastore, 1) := by decide +kernel
theorem dX4_connect_96 : decode cX4_connect 96 = .ok (.aload_n 0, 1) := by decide +kernel
theorem dX4_connect_97 : decode cX4_connect 97 = .ok (.getfield 7, 3) := by decide +kernel
theorem dX4_connect_100 : decode cX4_connect 100 = .ok (.iload_n 1, 1) := by decide +kernel
theorem dX4_connect_101 : decode cX4_connect 101 = .ok (.iconst 4, 1) := by decide +kernel
theorem dX4_connect_102 : decode cX4_connect 102 = .ok (.invokestatic 26, 3) := by decide +kernel
theorem dX4_connect_105 : decode cX4_connect 105 = .ok (.iload_n 3, 1) := by decide +kernel
theorem dX4_connect_106 : decode cX4_connect 106 = .ok (.iastore, 1) := by decide +kernel
theorem dX4_connect_107 : decode cX4_connect 107 = .ok (.aload_n 0, 1) := by decide +kernel
theorem dX4_connect_108 : decode cX4_connect 108 = .ok (.getfield 7, 3) := by decide +kernel
theorem dX4_connect_111 : decode cX4_connect 111 = .ok (.iload_n 1, 1) := by decide +kernel
theorem dX4_connect_112 : decode cX4_connect 112 = .ok (.iconst 5, 1) := by decide +kernel
theorem dX4_connect_113 : decode cX4_connect 113 = .ok (.invokestatic 26, 3) := by decide +kernel
theorem dX4_connect_116 : decode cX4_connect 116 = .ok (.iload 4, 2) := by decide +kernel
theorem dX4_connect_118 : decode cX4_connect 118 = .ok (.iastore, 1) := by decide +kernel
theorem dX4_connect_119 : decode cX4_connect 119 = .ok (.aload_n 0, 1) := by decide +kernel
theorem dX4_connect_120 : decode cX4_connect 120 = .ok (.getfield 7, 3) := by decide +kernel
theorem dX4_connect_123 : decode cX4_connect 123 = .ok (.iload_n 1, 1) := by decide +kernel
theorem dX4_connect_124 : decode cX4_connect 124 = .ok (.bipush 6, 2) := by decide +kernel
theorem dX4_connect_126 : decode cX4_connect 126 = .ok (.invokestatic 26, 3) := by decide +kernel
theorem dX4_connect_129 : decode cX4_connect 129 = .ok (.iload 5, 2) := by decide +kernel
theorem dX4_connect_131 : decode cX4_connect 131 = .ok (.iastore, 1) := by decide +kernel
theorem dX4_connect_132 : decode cX4_connect 132 = .ok (.aload_n 0, 1) := by decide +kernel
theorem dX4_connect_133 : decode cX4_connect 133 = .ok (.getfield 7, 3) := by decide +kernel
theorem dX4_connect_136 : decode cX4_connect 136 = .ok (.iload_n 1, 1) := by decide +kernel
theorem dX4_connect_137 : decode cX4_connect 137 = .ok (.bipush 7, 2) := by decide +kernel
theorem dX4_connect_139 : decode cX4_connect 139 = .ok (.invokestatic 26, 3) := by decide +kernel
theorem dX4_connect_142 : decode cX4_connect 142 = .ok (.iload 6, 2) := by decide +kernel
theorem dX4_connect_144 : decode cX4_connect 144 = .ok (.ifCond .ge 7, 3) := by decide +kernel
theorem dX4_connect_147 : decode cX4_connect 147 = .ok (.iconst 0, 1) := by decide +kernel
theorem dX4_connect_148 : decode cX4_connect 148 = .ok (.goto 8, 3) := by decide +kernel
theorem dX4_connect_151 : decode cX4_connect 151 = .ok (.iload 6, 2) := by decide +kernel
theorem dX4_connect_153 : decode cX4_connect 153 = .ok (.invokestatic 62, 3) := by decide +kernel
theorem dX4_connect_156 : decode cX4_connect 156 = .ok (.iastore, 1) := by decide +kernel
theorem dX4_connect_157 : decode cX4_connect 157 = .ok (.iload 6, 2) := by decide +kernel
theorem dX4_connect_159 : decode cX4_connect 159 = .ok (.ireturn, 1) := by decide +kernel
theorem dX4_disconnect_0 : decode cX4_disconnect 0 = .ok (.iload_n 1, 1) := by decide +kernel
theorem dX4_disconnect_1 : decode cX4_disconnect 1 = .ok (.invokestatic 48, 3) := by decide +kernel
theorem dX4_disconnect_4 : decode cX4_disconnect 4 = .ok (.ifCond .ne 5, 3) := by decide +kernel
theorem dX4_disconnect_7 : decode cX4_disconnect 7 = .ok (.iconst (-1), 1) := by decide +kernel
theorem dX4_disconnect_8 : decode cX4_disconnect 8 = .ok (.ireturn, 1) := by decide +kernel
theorem dX4_disconnect_9 : decode cX4_disconnect 9 = .ok (.aload_n 0, 1) := by decide +kernel
theorem dX4_disconnect_10 : decode cX4_disconnect 10 = .ok (.iload_n 1, 1) := by decide +kernel
theorem dX4_disconnect_11 : decode cX4_disconnect 11 = .ok (.invokevirtual 55, 3) := by decide +kernel
theorem dX4_disconnect_14 : decode cX4_disconnect 14 = .ok (.ifCond .ne 6, 3) := by decide +kernel
theorem dX4_disconnect_17 : decode cX4_disconnect 17 = .ok (.bipush (-3), 2) := by decide +kernel
theorem dX4_disconnect_19 : decode cX4_disconnect 19 = .ok (.ireturn, 1) := by decide +kernel
theorem dX4_disconnect_20 : decode cX4_disconnect 20 = .ok (.aload_n 0, 1) := by decide +kernel
theorem dX4_disconnect_21 : decode cX4_disconnect 21 = .ok (.iload_n 1, 1) := by decide +kernel
theorem dX4_disconnect_22 : decode cX4_disconnect 22 = .ok (.invokevirtual 65, 3) := by decide +kernel
theorem dX4_disconnect_25 : decode cX4_disconnect 25 = .ok (.ifCond .eq 7, 3) := by decide +kernel
theorem dX4_disconnect_28 : decode cX4_disconnect 28 = .ok (.iconst 1, 1) := by decide +kernel
theorem dX4_disconnect_29 : decode cX4_disconnect 29 = .ok (.goto 4, 3) := by decide +kernel
theorem dX4_disconnect_32 : decode cX4_disconnect 32 = .ok (.iconst 0, 1) := by decide +kernel
theorem dX4_disconnect_33 : decode cX4_disconnect 33 = .ok (.istore_n 2, 1) := by decide +kernel
theorem dX4_disconnect_34 : decode cX4_disconnect 34 = .ok (.aload_n 0, 1) := by decide +kernel
theorem dX4_disconnect_35 : decode cX4_disconnect 35 = .ok (.iload_n 1, 1) := by decide +kernel
theorem dX4_disconnect_36 : decode cX4_disconnect 36 = .ok (.invokevirtual 51, 3) := by decide +kernel
theorem dX4_disconnect_39 : decode cX4_disconnect 39 = .ok (.iconst 2, 1) := by decide +kernel
theorem dX4_disconnect_40 : decode cX4_disconnect 40 = .ok (.istore_n 3, 1) := by decide +kernel
theorem dX4_disconnect_41 : decode cX4_disconnect 41 = .ok (.iload_n 3, 1) := by decide +kernel
theorem dX4_disconnect_42 : decode cX4_disconnect 42 = .ok (.bipush 7, 2) := by decide +kernel
theorem dX4_disconnect_44 : decode cX4_disconnect 44 = .ok (.if_icmp .gt 20, 3) := by decide +kernel
theorem dX4_disconnect_47 : decode cX4_disconnect 47 = .ok (.aload_n 0, 1) := by decide +kernel
theorem dX4_disconnect_48 : decode cX4_disconnect 48 = .ok (.getfield 7, 3) := by decide +kernel
theorem dX4_disconnect_51 : decode cX4_disconnect 51 = .ok (.iload_n 1, 1) := by decide +kernel
theorem dX4_disconnect_52 : decode cX4_disconnect 52 = .ok (.iload_n 3, 1) := by decide +kernel
theorem dX4_disconnect_53 : decode cX4_disconnect 53 = .ok (.invokestatic 26, 3) := by decide +kernel
theorem dX4_disconnect_56 : decode cX4_disconnect 56 = .ok (.iconst 0, 1) := by decide +kernel
theorem dX4_disconnect_57 : decode cX4_disconnect 57 = .ok (.iastore, 1) := by decide +kernel
theorem dX4_disconnect_58 : decode cX4_disconnect 58 = .ok (.iinc 3 1, 3) := by decide +kernel
theorem dX4_disconnect_61 : decode cX4_disconnect 61 = .ok (.goto (-20), 3) := by decide +kernel
theorem dX4_disconnect_64 : decode cX4_disconnect 64 = .ok (.aload_n 0, 1) := by decide +kernel
theorem dX4_disconnect_65 : decode cX4_disconnect 65 = .ok (.getfield 7, 3) := by decide +kernel
theorem dX4_disconnect_68 : decode cX4_disconnect 68 = .ok (.iload_n 1, 1) := by decide +kernel
theorem dX4_disconnect_69 : decode cX4_disconnect 69 = .ok (.bipush 10, 2) := by decide +kernel
theorem dX4_disconnect_71 : decode cX4_disconnect 71 = .ok (.invokestatic 26, 3) := by decide +kernel
theorem dX4_disconnect_74 : decode cX4_disconnect 74 = .ok (.iconst 0, 1) := by decide +kernel
theorem dX4_disconnect_75 : decode cX4_disconnect 75 = .ok (.iastore, 1) := by decide +kernel
theorem dX4_disconnect_76 : decode cX4_disconnect 76 = .ok (.iload_n 2, 1) := by decide +kernel
theorem dX4_disconnect_77 : decode cX4_disconnect 77 = .ok (.ireturn, 1) := by decide +kernel
theorem dX4_setLoad_0 : decode cX4_setLoad 0 = .ok (.iload_n 1, 1) := by decide +kernel
theorem dX4_setLoad_1 : decode cX4_setLoad 1 = .ok (.invokestatic 48, 3) := by decide +kernel
theorem dX4_setLoad_4 : decode cX4_setLoad 4 = .ok (.ifCond .ne 5, 3) := by decide +kernel
theorem dX4_setLoad_7 : decode cX4_setLoad 7 = .ok (.iconst (-1), 1) := by decide +kernel
theorem dX4_setLoad_8 : decode cX4_setLoad 8 = .ok (.ireturn, 1) := by decide +kernel
theorem dX4_setLoad_9 : decode cX4_setLoad 9 = .ok (.iload_n 2, 1) := by decide +kernel
theorem dX4_setLoad_10 : decode cX4_setLoad 10 = .ok (.iconst 0, 1) := by decide +kernel
theorem dX4_setLoad_11 : decode cX4_setLoad 11 = .ok (.sipush 999, 3) := by decide +kernel
theorem dX4_setLoad_14 : decode cX4_setLoad 14 = .ok (.invokestatic 30, 3) := by decide +kernel
theorem dX4_setLoad_17 : decode cX4_setLoad 17 = .ok (.ifCond .ne 6, 3) := by decide +kernel
theorem dX4_setLoad_20 : decode cX4_setLoad 20 = .ok (.bipush (-2), 2) := by decide +kernel
theorem dX4_setLoad_22 : decode cX4_setLoad 22 = .ok (.ireturn, 1) := by decide +kernel
theorem dX4_setLoad_23 : decode cX4_setLoad 23 = .ok (.aload_n 0, 1) := by decide +kernel
theorem dX4_setLoad_24 : decode cX4_setLoad 24 = .ok (.iload_n 1, 1) := by decide +kernel
theorem dX4_setLoad_25 : decode cX4_setLoad 25 = .ok (.invokevirtual 55, 3) := by decide +kernel
theorem dX4_setLoad_28 : decode cX4_setLoad 28 = .ok (.ifCond .eq 17, 3) := by decide +kernel
theorem dX4_setLoad_31 : decode cX4_setLoad 31 = .ok (.aload_n 0, 1) := by decide +kernel
theorem dX4_setLoad_32 : decode cX4_setLoad 32 = .ok (.iload_n 1, 1) := by decide +kernel
theorem dX4_setLoad_33 : decode cX4_setLoad 33 = .ok (.bipush 6, 2) := by decide +kernel
theorem dX4_setLoad_35 : decode cX4_setLoad 35 = .ok (.invokestatic 26, 3) := by decide +kernel
theorem dX4_setLoad_38 : decode cX4_setLoad 38 = .ok (.iload_n 2, 1) := by decide +kernel
theorem dX4_setLoad_39 : decode cX4_setLoad 39 = .ok (.invokevirtual 38, 3) := by decide +kernel
theorem dX4_setLoad_42 : decode cX4_setLoad 42 = .ok (.goto 5, 3) := by decide +kernel
theorem dX4_setLoad_45 : decode cX4_setLoad 45 = .ok (.bipush (-3), 2) := by decide +kernel
theorem dX4_setLoad_47 : decode cX4_setLoad 47 = .ok (.ireturn, 1) := by decide +kernel
theorem dX4_setRequest_0 : decode cX4_setRequest 0 = .ok (.iload_n 1, 1) := by decide +kernel
theorem dX4_setRequest_1 : decode cX4_setRequest 1 = .ok (.invokestatic 48, 3) := by decide +kernel
theorem dX4_setRequest_4 : decode cX4_setRequest 4 = .ok (.ifCond .ne 5, 3) := by decide +kernel
theorem dX4_setRequest_7 : decode cX4_setRequest 7 = .ok (.iconst (-1), 1) := by decide +kernel
theorem dX4_setRequest_8 : decode cX4_setRequest 8 = .ok (.ireturn, 1) := by decide +kernel
theorem dX4_setRequest_9 : decode cX4_setRequest 9 = .ok (.aload_n 0, 1) := by decide +kernel
theorem dX4_setRequest_10 : decode cX4_setRequest 10 = .ok (.iload_n 1, 1) := by decide +kernel
theorem dX4_setRequest_11 : decode cX4_setRequest 11 = .ok (.invokevirtual 68, 3) := by decide +kernel
theorem dX4_setRequest_14 : decode cX4_setRequest 14 = .ok (.ifCond .ge 6, 3) := by decide +kernel
theorem dX4_setRequest_17 : decode cX4_setRequest 17 = .ok (.bipush (-3), 2) := by decide +kernel
theorem dX4_setRequest_19 : decode cX4_setRequest 19 = .ok (.ireturn, 1) := by decide +kernel
theorem dX4_setRequest_20 : decode cX4_setRequest 20 = .ok (.iload_n 2, 1) := by decide +kernel
theorem dX4_setRequest_21 : decode cX4_setRequest 21 = .ok (.iconst 1, 1) := by decide +kernel
theorem dX4_setRequest_22 : decode cX4_setRequest 22 = .ok (.aload_n 0, 1) := by decide +kernel
theorem dX4_setRequest_23 : decode cX4_setRequest 23 = .ok (.iload_n 1, 1) := by decide +kernel
theorem dX4_setRequest_24 : decode cX4_setRequest 24 = .ok (.invokevirtual 68, 3) := by decide +kernel
theorem dX4_setRequest_27 : decode cX4_setRequest 27 = .ok (.invokestatic 62, 3) := by decide +kernel
theorem dX4_setRequest_30 : decode cX4_setRequest 30 = .ok (.invokestatic 30, 3) := by decide +kernel
theorem dX4_setRequest_33 : decode cX4_setRequest 33 = .ok (.ifCond .ne 6, 3) := by decide +kernel
theorem dX4_setRequest_36 : decode cX4_setRequest 36 = .ok (.bipush (-2), 2) := by decide +kernel
theorem dX4_setRequest_38 : decode cX4_setRequest 38 = .ok (.ireturn, 1) := by decide +kernel
theorem dX4_setRequest_39 : decode cX4_setRequest 39 = .ok (.iload_n 2, 1) := by decide +kernel
theorem dX4_setRequest_40 : decode cX4_setRequest 40 = .ok (.aload_n 0, 1) := by decide +kernel
theorem dX4_setRequest_41 : decode cX4_setRequest 41 = .ok (.iload_n 1, 1) := by decide +kernel
theorem dX4_setRequest_42 : decode cX4_setRequest 42 = .ok (.bipush 8, 2) := by decide +kernel
theorem dX4_setRequest_44 : decode cX4_setRequest 44 = .ok (.invokevirtual 45, 3) := by decide +kernel
theorem dX4_setRequest_47 : decode cX4_setRequest 47 = .ok (.isub, 1) := by decide +kernel
theorem dX4_setRequest_48 : decode cX4_setRequest 48 = .ok (.istore_n 3, 1) := by decide +kernel
theorem dX4_setRequest_49 : decode cX4_setRequest 49 = .ok (.aload_n 0, 1) := by decide +kernel
theorem dX4_setRequest_50 : decode cX4_setRequest 50 = .ok (.iload_n 1, 1) := by decide +kernel
theorem dX4_setRequest_51 : decode cX4_setRequest 51 = .ok (.invokevirtual 65, 3) := by decide +kernel
theorem dX4_setRequest_54 : decode cX4_setRequest 54 = .ok (.ifCond .eq 18, 3) := by decide +kernel
theorem dX4_setRequest_57 : decode cX4_setRequest 57 = .ok (.iload_n 3, 1) := by decide +kernel
theorem dX4_setRequest_58 : decode cX4_setRequest 58 = .ok (.ifCond .le 14, 3) := by decide +kernel
theorem dX4_setRequest_61 : decode cX4_setRequest 61 = .ok (.iload_n 3, 1) := by decide +kernel
theorem dX4_setRequest_62 : decode cX4_setRequest 62 = .ok (.aload_n 0, 1) := by decide +kernel
theorem dX4_setRequest_63 : decode cX4_setRequest 63 = .ok (.invokevirtual 71, 3) := by decide +kernel
theorem dX4_setRequest_66 : decode cX4_setRequest 66 = .ok (.if_icmp .le 6, 3) := by decide +kernel
theorem dX4_setRequest_69 : decode cX4_setRequest 69 = .ok (.bipush (-5), 2) := by decide +kernel
theorem dX4_setRequest_71 : decode cX4_setRequest 71 = .ok (.ireturn, 1) := by decide +kernel
theorem dX4_setRequest_72 : decode cX4_setRequest 72 = .ok (.aload_n 0, 1) := by decide +kernel
theorem dX4_setRequest_73 : decode cX4_setRequest 73 = .ok (.iload_n 1, 1) := by decide +kernel
theorem dX4_setRequest_74 : decode cX4_setRequest 74 = .ok (.invokevirtual 65, 3) := by decide +kernel
theorem dX4_setRequest_77 : decode cX4_setRequest 77 = .ok (.ifCond .eq 15, 3) := by decide +kernel
theorem dX4_setRequest_80 : decode cX4_setRequest 80 = .ok (.aload_n 0, 1) := by decide +kernel
theorem dX4_setRequest_81 : decode cX4_setRequest 81 = .ok (.getfield 7, 3) := by decide +kernel
theorem dX4_setRequest_84 : decode cX4_setRequest 84 = .ok (.iload_n 1, 1) := by decide +kernel
theorem dX4_setRequest_85 : decode cX4_setRequest 85 = .ok (.bipush 8, 2) := by decide +kernel
theorem dX4_setRequest_87 : decode cX4_setRequest 87 = .ok (.invokestatic 26, 3) := by decide +kernel
theorem dX4_setRequest_90 : decode cX4_setRequest 90 = .ok (.iload_n 2, 1) := by decide +kernel
theorem dX4_setRequest_91 : decode cX4_setRequest 91 = .ok (.iastore, 1) := by decide +kernel
theorem dX4_setRequest_92 : decode cX4_setRequest 92 = .ok (.aload_n 0, 1) := by decide +kernel
theorem dX4_setRequest_93 : decode cX4_setRequest 93 = .ok (.iload_n 1, 1) := by decide +kernel
theorem dX4_setRequest_94 : decode cX4_setRequest 94 = .ok (.bipush 7, 2) := by decide +kernel
theorem dX4_setRequest_96 : decode cX4_setRequest 96 = .ok (.invokestatic 26, 3) := by decide +kernel
theorem dX4_setRequest_99 : decode cX4_setRequest 99 = .ok (.iload_n 2, 1) := by decide +kernel
theorem dX4_setRequest_100 : decode cX4_setRequest 100 = .ok (.invokevirtual 38, 3) := by decide +kernel
theorem dX4_setRequest_103 : decode cX4_setRequest 103 = .ok (.ireturn, 1) := by decide +kernel
theorem dX4_detects_0 : decode cX4_detects 0 = .ok (.aload_n 0, 1) := by decide +kernel
theorem dX4_detects_1 : decode cX4_detects 1 = .ok (.iload_n 1, 1) := by decide +kernel
theorem dX4_detects_2 : decode cX4_detects 2 = .ok (.invokevirtual 55, 3) := by decide +kernel
theorem dX4_detects_5 : decode cX4_detects 5 = .ok (.ifCond .eq 36, 3) := by decide +kernel
theorem dX4_detects_8 : decode cX4_detects 8 = .ok (.aload_n 0, 1) := by decide +kernel
theorem dX4_detects_9 : decode cX4_detects 9 = .ok (.iload_n 1, 1) := by decide +kernel
theorem dX4_detects_10 : decode cX4_detects 10 = .ok (.iconst 3, 1) := by decide +kernel
theorem dX4_detects_11 : decode cX4_detects 11 = .ok (.invokevirtual 45, 3) := by decide +kernel
theorem dX4_detects_14 : decode cX4_detects 14 = .ok (.sipush 190, 3) := by decide +kernel
theorem dX4_detects_17 : decode cX4_detects 17 = .ok (.sipush 265, 3) := by decide +kernel
theorem dX4_detects_20 : decode cX4_detects 20 = .ok (.invokestatic 30, 3) := by decide +kernel
theorem dX4_detects_23 : decode cX4_detects 23 = .ok (.ifCond .eq 18, 3) := by decide +kernel
theorem dX4_detects_26 : decode cX4_detects 26 = .ok (.aload_n 0, 1) := by decide +kernel
theorem dX4_detects_27 : decode cX4_detects 27 = .ok (.iload_n 1, 1) := by decide +kernel
theorem dX4_detects_28 : decode cX4_detects 28 = .ok (.iconst 4, 1) := by decide +kernel
theorem dX4_detects_29 : decode cX4_detects 29 = .ok (.invokevirtual 45, 3) := by decide +kernel
theorem dX4_detects_32 : decode cX4_detects 32 = .ok (.bipush 15, 2) := by decide +kernel
theorem dX4_detects_34 : decode cX4_detects 34 = .ok (.if_icmp .gt 7, 3) := by decide +kernel
theorem dX4_detects_37 : decode cX4_detects 37 = .ok (.iconst 1, 1) := by decide +kernel
theorem dX4_detects_38 : decode cX4_detects 38 = .ok (.goto 4, 3) := by decide +kernel
theorem dX4_detects_41 : decode cX4_detects 41 = .ok (.iconst 0, 1) := by decide +kernel
theorem dX4_detects_42 : decode cX4_detects 42 = .ok (.ireturn, 1) := by decide +kernel
theorem dX4_request_0 : decode cX4_request 0 = .ok (.iload_n 1, 1) := by decide +kernel
theorem dX4_request_1 : decode cX4_request 1 = .ok (.invokestatic 48, 3) := by decide +kernel
theorem dX4_request_4 : decode cX4_request 4 = .ok (.ifCond .ne 7, 3) := by decide +kernel
theorem dX4_request_7 : decode cX4_request 7 = .ok (.iconst (-1), 1) := by decide +kernel
theorem dX4_request_8 : decode cX4_request 8 = .ok (.goto 23, 3) := by decide +kernel
theorem dX4_request_11 : decode cX4_request 11 = .ok (.aload_n 0, 1) := by decide +kernel
theorem dX4_request_12 : decode cX4_request 12 = .ok (.iload_n 1, 1) := by decide +kernel
theorem dX4_request_13 : decode cX4_request 13 = .ok (.invokevirtual 68, 3) := by decide +kernel
theorem dX4_request_16 : decode cX4_request 16 = .ok (.ifCond .ge 8, 3) := by decide +kernel
theorem dX4_request_19 : decode cX4_request 19 = .ok (.bipush (-6), 2) := by decide +kernel
theorem dX4_request_21 : decode cX4_request 21 = .ok (.goto 10, 3) := by decide +kernel
theorem dX4_request_24 : decode cX4_request 24 = .ok (.aload_n 0, 1) := by decide +kernel
theorem dX4_request_25 : decode cX4_request 25 = .ok (.iload_n 1, 1) := by decide +kernel
theorem dX4_request_26 : decode cX4_request 26 = .ok (.bipush 7, 2) := by decide +kernel
theorem dX4_request_28 : decode cX4_request 28 = .ok (.invokevirtual 45, 3) := by decide +kernel
theorem dX4_request_31 : decode cX4_request 31 = .ok (.ireturn, 1) := by decide +kernel
theorem dX4_isEligible_0 : decode cX4_isEligible 0 = .ok (.aload_n 0, 1) := by decide +kernel
theorem dX4_isEligible_1 : decode cX4_isEligible 1 = .ok (.iload_n 1, 1) := by decide +kernel
theorem dX4_isEligible_2 : decode cX4_isEligible 2 = .ok (.iconst 0, 1) := by decide +kernel
theorem dX4_isEligible_3 : decode cX4_isEligible 3 = .ok (.invokevirtual 45, 3) := by decide +kernel
theorem dX4_isEligible_6 : decode cX4_isEligible 6 = .ok (.iconst 1, 1) := by decide +kernel
theorem dX4_isEligible_7 : decode cX4_isEligible 7 = .ok (.if_icmp .ne 23, 3) := by decide +kernel
theorem dX4_isEligible_10 : decode cX4_isEligible 10 = .ok (.aload_n 0, 1) := by decide +kernel
theorem dX4_isEligible_11 : decode cX4_isEligible 11 = .ok (.iload_n 1, 1) := by decide +kernel
theorem dX4_isEligible_12 : decode cX4_isEligible 12 = .ok (.invokevirtual 74, 3) := by decide +kernel
theorem dX4_isEligible_15 : decode cX4_isEligible 15 = .ok (.ifCond .eq 15, 3) := by decide +kernel
theorem dX4_isEligible_18 : decode cX4_isEligible 18 = .ok (.aload_n 0, 1) := by decide +kernel
theorem dX4_isEligible_19 : decode cX4_isEligible 19 = .ok (.iload_n 1, 1) := by decide +kernel
theorem dX4_isEligible_20 : decode cX4_isEligible 20 = .ok (.invokevirtual 68, 3) := by decide +kernel
theorem dX4_isEligible_23 : decode cX4_isEligible 23 = .ok (.ifCond .lt 7, 3) := by decide +kernel
theorem dX4_isEligible_26 : decode cX4_isEligible 26 = .ok (.iconst 1, 1) := by decide +kernel
theorem dX4_isEligible_27 : decode cX4_isEligible 27 = .ok (.goto 4, 3) := by decide +kernel
theorem dX4_isEligible_30 : decode cX4_isEligible 30 = .ok (.iconst 0, 1) := by decide +kernel
theorem dX4_isEligible_31 : decode cX4_isEligible 31 = .ok (.ireturn, 1) := by decide +kernel
theorem dX4_eligiblePorts_0 : decode cX4_eligiblePorts 0 = .ok (.iconst 0, 1) := by decide +kernel
theorem dX4_eligiblePorts_1 : decode cX4_eligiblePorts 1 = .ok (.istore_n 1, 1) := by decide +kernel
theorem dX4_eligiblePorts_2 : decode cX4_eligiblePorts 2 = .ok (.iconst 0, 1) := by decide +kernel
theorem dX4_eligiblePorts_3 : decode cX4_eligiblePorts 3 = .ok (.istore_n 2, 1) := by decide +kernel
theorem dX4_eligiblePorts_4 : decode cX4_eligiblePorts 4 = .ok (.iload_n 2, 1) := by decide +kernel
theorem dX4_eligiblePorts_5 : decode cX4_eligiblePorts 5 = .ok (.bipush 8, 2) := by decide +kernel
theorem dX4_eligiblePorts_7 : decode cX4_eligiblePorts 7 = .ok (.if_icmp .ge 27, 3) := by decide +kernel
theorem dX4_eligiblePorts_10 : decode cX4_eligiblePorts 10 = .ok (.iload_n 1, 1) := by decide +kernel
theorem dX4_eligiblePorts_11 : decode cX4_eligiblePorts 11 = .ok (.aload_n 0, 1) := by decide +kernel
theorem dX4_eligiblePorts_12 : decode cX4_eligiblePorts 12 = .ok (.iload_n 2, 1) := by decide +kernel
theorem dX4_eligiblePorts_13 : decode cX4_eligiblePorts 13 = .ok (.invokevirtual 77, 3) := by decide +kernel
theorem dX4_eligiblePorts_16 : decode cX4_eligiblePorts 16 = .ok (.ifCond .eq 9, 3) := by decide +kernel
theorem dX4_eligiblePorts_19 : decode cX4_eligiblePorts 19 = .ok (.iconst 1, 1) := by decide +kernel
theorem dX4_eligiblePorts_20 : decode cX4_eligiblePorts 20 = .ok (.iload_n 2, 1) := by decide +kernel
theorem dX4_eligiblePorts_21 : decode cX4_eligiblePorts 21 = .ok (.ishl, 1) := by decide +kernel
theorem dX4_eligiblePorts_22 : decode cX4_eligiblePorts 22 = .ok (.goto 4, 3) := by decide +kernel
theorem dX4_eligiblePorts_25 : decode cX4_eligiblePorts 25 = .ok (.iconst 0, 1) := by decide +kernel
theorem dX4_eligiblePorts_26 : decode cX4_eligiblePorts 26 = .ok (.ior, 1) := by decide +kernel
theorem dX4_eligiblePorts_27 : decode cX4_eligiblePorts 27 = .ok (.istore_n 1, 1) := by decide +kernel
theorem dX4_eligiblePorts_28 : decode cX4_eligiblePorts 28 = .ok (.iinc 2 1, 3) := by decide +kernel
theorem dX4_eligiblePorts_31 : decode cX4_eligiblePorts 31 = .ok (.goto (-27), 3) := by decide +kernel
theorem dX4_eligiblePorts_34 : decode cX4_eligiblePorts 34 = .ok (.iload_n 1, 1) := by decide +kernel
theorem dX4_eligiblePorts_35 : decode cX4_eligiblePorts 35 = .ok (.ireturn, 1) := by decide +kernel
theorem dX4_poweredPorts_0 : decode cX4_poweredPorts 0 = .ok (.iconst 0, 1) := by decide +kernel
theorem dX4_poweredPorts_1 : decode cX4_poweredPorts 1 = .ok (.istore_n 1, 1) := by decide +kernel
theorem dX4_poweredPorts_2 : decode cX4_poweredPorts 2 = .ok (.iconst 0, 1) := by decide +kernel
theorem dX4_poweredPorts_3 : decode cX4_poweredPorts 3 = .ok (.istore_n 2, 1) := by decide +kernel
theorem dX4_poweredPorts_4 : decode cX4_poweredPorts 4 = .ok (.iload_n 2, 1) := by decide +kernel
theorem dX4_poweredPorts_5 : decode cX4_poweredPorts 5 = .ok (.bipush 8, 2) := by decide +kernel
theorem dX4_poweredPorts_7 : decode cX4_poweredPorts 7 = .ok (.if_icmp .ge 27, 3) := by decide +kernel
theorem dX4_poweredPorts_10 : decode cX4_poweredPorts 10 = .ok (.iload_n 1, 1) := by decide +kernel
theorem dX4_poweredPorts_11 : decode cX4_poweredPorts 11 = .ok (.aload_n 0, 1) := by decide +kernel
theorem dX4_poweredPorts_12 : decode cX4_poweredPorts 12 = .ok (.iload_n 2, 1) := by decide +kernel
theorem dX4_poweredPorts_13 : decode cX4_poweredPorts 13 = .ok (.invokevirtual 65, 3) := by decide +kernel
theorem dX4_poweredPorts_16 : decode cX4_poweredPorts 16 = .ok (.ifCond .eq 9, 3) := by decide +kernel
theorem dX4_poweredPorts_19 : decode cX4_poweredPorts 19 = .ok (.iconst 1, 1) := by decide +kernel
theorem dX4_poweredPorts_20 : decode cX4_poweredPorts 20 = .ok (.iload_n 2, 1) := by decide +kernel
theorem dX4_poweredPorts_21 : decode cX4_poweredPorts 21 = .ok (.ishl, 1) := by decide +kernel
theorem dX4_poweredPorts_22 : decode cX4_poweredPorts 22 = .ok (.goto 4, 3) := by decide +kernel
theorem dX4_poweredPorts_25 : decode cX4_poweredPorts 25 = .ok (.iconst 0, 1) := by decide +kernel
theorem dX4_poweredPorts_26 : decode cX4_poweredPorts 26 = .ok (.ior, 1) := by decide +kernel
theorem dX4_poweredPorts_27 : decode cX4_poweredPorts 27 = .ok (.istore_n 1, 1) := by decide +kernel
theorem dX4_poweredPorts_28 : decode cX4_poweredPorts 28 = .ok (.iinc 2 1, 3) := by decide +kernel
theorem dX4_poweredPorts_31 : decode cX4_poweredPorts 31 = .ok (.goto (-27), 3) := by decide +kernel
theorem dX4_poweredPorts_34 : decode cX4_poweredPorts 34 = .ok (.iload_n 1, 1) := by decide +kernel
theorem dX4_poweredPorts_35 : decode cX4_poweredPorts 35 = .ok (.ireturn, 1) := by decide +kernel
theorem dX4_told_0 : decode cX4_told 0 = .ok (.iload_n 1, 1) := by decide +kernel
theorem dX4_told_1 : decode cX4_told 1 = .ok (.invokestatic 48, 3) := by decide +kernel
theorem dX4_told_4 : decode cX4_told 4 = .ok (.ifCond .eq 12, 3) := by decide +kernel
theorem dX4_told_7 : decode cX4_told 7 = .ok (.aload_n 0, 1) := by decide +kernel
theorem dX4_told_8 : decode cX4_told 8 = .ok (.iload_n 1, 1) := by decide +kernel
theorem dX4_told_9 : decode cX4_told 9 = .ok (.iload_n 2, 1) := by decide +kernel
theorem dX4_told_10 : decode cX4_told 10 = .ok (.invokevirtual 45, 3) := by decide +kernel
theorem dX4_told_13 : decode cX4_told 13 = .ok (.goto 4, 3) := by decide +kernel
theorem dX4_told_16 : decode cX4_told 16 = .ok (.iconst (-1), 1) := by decide +kernel
theorem dX4_told_17 : decode cX4_told 17 = .ok (.ireturn, 1) := by decide +kernel
theorem dX4_grant_0 : decode cX4_grant 0 = .ok (.aload_n 0, 1) := by decide +kernel
theorem dX4_grant_1 : decode cX4_grant 1 = .ok (.iload_n 1, 1) := by decide +kernel
theorem dX4_grant_2 : decode cX4_grant 2 = .ok (.bipush 8, 2) := by decide +kernel
theorem dX4_grant_4 : decode cX4_grant 4 = .ok (.invokevirtual 80, 3) := by decide +kernel
theorem dX4_grant_7 : decode cX4_grant 7 = .ok (.ireturn, 1) := by decide +kernel
theorem dX4_overload_0 : decode cX4_overload 0 = .ok (.aload_n 0, 1) := by decide +kernel
theorem dX4_overload_1 : decode cX4_overload 1 = .ok (.iload_n 1, 1) := by decide +kernel
theorem dX4_overload_2 : decode cX4_overload 2 = .ok (.bipush 9, 2) := by decide +kernel
theorem dX4_overload_4 : decode cX4_overload 4 = .ok (.invokevirtual 80, 3) := by decide +kernel
theorem dX4_overload_7 : decode cX4_overload 7 = .ok (.ireturn, 1) := by decide +kernel
theorem dX4_cooldown_0 : decode cX4_cooldown 0 = .ok (.aload_n 0, 1) := by decide +kernel
theorem dX4_cooldown_1 : decode cX4_cooldown 1 = .ok (.iload_n 1, 1) := by decide +kernel
theorem dX4_cooldown_2 : decode cX4_cooldown 2 = .ok (.bipush 10, 2) := by decide +kernel
theorem dX4_cooldown_4 : decode cX4_cooldown 4 = .ok (.invokevirtual 80, 3) := by decide +kernel
theorem dX4_cooldown_7 : decode cX4_cooldown 7 = .ok (.ireturn, 1) := by decide +kernel
theorem dX4_addEvent_0 : decode cX4_addEvent 0 = .ok (.aload_n 0, 1) := by decide +kernel
theorem dX4_addEvent_1 : decode cX4_addEvent 1 = .ok (.dup, 1) := by decide +kernel
theorem dX4_addEvent_2 : decode cX4_addEvent 2 = .ok (.getfield 83, 3) := by decide +kernel
theorem dX4_addEvent_5 : decode cX4_addEvent 5 = .ok (.iconst 1, 1) := by decide +kernel
theorem dX4_addEvent_6 : decode cX4_addEvent 6 = .ok (.iadd, 1) := by decide +kernel
theorem dX4_addEvent_7 : decode cX4_addEvent 7 = .ok (.putfield 83, 3) := by decide +kernel
theorem dX4_addEvent_10 : decode cX4_addEvent 10 = .ok (.aload_n 0, 1) := by decide +kernel
theorem dX4_addEvent_11 : decode cX4_addEvent 11 = .ok (.getfield 7, 3) := by decide +kernel
theorem dX4_addEvent_14 : decode cX4_addEvent 14 = .ok (.bipush 12, 2) := by decide +kernel
theorem dX4_addEvent_16 : decode cX4_addEvent 16 = .ok (.iaload, 1) := by decide +kernel
theorem dX4_addEvent_17 : decode cX4_addEvent 17 = .ok (.bipush 16, 2) := by decide +kernel
theorem dX4_addEvent_19 : decode cX4_addEvent 19 = .ok (.if_icmp .ne 48, 3) := by decide +kernel
theorem dX4_addEvent_22 : decode cX4_addEvent 22 = .ok (.iconst 0, 1) := by decide +kernel
theorem dX4_addEvent_23 : decode cX4_addEvent 23 = .ok (.istore_n 3, 1) := by decide +kernel
theorem dX4_addEvent_24 : decode cX4_addEvent 24 = .ok (.iload_n 3, 1) := by decide +kernel
theorem dX4_addEvent_25 : decode cX4_addEvent 25 = .ok (.bipush 45, 2) := by decide +kernel
theorem dX4_addEvent_27 : decode cX4_addEvent 27 = .ok (.if_icmp .ge 29, 3) := by decide +kernel
theorem dX4_addEvent_30 : decode cX4_addEvent 30 = .ok (.aload_n 0, 1) := by decide +kernel
theorem dX4_addEvent_31 : decode cX4_addEvent 31 = .ok (.getfield 7, 3) := by decide +kernel
theorem dX4_addEvent_34 : decode cX4_addEvent 34 = .ok (.bipush 13, 2) := by decide +kernel
theorem dX4_addEvent_36 : decode cX4_addEvent 36 = .ok (.iload_n 3, 1) := by decide +kernel
theorem dX4_addEvent_37 : decode cX4_addEvent 37 = .ok (.iadd, 1) := by decide +kernel
theorem dX4_addEvent_38 : decode cX4_addEvent 38 = .ok (.aload_n 0, 1) := by decide +kernel
theorem dX4_addEvent_39 : decode cX4_addEvent 39 = .ok (.getfield 7, 3) := by decide +kernel
theorem dX4_addEvent_42 : decode cX4_addEvent 42 = .ok (.bipush 13, 2) := by decide +kernel
theorem dX4_addEvent_44 : decode cX4_addEvent 44 = .ok (.iload_n 3, 1) := by decide +kernel
theorem dX4_addEvent_45 : decode cX4_addEvent 45 = .ok (.iadd, 1) := by decide +kernel
theorem dX4_addEvent_46 : decode cX4_addEvent 46 = .ok (.iconst 3, 1) := by decide +kernel
theorem dX4_addEvent_47 : decode cX4_addEvent 47 = .ok (.iadd, 1) := by decide +kernel
theorem dX4_addEvent_48 : decode cX4_addEvent 48 = .ok (.iaload, 1) := by decide +kernel
theorem dX4_addEvent_49 : decode cX4_addEvent 49 = .ok (.iastore, 1) := by decide +kernel
theorem dX4_addEvent_50 : decode cX4_addEvent 50 = .ok (.iinc 3 1, 3) := by decide +kernel
theorem dX4_addEvent_53 : decode cX4_addEvent 53 = .ok (.goto (-29), 3) := by decide +kernel
theorem dX4_addEvent_56 : decode cX4_addEvent 56 = .ok (.aload_n 0, 1) := by decide +kernel
theorem dX4_addEvent_57 : decode cX4_addEvent 57 = .ok (.getfield 7, 3) := by decide +kernel
theorem dX4_addEvent_60 : decode cX4_addEvent 60 = .ok (.bipush 12, 2) := by decide +kernel
theorem dX4_addEvent_62 : decode cX4_addEvent 62 = .ok (.dup2, 1) := by decide +kernel
theorem dX4_addEvent_63 : decode cX4_addEvent 63 = .ok (.iaload, 1) := by decide +kernel
theorem dX4_addEvent_64 : decode cX4_addEvent 64 = .ok (.iconst 1, 1) := by decide +kernel
theorem dX4_addEvent_65 : decode cX4_addEvent 65 = .ok (.isub, 1) := by decide +kernel
theorem dX4_addEvent_66 : decode cX4_addEvent 66 = .ok (.iastore, 1) := by decide +kernel
theorem dX4_addEvent_67 : decode cX4_addEvent 67 = .ok (.bipush 13, 2) := by decide +kernel
theorem dX4_addEvent_69 : decode cX4_addEvent 69 = .ok (.iconst 3, 1) := by decide +kernel
theorem dX4_addEvent_70 : decode cX4_addEvent 70 = .ok (.aload_n 0, 1) := by decide +kernel
theorem dX4_addEvent_71 : decode cX4_addEvent 71 = .ok (.getfield 7, 3) := by decide +kernel
theorem dX4_addEvent_74 : decode cX4_addEvent 74 = .ok (.bipush 12, 2) := by decide +kernel
theorem dX4_addEvent_76 : decode cX4_addEvent 76 = .ok (.iaload, 1) := by decide +kernel
theorem dX4_addEvent_77 : decode cX4_addEvent 77 = .ok (.imul, 1) := by decide +kernel
theorem dX4_addEvent_78 : decode cX4_addEvent 78 = .ok (.iadd, 1) := by decide +kernel
theorem dX4_addEvent_79 : decode cX4_addEvent 79 = .ok (.istore_n 3, 1) := by decide +kernel
theorem dX4_addEvent_80 : decode cX4_addEvent 80 = .ok (.aload_n 0, 1) := by decide +kernel
theorem dX4_addEvent_81 : decode cX4_addEvent 81 = .ok (.getfield 7, 3) := by decide +kernel
theorem dX4_addEvent_84 : decode cX4_addEvent 84 = .ok (.iload_n 3, 1) := by decide +kernel
theorem dX4_addEvent_85 : decode cX4_addEvent 85 = .ok (.aload_n 0, 1) := by decide +kernel
theorem dX4_addEvent_86 : decode cX4_addEvent 86 = .ok (.getfield 7, 3) := by decide +kernel
theorem dX4_addEvent_89 : decode cX4_addEvent 89 = .ok (.bipush 11, 2) := by decide +kernel
theorem dX4_addEvent_91 : decode cX4_addEvent 91 = .ok (.iaload, 1) := by decide +kernel
theorem dX4_addEvent_92 : decode cX4_addEvent 92 = .ok (.iastore, 1) := by decide +kernel
theorem dX4_addEvent_93 : decode cX4_addEvent 93 = .ok (.aload_n 0, 1) := by decide +kernel
theorem dX4_addEvent_94 : decode cX4_addEvent 94 = .ok (.getfield 7, 3) := by decide +kernel
theorem dX4_addEvent_97 : decode cX4_addEvent 97 = .ok (.iload_n 3, 1) := by decide +kernel
theorem dX4_addEvent_98 : decode cX4_addEvent 98 = .ok (.iconst 1, 1) := by decide +kernel
theorem dX4_addEvent_99 : decode cX4_addEvent 99 = .ok (.iadd, 1) := by decide +kernel
theorem dX4_addEvent_100 : decode cX4_addEvent 100 = .ok (.iload_n 1, 1) := by decide +kernel
theorem dX4_addEvent_101 : decode cX4_addEvent 101 = .ok (.iastore, 1) := by decide +kernel
theorem dX4_addEvent_102 : decode cX4_addEvent 102 = .ok (.aload_n 0, 1) := by decide +kernel
theorem dX4_addEvent_103 : decode cX4_addEvent 103 = .ok (.getfield 7, 3) := by decide +kernel
theorem dX4_addEvent_106 : decode cX4_addEvent 106 = .ok (.iload_n 3, 1) := by decide +kernel
theorem dX4_addEvent_107 : decode cX4_addEvent 107 = .ok (.iconst 2, 1) := by decide +kernel
theorem dX4_addEvent_108 : decode cX4_addEvent 108 = .ok (.iadd, 1) := by decide +kernel
theorem dX4_addEvent_109 : decode cX4_addEvent 109 = .ok (.iload_n 2, 1) := by decide +kernel
theorem dX4_addEvent_110 : decode cX4_addEvent 110 = .ok (.iastore, 1) := by decide +kernel
theorem dX4_addEvent_111 : decode cX4_addEvent 111 = .ok (.aload_n 0, 1) := by decide +kernel
theorem dX4_addEvent_112 : decode cX4_addEvent 112 = .ok (.getfield 7, 3) := by decide +kernel
theorem dX4_addEvent_115 : decode cX4_addEvent 115 = .ok (.bipush 12, 2) := by decide +kernel
theorem dX4_addEvent_117 : decode cX4_addEvent 117 = .ok (.dup2, 1) := by decide +kernel
theorem dX4_addEvent_118 : decode cX4_addEvent 118 = .ok (.iaload, 1) := by decide +kernel
theorem dX4_addEvent_119 : decode cX4_addEvent 119 = .ok (.iconst 1, 1) := by decide +kernel
theorem dX4_addEvent_120 : decode cX4_addEvent 120 = .ok (.iadd, 1) := by decide +kernel
theorem dX4_addEvent_121 : decode cX4_addEvent 121 = .ok (.iastore, 1) := by decide +kernel
theorem dX4_addEvent_122 : decode cX4_addEvent 122 = .ok (.return_, 1) := by decide +kernel
theorem dX4_inOrder_0 : decode cX4_inOrder 0 = .ok (.iconst 0, 1) := by decide +kernel
theorem dX4_inOrder_1 : decode cX4_inOrder 1 = .ok (.istore_n 2, 1) := by decide +kernel
theorem dX4_inOrder_2 : decode cX4_inOrder 2 = .ok (.iconst 0, 1) := by decide +kernel
theorem dX4_inOrder_3 : decode cX4_inOrder 3 = .ok (.istore_n 3, 1) := by decide +kernel
theorem dX4_inOrder_4 : decode cX4_inOrder 4 = .ok (.iload_n 3, 1) := by decide +kernel
theorem dX4_inOrder_5 : decode cX4_inOrder 5 = .ok (.iconst 3, 1) := by decide +kernel
theorem dX4_inOrder_6 : decode cX4_inOrder 6 = .ok (.if_icmp .ge 47, 3) := by decide +kernel
theorem dX4_inOrder_9 : decode cX4_inOrder 9 = .ok (.iconst 0, 1) := by decide +kernel
theorem dX4_inOrder_10 : decode cX4_inOrder 10 = .ok (.istore 4, 2) := by decide +kernel
theorem dX4_inOrder_12 : decode cX4_inOrder 12 = .ok (.iload 4, 2) := by decide +kernel
theorem dX4_inOrder_14 : decode cX4_inOrder 14 = .ok (.bipush 8, 2) := by decide +kernel
theorem dX4_inOrder_16 : decode cX4_inOrder 16 = .ok (.if_icmp .ge 31, 3) := by decide +kernel
theorem dX4_inOrder_19 : decode cX4_inOrder 19 = .ok (.aload_n 0, 1) := by decide +kernel
theorem dX4_inOrder_20 : decode cX4_inOrder 20 = .ok (.iload 4, 2) := by decide +kernel
theorem dX4_inOrder_22 : decode cX4_inOrder 22 = .ok (.iconst 1, 1) := by decide +kernel
theorem dX4_inOrder_23 : decode cX4_inOrder 23 = .ok (.invokevirtual 45, 3) := by decide +kernel
theorem dX4_inOrder_26 : decode cX4_inOrder 26 = .ok (.iload_n 3, 1) := by decide +kernel
theorem dX4_inOrder_27 : decode cX4_inOrder 27 = .ok (.if_icmp .ne 14, 3) := by decide +kernel
theorem dX4_inOrder_30 : decode cX4_inOrder 30 = .ok (.iload_n 2, 1) := by decide +kernel
theorem dX4_inOrder_31 : decode cX4_inOrder 31 = .ok (.iload_n 1, 1) := by decide +kernel
theorem dX4_inOrder_32 : decode cX4_inOrder 32 = .ok (.if_icmp .ne 6, 3) := by decide +kernel
theorem dX4_inOrder_35 : decode cX4_inOrder 35 = .ok (.iload 4, 2) := by decide +kernel
theorem dX4_inOrder_37 : decode cX4_inOrder 37 = .ok (.ireturn, 1) := by decide +kernel
theorem dX4_inOrder_38 : decode cX4_inOrder 38 = .ok (.iinc 2 1, 3) := by decide +kernel
theorem dX4_inOrder_41 : decode cX4_inOrder 41 = .ok (.iinc 4 1, 3) := by decide +kernel
theorem dX4_inOrder_44 : decode cX4_inOrder 44 = .ok (.goto (-32), 3) := by decide +kernel
theorem dX4_inOrder_47 : decode cX4_inOrder 47 = .ok (.iinc 3 1, 3) := by decide +kernel
theorem dX4_inOrder_50 : decode cX4_inOrder 50 = .ok (.goto (-46), 3) := by decide +kernel
theorem dX4_inOrder_53 : decode cX4_inOrder 53 = .ok (.bipush (-6), 2) := by decide +kernel
theorem dX4_inOrder_55 : decode cX4_inOrder 55 = .ok (.ireturn, 1) := by decide +kernel
theorem dX4_shedAll_0 : decode cX4_shedAll 0 = .ok (.iconst 0, 1) := by decide +kernel
theorem dX4_shedAll_1 : decode cX4_shedAll 1 = .ok (.istore_n 1, 1) := by decide +kernel
theorem dX4_shedAll_2 : decode cX4_shedAll 2 = .ok (.bipush 7, 2) := by decide +kernel
theorem dX4_shedAll_4 : decode cX4_shedAll 4 = .ok (.istore_n 2, 1) := by decide +kernel
theorem dX4_shedAll_5 : decode cX4_shedAll 5 = .ok (.iload_n 2, 1) := by decide +kernel
theorem dX4_shedAll_6 : decode cX4_shedAll 6 = .ok (.ifCond .lt 47, 3) := by decide +kernel
theorem dX4_shedAll_9 : decode cX4_shedAll 9 = .ok (.aload_n 0, 1) := by decide +kernel
theorem dX4_shedAll_10 : decode cX4_shedAll 10 = .ok (.iload_n 2, 1) := by decide +kernel
theorem dX4_shedAll_11 : decode cX4_shedAll 11 = .ok (.invokevirtual 87, 3) := by decide +kernel
theorem dX4_shedAll_14 : decode cX4_shedAll 14 = .ok (.istore_n 3, 1) := by decide +kernel
theorem dX4_shedAll_15 : decode cX4_shedAll 15 = .ok (.aload_n 0, 1) := by decide +kernel
theorem dX4_shedAll_16 : decode cX4_shedAll 16 = .ok (.invokevirtual 71, 3) := by decide +kernel
theorem dX4_shedAll_19 : decode cX4_shedAll 19 = .ok (.ifCond .ge 28, 3) := by decide +kernel
theorem dX4_shedAll_22 : decode cX4_shedAll 22 = .ok (.aload_n 0, 1) := by decide +kernel
theorem dX4_shedAll_23 : decode cX4_shedAll 23 = .ok (.iload_n 3, 1) := by decide +kernel
theorem dX4_shedAll_24 : decode cX4_shedAll 24 = .ok (.invokevirtual 65, 3) := by decide +kernel
theorem dX4_shedAll_27 : decode cX4_shedAll 27 = .ok (.ifCond .eq 20, 3) := by decide +kernel
theorem dX4_shedAll_30 : decode cX4_shedAll 30 = .ok (.aload_n 0, 1) := by decide +kernel
theorem dX4_shedAll_31 : decode cX4_shedAll 31 = .ok (.iload_n 3, 1) := by decide +kernel
theorem dX4_shedAll_32 : decode cX4_shedAll 32 = .ok (.invokevirtual 51, 3) := by decide +kernel
theorem dX4_shedAll_35 : decode cX4_shedAll 35 = .ok (.aload_n 0, 1) := by decide +kernel
theorem dX4_shedAll_36 : decode cX4_shedAll 36 = .ok (.iload_n 3, 1) := by decide +kernel
theorem dX4_shedAll_37 : decode cX4_shedAll 37 = .ok (.iconst 1, 1) := by decide +kernel
theorem dX4_shedAll_38 : decode cX4_shedAll 38 = .ok (.invokevirtual 90, 3) := by decide +kernel
theorem dX4_shedAll_41 : decode cX4_shedAll 41 = .ok (.iload_n 1, 1) := by decide +kernel
theorem dX4_shedAll_42 : decode cX4_shedAll 42 = .ok (.iconst 1, 1) := by decide +kernel
theorem dX4_shedAll_43 : decode cX4_shedAll 43 = .ok (.iload_n 3, 1) := by decide +kernel
theorem dX4_shedAll_44 : decode cX4_shedAll 44 = .ok (.ishl, 1) := by decide +kernel
theorem dX4_shedAll_45 : decode cX4_shedAll 45 = .ok (.ior, 1) := by decide +kernel
theorem dX4_shedAll_46 : decode cX4_shedAll 46 = .ok (.istore_n 1, 1) := by decide +kernel
theorem dX4_shedAll_47 : decode cX4_shedAll 47 = .ok (.iinc 2 (-1), 3) := by decide +kernel
theorem dX4_shedAll_50 : decode cX4_shedAll 50 = .ok (.goto (-45), 3) := by decide +kernel
theorem dX4_shedAll_53 : decode cX4_shedAll 53 = .ok (.iload_n 1, 1) := by decide +kernel
theorem dX4_shedAll_54 : decode cX4_shedAll 54 = .ok (.ireturn, 1) := by decide +kernel
theorem dX4_checkOverload_0 : decode cX4_checkOverload 0 = .ok (.aload_n 0, 1) := by decide +kernel
theorem dX4_checkOverload_1 : decode cX4_checkOverload 1 = .ok (.iload_n 1, 1) := by decide +kernel
theorem dX4_checkOverload_2 : decode cX4_checkOverload 2 = .ok (.bipush 6, 2) := by decide +kernel
theorem dX4_checkOverload_4 : decode cX4_checkOverload 4 = .ok (.invokevirtual 45, 3) := by decide +kernel
theorem dX4_checkOverload_7 : decode cX4_checkOverload 7 = .ok (.aload_n 0, 1) := by decide +kernel
theorem dX4_checkOverload_8 : decode cX4_checkOverload 8 = .ok (.iload_n 1, 1) := by decide +kernel
theorem dX4_checkOverload_9 : decode cX4_checkOverload 9 = .ok (.bipush 8, 2) := by decide +kernel
theorem dX4_checkOverload_11 : decode cX4_checkOverload 11 = .ok (.invokevirtual 45, 3) := by decide +kernel
theorem dX4_checkOverload_14 : decode cX4_checkOverload 14 = .ok (.if_icmp .le 21, 3) := by decide +kernel
theorem dX4_checkOverload_17 : decode cX4_checkOverload 17 = .ok (.aload_n 0, 1) := by decide +kernel
theorem dX4_checkOverload_18 : decode cX4_checkOverload 18 = .ok (.getfield 7, 3) := by decide +kernel
theorem dX4_checkOverload_21 : decode cX4_checkOverload 21 = .ok (.iload_n 1, 1) := by decide +kernel
theorem dX4_checkOverload_22 : decode cX4_checkOverload 22 = .ok (.bipush 9, 2) := by decide +kernel
theorem dX4_checkOverload_24 : decode cX4_checkOverload 24 = .ok (.invokestatic 26, 3) := by decide +kernel
theorem dX4_checkOverload_27 : decode cX4_checkOverload 27 = .ok (.dup2, 1) := by decide +kernel
theorem dX4_checkOverload_28 : decode cX4_checkOverload 28 = .ok (.iaload, 1) := by decide +kernel
theorem dX4_checkOverload_29 : decode cX4_checkOverload 29 = .ok (.iconst 1, 1) := by decide +kernel
theorem dX4_checkOverload_30 : decode cX4_checkOverload 30 = .ok (.iadd, 1) := by decide +kernel
theorem dX4_checkOverload_31 : decode cX4_checkOverload 31 = .ok (.iastore, 1) := by decide +kernel
theorem dX4_checkOverload_32 : decode cX4_checkOverload 32 = .ok (.goto 15, 3) := by decide +kernel
theorem dX4_checkOverload_35 : decode cX4_checkOverload 35 = .ok (.aload_n 0, 1) := by decide +kernel
theorem dX4_checkOverload_36 : decode cX4_checkOverload 36 = .ok (.getfield 7, 3) := by decide +kernel
theorem dX4_checkOverload_39 : decode cX4_checkOverload 39 = .ok (.iload_n 1, 1) := by decide +kernel
theorem dX4_checkOverload_40 : decode cX4_checkOverload 40 = .ok (.bipush 9, 2) := by decide +kernel
theorem dX4_checkOverload_42 : decode cX4_checkOverload 42 = .ok (.invokestatic 26, 3) := by decide +kernel
theorem dX4_checkOverload_45 : decode cX4_checkOverload 45 = .ok (.iconst 0, 1) := by decide +kernel
theorem dX4_checkOverload_46 : decode cX4_checkOverload 46 = .ok (.iastore, 1) := by decide +kernel
theorem dX4_checkOverload_47 : decode cX4_checkOverload 47 = .ok (.return_, 1) := by decide +kernel
theorem dX4_isCut_0 : decode cX4_isCut 0 = .ok (.aload_n 0, 1) := by decide +kernel
theorem dX4_isCut_1 : decode cX4_isCut 1 = .ok (.iload_n 1, 1) := by decide +kernel
theorem dX4_isCut_2 : decode cX4_isCut 2 = .ok (.invokevirtual 65, 3) := by decide +kernel
theorem dX4_isCut_5 : decode cX4_isCut 5 = .ok (.ifCond .ne 5, 3) := by decide +kernel
theorem dX4_isCut_8 : decode cX4_isCut 8 = .ok (.iconst 0, 1) := by decide +kernel
theorem dX4_isCut_9 : decode cX4_isCut 9 = .ok (.ireturn, 1) := by decide +kernel
theorem dX4_isCut_10 : decode cX4_isCut 10 = .ok (.aload_n 0, 1) := by decide +kernel
theorem dX4_isCut_11 : decode cX4_isCut 11 = .ok (.iload_n 1, 1) := by decide +kernel
theorem dX4_isCut_12 : decode cX4_isCut 12 = .ok (.invokevirtual 94, 3) := by decide +kernel
theorem dX4_isCut_15 : decode cX4_isCut 15 = .ok (.aload_n 0, 1) := by decide +kernel
theorem dX4_isCut_16 : decode cX4_isCut 16 = .ok (.iload_n 1, 1) := by decide +kernel
theorem dX4_isCut_17 : decode cX4_isCut 17 = .ok (.bipush 9, 2) := by decide +kernel
theorem dX4_isCut_19 : decode cX4_isCut 19 = .ok (.invokevirtual 45, 3) := by decide +kernel
theorem dX4_isCut_22 : decode cX4_isCut 22 = .ok (.aload_n 0, 1) := by decide +kernel
theorem dX4_isCut_23 : decode cX4_isCut 23 = .ok (.getfield 7, 3) := by decide +kernel
theorem dX4_isCut_26 : decode cX4_isCut 26 = .ok (.bipush 8, 2) := by decide +kernel
theorem dX4_isCut_28 : decode cX4_isCut 28 = .ok (.iaload, 1) := by decide +kernel
theorem dX4_isCut_29 : decode cX4_isCut 29 = .ok (.if_icmp .ge 5, 3) := by decide +kernel
theorem dX4_isCut_32 : decode cX4_isCut 32 = .ok (.iconst 0, 1) := by decide +kernel
theorem dX4_isCut_33 : decode cX4_isCut 33 = .ok (.ireturn, 1) := by decide +kernel
theorem dX4_isCut_34 : decode cX4_isCut 34 = .ok (.aload_n 0, 1) := by decide +kernel
theorem dX4_isCut_35 : decode cX4_isCut 35 = .ok (.iload_n 1, 1) := by decide +kernel
theorem dX4_isCut_36 : decode cX4_isCut 36 = .ok (.invokevirtual 51, 3) := by decide +kernel
theorem dX4_isCut_39 : decode cX4_isCut 39 = .ok (.aload_n 0, 1) := by decide +kernel
theorem dX4_isCut_40 : decode cX4_isCut 40 = .ok (.getfield 7, 3) := by decide +kernel
theorem dX4_isCut_43 : decode cX4_isCut 43 = .ok (.iload_n 1, 1) := by decide +kernel
theorem dX4_isCut_44 : decode cX4_isCut 44 = .ok (.bipush 10, 2) := by decide +kernel
theorem dX4_isCut_46 : decode cX4_isCut 46 = .ok (.invokestatic 26, 3) := by decide +kernel
theorem dX4_isCut_49 : decode cX4_isCut 49 = .ok (.aload_n 0, 1) := by decide +kernel
theorem dX4_isCut_50 : decode cX4_isCut 50 = .ok (.getfield 7, 3) := by decide +kernel
theorem dX4_isCut_53 : decode cX4_isCut 53 = .ok (.bipush 9, 2) := by decide +kernel
theorem dX4_isCut_55 : decode cX4_isCut 55 = .ok (.iaload, 1) := by decide +kernel
theorem dX4_isCut_56 : decode cX4_isCut 56 = .ok (.iastore, 1) := by decide +kernel
theorem dX4_isCut_57 : decode cX4_isCut 57 = .ok (.aload_n 0, 1) := by decide +kernel
theorem dX4_isCut_58 : decode cX4_isCut 58 = .ok (.iload_n 1, 1) := by decide +kernel
theorem dX4_isCut_59 : decode cX4_isCut 59 = .ok (.iconst 2, 1) := by decide +kernel
theorem dX4_isCut_60 : decode cX4_isCut 60 = .ok (.invokevirtual 90, 3) := by decide +kernel
theorem dX4_isCut_63 : decode cX4_isCut 63 = .ok (.iconst 1, 1) := by decide +kernel
theorem dX4_isCut_64 : decode cX4_isCut 64 = .ok (.ireturn, 1) := by decide +kernel
theorem dX4_powerUp_0 : decode cX4_powerUp 0 = .ok (.aload_n 0, 1) := by decide +kernel
theorem dX4_powerUp_1 : decode cX4_powerUp 1 = .ok (.getfield 7, 3) := by decide +kernel
theorem dX4_powerUp_4 : decode cX4_powerUp 4 = .ok (.bipush 10, 2) := by decide +kernel
theorem dX4_powerUp_6 : decode cX4_powerUp 6 = .ok (.dup2, 1) := by decide +kernel
theorem dX4_powerUp_7 : decode cX4_powerUp 7 = .ok (.iaload, 1) := by decide +kernel
theorem dX4_powerUp_8 : decode cX4_powerUp 8 = .ok (.aload_n 0, 1) := by decide +kernel
theorem dX4_powerUp_9 : decode cX4_powerUp 9 = .ok (.getfield 7, 3) := by decide +kernel
theorem dX4_powerUp_12 : decode cX4_powerUp 12 = .ok (.bipush 10, 2) := by decide +kernel
theorem dX4_powerUp_14 : decode cX4_powerUp 14 = .ok (.iaload, 1) := by decide +kernel
theorem dX4_powerUp_15 : decode cX4_powerUp 15 = .ok (.ifCond .le 7, 3) := by decide +kernel
theorem dX4_powerUp_18 : decode cX4_powerUp 18 = .ok (.iconst 1, 1) := by decide +kernel
theorem dX4_powerUp_19 : decode cX4_powerUp 19 = .ok (.goto 4, 3) := by decide +kernel
theorem dX4_powerUp_22 : decode cX4_powerUp 22 = .ok (.iconst 0, 1) := by decide +kernel
theorem dX4_powerUp_23 : decode cX4_powerUp 23 = .ok (.isub, 1) := by decide +kernel
theorem dX4_powerUp_24 : decode cX4_powerUp 24 = .ok (.iastore, 1) := by decide +kernel
theorem dX4_powerUp_25 : decode cX4_powerUp 25 = .ok (.aload_n 0, 1) := by decide +kernel
theorem dX4_powerUp_26 : decode cX4_powerUp 26 = .ok (.getfield 7, 3) := by decide +kernel
theorem dX4_powerUp_29 : decode cX4_powerUp 29 = .ok (.bipush 10, 2) := by decide +kernel
theorem dX4_powerUp_31 : decode cX4_powerUp 31 = .ok (.iaload, 1) := by decide +kernel
theorem dX4_powerUp_32 : decode cX4_powerUp 32 = .ok (.ifCond .le 4, 3) := by decide +kernel
theorem dX4_powerUp_35 : decode cX4_powerUp 35 = .ok (.return_, 1) := by decide +kernel
theorem dX4_powerUp_36 : decode cX4_powerUp 36 = .ok (.iconst 0, 1) := by decide +kernel
theorem dX4_powerUp_37 : decode cX4_powerUp 37 = .ok (.istore_n 1, 1) := by decide +kernel
theorem dX4_powerUp_38 : decode cX4_powerUp 38 = .ok (.iload_n 1, 1) := by decide +kernel
theorem dX4_powerUp_39 : decode cX4_powerUp 39 = .ok (.bipush 8, 2) := by decide +kernel
theorem dX4_powerUp_41 : decode cX4_powerUp 41 = .ok (.if_icmp .ge 94, 3) := by decide +kernel
theorem dX4_powerUp_44 : decode cX4_powerUp 44 = .ok (.aload_n 0, 1) := by decide +kernel
theorem dX4_powerUp_45 : decode cX4_powerUp 45 = .ok (.iload_n 1, 1) := by decide +kernel
theorem dX4_powerUp_46 : decode cX4_powerUp 46 = .ok (.invokevirtual 87, 3) := by decide +kernel
theorem dX4_powerUp_49 : decode cX4_powerUp 49 = .ok (.istore_n 2, 1) := by decide +kernel
theorem dX4_powerUp_50 : decode cX4_powerUp 50 = .ok (.aload_n 0, 1) := by decide +kernel
theorem dX4_powerUp_51 : decode cX4_powerUp 51 = .ok (.iload_n 2, 1) := by decide +kernel
theorem dX4_powerUp_52 : decode cX4_powerUp 52 = .ok (.invokevirtual 77, 3) := by decide +kernel
theorem dX4_powerUp_55 : decode cX4_powerUp 55 = .ok (.ifCond .eq 74, 3) := by decide +kernel
theorem dX4_powerUp_58 : decode cX4_powerUp 58 = .ok (.aload_n 0, 1) := by decide +kernel
theorem dX4_powerUp_59 : decode cX4_powerUp 59 = .ok (.iload_n 2, 1) := by decide +kernel
theorem dX4_powerUp_60 : decode cX4_powerUp 60 = .ok (.invokevirtual 65, 3) := by decide +kernel
theorem dX4_powerUp_63 : decode cX4_powerUp 63 = .ok (.ifCond .ne 66, 3) := by decide +kernel
theorem dX4_powerUp_66 : decode cX4_powerUp 66 = .ok (.aload_n 0, 1) := by decide +kernel
theorem dX4_powerUp_67 : decode cX4_powerUp 67 = .ok (.iload_n 2, 1) := by decide +kernel
theorem dX4_powerUp_68 : decode cX4_powerUp 68 = .ok (.bipush 10, 2) := by decide +kernel
theorem dX4_powerUp_70 : decode cX4_powerUp 70 = .ok (.invokevirtual 45, 3) := by decide +kernel
theorem dX4_powerUp_73 : decode cX4_powerUp 73 = .ok (.ifCond .ne 56, 3) := by decide +kernel
theorem dX4_powerUp_76 : decode cX4_powerUp 76 = .ok (.aload_n 0, 1) := by decide +kernel
theorem dX4_powerUp_77 : decode cX4_powerUp 77 = .ok (.iload_n 2, 1) := by decide +kernel
theorem dX4_powerUp_78 : decode cX4_powerUp 78 = .ok (.bipush 7, 2) := by decide +kernel
theorem dX4_powerUp_80 : decode cX4_powerUp 80 = .ok (.invokevirtual 45, 3) := by decide +kernel
theorem dX4_powerUp_83 : decode cX4_powerUp 83 = .ok (.aload_n 0, 1) := by decide +kernel
theorem dX4_powerUp_84 : decode cX4_powerUp 84 = .ok (.invokevirtual 71, 3) := by decide +kernel
theorem dX4_powerUp_87 : decode cX4_powerUp 87 = .ok (.if_icmp .gt 42, 3) := by decide +kernel
theorem dX4_powerUp_90 : decode cX4_powerUp 90 = .ok (.aload_n 0, 1) := by decide +kernel
theorem dX4_powerUp_91 : decode cX4_powerUp 91 = .ok (.getfield 7, 3) := by decide +kernel
theorem dX4_powerUp_94 : decode cX4_powerUp 94 = .ok (.iload_n 2, 1) := by decide +kernel
theorem dX4_powerUp_95 : decode cX4_powerUp 95 = .ok (.bipush 8, 2) := by decide +kernel
theorem dX4_powerUp_97 : decode cX4_powerUp 97 = .ok (.invokestatic 26, 3) := by decide +kernel
theorem dX4_powerUp_100 : decode cX4_powerUp 100 = .ok (.aload_n 0, 1) := by decide +kernel
theorem dX4_powerUp_101 : decode cX4_powerUp 101 = .ok (.iload_n 2, 1) := by decide +kernel
theorem dX4_powerUp_102 : decode cX4_powerUp 102 = .ok (.bipush 7, 2) := by decide +kernel
theorem dX4_powerUp_104 : decode cX4_powerUp 104 = .ok (.invokevirtual 45, 3) := by decide +kernel
theorem dX4_powerUp_107 : decode cX4_powerUp 107 = .ok (.iastore, 1) := by decide +kernel
theorem dX4_powerUp_108 : decode cX4_powerUp 108 = .ok (.aload_n 0, 1) := by decide +kernel
theorem dX4_powerUp_109 : decode cX4_powerUp 109 = .ok (.getfield 7, 3) := by decide +kernel
theorem dX4_powerUp_112 : decode cX4_powerUp 112 = .ok (.bipush 10, 2) := by decide +kernel
theorem dX4_powerUp_114 : decode cX4_powerUp 114 = .ok (.aload_n 0, 1) := by decide +kernel
theorem dX4_powerUp_115 : decode cX4_powerUp 115 = .ok (.getfield 7, 3) := by decide +kernel
theorem dX4_powerUp_118 : decode cX4_powerUp 118 = .ok (.bipush 7, 2) := by decide +kernel
theorem dX4_powerUp_120 : decode cX4_powerUp 120 = .ok (.iaload, 1) := by decide +kernel
theorem dX4_powerUp_121 : decode cX4_powerUp 121 = .ok (.iastore, 1) := by decide +kernel
theorem dX4_powerUp_122 : decode cX4_powerUp 122 = .ok (.aload_n 0, 1) := by decide +kernel
theorem dX4_powerUp_123 : decode cX4_powerUp 123 = .ok (.iload_n 2, 1) := by decide +kernel
theorem dX4_powerUp_124 : decode cX4_powerUp 124 = .ok (.iconst 0, 1) := by decide +kernel
theorem dX4_powerUp_125 : decode cX4_powerUp 125 = .ok (.invokevirtual 90, 3) := by decide +kernel
theorem dX4_powerUp_128 : decode cX4_powerUp 128 = .ok (.return_, 1) := by decide +kernel
theorem dX4_powerUp_129 : decode cX4_powerUp 129 = .ok (.iinc 1 1, 3) := by decide +kernel
theorem dX4_powerUp_132 : decode cX4_powerUp 132 = .ok (.goto (-94), 3) := by decide +kernel
theorem dX4_powerUp_135 : decode cX4_powerUp 135 = .ok (.return_, 1) := by decide +kernel
theorem dX4_second_0 : decode cX4_second 0 = .ok (.aload_n 0, 1) := by decide +kernel
theorem dX4_second_1 : decode cX4_second 1 = .ok (.invokevirtual 97, 3) := by decide +kernel
theorem dX4_second_4 : decode cX4_second 4 = .ok (.pop, 1) := by decide +kernel
theorem dX4_second_5 : decode cX4_second 5 = .ok (.iconst 0, 1) := by decide +kernel
theorem dX4_second_6 : decode cX4_second 6 = .ok (.istore_n 1, 1) := by decide +kernel
theorem dX4_second_7 : decode cX4_second 7 = .ok (.iconst 0, 1) := by decide +kernel
theorem dX4_second_8 : decode cX4_second 8 = .ok (.istore_n 2, 1) := by decide +kernel
theorem dX4_second_9 : decode cX4_second 9 = .ok (.iload_n 2, 1) := by decide +kernel
theorem dX4_second_10 : decode cX4_second 10 = .ok (.bipush 8, 2) := by decide +kernel
theorem dX4_second_12 : decode cX4_second 12 = .ok (.if_icmp .ge 27, 3) := by decide +kernel
theorem dX4_second_15 : decode cX4_second 15 = .ok (.iload_n 1, 1) := by decide +kernel
theorem dX4_second_16 : decode cX4_second 16 = .ok (.aload_n 0, 1) := by decide +kernel
theorem dX4_second_17 : decode cX4_second 17 = .ok (.iload_n 2, 1) := by decide +kernel
theorem dX4_second_18 : decode cX4_second 18 = .ok (.invokevirtual 100, 3) := by decide +kernel
theorem dX4_second_21 : decode cX4_second 21 = .ok (.ifCond .eq 9, 3) := by decide +kernel
theorem dX4_second_24 : decode cX4_second 24 = .ok (.iconst 1, 1) := by decide +kernel
theorem dX4_second_25 : decode cX4_second 25 = .ok (.iload_n 2, 1) := by decide +kernel
theorem dX4_second_26 : decode cX4_second 26 = .ok (.ishl, 1) := by decide +kernel
theorem dX4_second_27 : decode cX4_second 27 = .ok (.goto 4, 3) := by decide +kernel
theorem dX4_second_30 : decode cX4_second 30 = .ok (.iconst 0, 1) := by decide +kernel
theorem dX4_second_31 : decode cX4_second 31 = .ok (.ior, 1) := by decide +kernel
theorem dX4_second_32 : decode cX4_second 32 = .ok (.istore_n 1, 1) := by decide +kernel
theorem dX4_second_33 : decode cX4_second 33 = .ok (.iinc 2 1, 3) := by decide +kernel
theorem dX4_second_36 : decode cX4_second 36 = .ok (.goto (-27), 3) := by decide +kernel
theorem dX4_second_39 : decode cX4_second 39 = .ok (.iconst 0, 1) := by decide +kernel
theorem dX4_second_40 : decode cX4_second 40 = .ok (.istore_n 2, 1) := by decide +kernel
theorem dX4_second_41 : decode cX4_second 41 = .ok (.iload_n 2, 1) := by decide +kernel
theorem dX4_second_42 : decode cX4_second 42 = .ok (.bipush 8, 2) := by decide +kernel
theorem dX4_second_44 : decode cX4_second 44 = .ok (.if_icmp .ge 56, 3) := by decide +kernel
theorem dX4_second_47 : decode cX4_second 47 = .ok (.iload_n 1, 1) := by decide +kernel
theorem dX4_second_48 : decode cX4_second 48 = .ok (.iload_n 2, 1) := by decide +kernel
theorem dX4_second_49 : decode cX4_second 49 = .ok (.ishr, 1) := by decide +kernel
theorem dX4_second_50 : decode cX4_second 50 = .ok (.iconst 1, 1) := by decide +kernel
theorem dX4_second_51 : decode cX4_second 51 = .ok (.iand, 1) := by decide +kernel
theorem dX4_second_52 : decode cX4_second 52 = .ok (.ifCond .ne 17, 3) := by decide +kernel
theorem dX4_second_55 : decode cX4_second 55 = .ok (.aload_n 0, 1) := by decide +kernel
theorem dX4_second_56 : decode cX4_second 56 = .ok (.iload_n 2, 1) := by decide +kernel
theorem dX4_second_57 : decode cX4_second 57 = .ok (.bipush 10, 2) := by decide +kernel
theorem dX4_second_59 : decode cX4_second 59 = .ok (.invokevirtual 45, 3) := by decide +kernel
theorem dX4_second_62 : decode cX4_second 62 = .ok (.ifCond .le 7, 3) := by decide +kernel
theorem dX4_second_65 : decode cX4_second 65 = .ok (.iconst 1, 1) := by decide +kernel
theorem dX4_second_66 : decode cX4_second 66 = .ok (.goto 4, 3) := by decide +kernel
theorem dX4_second_69 : decode cX4_second 69 = .ok (.iconst 0, 1) := by decide +kernel
theorem dX4_second_70 : decode cX4_second 70 = .ok (.istore_n 3, 1) := by decide +kernel
theorem dX4_second_71 : decode cX4_second 71 = .ok (.aload_n 0, 1) := by decide +kernel
theorem dX4_second_72 : decode cX4_second 72 = .ok (.getfield 7, 3) := by decide +kernel
theorem dX4_second_75 : decode cX4_second 75 = .ok (.iload_n 2, 1) := by decide +kernel
theorem dX4_second_76 : decode cX4_second 76 = .ok (.bipush 10, 2) := by decide +kernel
theorem dX4_second_78 : decode cX4_second 78 = .ok (.invokestatic 26, 3) := by decide +kernel
theorem dX4_second_81 : decode cX4_second 81 = .ok (.dup2, 1) := by decide +kernel
theorem dX4_second_82 : decode cX4_second 82 = .ok (.iaload, 1) := by decide +kernel
theorem dX4_second_83 : decode cX4_second 83 = .ok (.iload_n 3, 1) := by decide +kernel
theorem dX4_second_84 : decode cX4_second 84 = .ok (.ifCond .eq 7, 3) := by decide +kernel
theorem dX4_second_87 : decode cX4_second 87 = .ok (.iconst 1, 1) := by decide +kernel
theorem dX4_second_88 : decode cX4_second 88 = .ok (.goto 4, 3) := by decide +kernel
theorem dX4_second_91 : decode cX4_second 91 = .ok (.iconst 0, 1) := by decide +kernel
theorem dX4_second_92 : decode cX4_second 92 = .ok (.isub, 1) := by decide +kernel
theorem dX4_second_93 : decode cX4_second 93 = .ok (.iastore, 1) := by decide +kernel
theorem dX4_second_94 : decode cX4_second 94 = .ok (.iinc 2 1, 3) := by decide +kernel
theorem dX4_second_97 : decode cX4_second 97 = .ok (.goto (-56), 3) := by decide +kernel
theorem dX4_second_100 : decode cX4_second 100 = .ok (.aload_n 0, 1) := by decide +kernel
theorem dX4_second_101 : decode cX4_second 101 = .ok (.invokevirtual 103, 3) := by decide +kernel
theorem dX4_second_104 : decode cX4_second 104 = .ok (.aload_n 0, 1) := by decide +kernel
theorem dX4_second_105 : decode cX4_second 105 = .ok (.getfield 7, 3) := by decide +kernel
theorem dX4_second_108 : decode cX4_second 108 = .ok (.bipush 11, 2) := by decide +kernel
theorem dX4_second_110 : decode cX4_second 110 = .ok (.dup2, 1) := by decide +kernel
theorem dX4_second_111 : decode cX4_second 111 = .ok (.iaload, 1) := by decide +kernel
theorem dX4_second_112 : decode cX4_second 112 = .ok (.iconst 1, 1) := by decide +kernel
theorem dX4_second_113 : decode cX4_second 113 = .ok (.iadd, 1) := by decide +kernel
theorem dX4_second_114 : decode cX4_second 114 = .ok (.iastore, 1) := by decide +kernel
theorem dX4_second_115 : decode cX4_second 115 = .ok (.return_, 1) := by decide +kernel
theorem dX4_advance_0 : decode cX4_advance 0 = .ok (.iload_n 1, 1) := by decide +kernel
theorem dX4_advance_1 : decode cX4_advance 1 = .ok (.iconst 1, 1) := by decide +kernel
theorem dX4_advance_2 : decode cX4_advance 2 = .ok (.bipush 60, 2) := by decide +kernel
theorem dX4_advance_4 : decode cX4_advance 4 = .ok (.invokestatic 30, 3) := by decide +kernel
theorem dX4_advance_7 : decode cX4_advance 7 = .ok (.ifCond .ne 6, 3) := by decide +kernel
theorem dX4_advance_10 : decode cX4_advance 10 = .ok (.bipush (-2), 2) := by decide +kernel
theorem dX4_advance_12 : decode cX4_advance 12 = .ok (.ireturn, 1) := by decide +kernel
theorem dX4_advance_13 : decode cX4_advance 13 = .ok (.aload_n 0, 1) := by decide +kernel
theorem dX4_advance_14 : decode cX4_advance 14 = .ok (.iconst 0, 1) := by decide +kernel
theorem dX4_advance_15 : decode cX4_advance 15 = .ok (.putfield 83, 3) := by decide +kernel
theorem dX4_advance_18 : decode cX4_advance 18 = .ok (.iconst 0, 1) := by decide +kernel
theorem dX4_advance_19 : decode cX4_advance 19 = .ok (.istore_n 2, 1) := by decide +kernel
theorem dX4_advance_20 : decode cX4_advance 20 = .ok (.iload_n 2, 1) := by decide +kernel
theorem dX4_advance_21 : decode cX4_advance 21 = .ok (.iload_n 1, 1) := by decide +kernel
theorem dX4_advance_22 : decode cX4_advance 22 = .ok (.if_icmp .ge 13, 3) := by decide +kernel
theorem dX4_advance_25 : decode cX4_advance 25 = .ok (.aload_n 0, 1) := by decide +kernel
theorem dX4_advance_26 : decode cX4_advance 26 = .ok (.invokevirtual 106, 3) := by decide +kernel
theorem dX4_advance_29 : decode cX4_advance 29 = .ok (.iinc 2 1, 3) := by decide +kernel
theorem dX4_advance_32 : decode cX4_advance 32 = .ok (.goto (-12), 3) := by decide +kernel
theorem dX4_advance_35 : decode cX4_advance 35 = .ok (.aload_n 0, 1) := by decide +kernel
theorem dX4_advance_36 : decode cX4_advance 36 = .ok (.getfield 83, 3) := by decide +kernel
theorem dX4_advance_39 : decode cX4_advance 39 = .ok (.ireturn, 1) := by decide +kernel
theorem dX4_clock_0 : decode cX4_clock 0 = .ok (.aload_n 0, 1) := by decide +kernel
theorem dX4_clock_1 : decode cX4_clock 1 = .ok (.getfield 7, 3) := by decide +kernel
theorem dX4_clock_4 : decode cX4_clock 4 = .ok (.bipush 11, 2) := by decide +kernel
theorem dX4_clock_6 : decode cX4_clock 6 = .ok (.iaload, 1) := by decide +kernel
theorem dX4_clock_7 : decode cX4_clock 7 = .ok (.ireturn, 1) := by decide +kernel
theorem dX4_eventCount_0 : decode cX4_eventCount 0 = .ok (.aload_n 0, 1) := by decide +kernel
theorem dX4_eventCount_1 : decode cX4_eventCount 1 = .ok (.getfield 7, 3) := by decide +kernel
theorem dX4_eventCount_4 : decode cX4_eventCount 4 = .ok (.bipush 12, 2) := by decide +kernel
theorem dX4_eventCount_6 : decode cX4_eventCount 6 = .ok (.iaload, 1) := by decide +kernel
theorem dX4_eventCount_7 : decode cX4_eventCount 7 = .ok (.ireturn, 1) := by decide +kernel
theorem dX4_ofEvent_0 : decode cX4_ofEvent 0 = .ok (.iload_n 1, 1) := by decide +kernel
theorem dX4_ofEvent_1 : decode cX4_ofEvent 1 = .ok (.iconst 0, 1) := by decide +kernel
theorem dX4_ofEvent_2 : decode cX4_ofEvent 2 = .ok (.aload_n 0, 1) := by decide +kernel
theorem dX4_ofEvent_3 : decode cX4_ofEvent 3 = .ok (.getfield 7, 3) := by decide +kernel
theorem dX4_ofEvent_6 : decode cX4_ofEvent 6 = .ok (.bipush 12, 2) := by decide +kernel
theorem dX4_ofEvent_8 : decode cX4_ofEvent 8 = .ok (.iaload, 1) := by decide +kernel
theorem dX4_ofEvent_9 : decode cX4_ofEvent 9 = .ok (.iconst 1, 1) := by decide +kernel
theorem dX4_ofEvent_10 : decode cX4_ofEvent 10 = .ok (.isub, 1) := by decide +kernel
theorem dX4_ofEvent_11 : decode cX4_ofEvent 11 = .ok (.invokestatic 30, 3) := by decide +kernel
theorem dX4_ofEvent_14 : decode cX4_ofEvent 14 = .ok (.ifCond .eq 19, 3) := by decide +kernel
theorem dX4_ofEvent_17 : decode cX4_ofEvent 17 = .ok (.aload_n 0, 1) := by decide +kernel
theorem dX4_ofEvent_18 : decode cX4_ofEvent 18 = .ok (.getfield 7, 3) := by decide +kernel
theorem dX4_ofEvent_21 : decode cX4_ofEvent 21 = .ok (.bipush 13, 2) := by decide +kernel
theorem dX4_ofEvent_23 : decode cX4_ofEvent 23 = .ok (.iconst 3, 1) := by decide +kernel
theorem dX4_ofEvent_24 : decode cX4_ofEvent 24 = .ok (.iload_n 1, 1) := by decide +kernel
theorem dX4_ofEvent_25 : decode cX4_ofEvent 25 = .ok (.imul, 1) := by decide +kernel
theorem dX4_ofEvent_26 : decode cX4_ofEvent 26 = .ok (.iadd, 1) := by decide +kernel
theorem dX4_ofEvent_27 : decode cX4_ofEvent 27 = .ok (.iload_n 2, 1) := by decide +kernel
theorem dX4_ofEvent_28 : decode cX4_ofEvent 28 = .ok (.iadd, 1) := by decide +kernel
theorem dX4_ofEvent_29 : decode cX4_ofEvent 29 = .ok (.iaload, 1) := by decide +kernel
theorem dX4_ofEvent_30 : decode cX4_ofEvent 30 = .ok (.goto 4, 3) := by decide +kernel
theorem dX4_ofEvent_33 : decode cX4_ofEvent 33 = .ok (.iconst (-1), 1) := by decide +kernel
theorem dX4_ofEvent_34 : decode cX4_ofEvent 34 = .ok (.ireturn, 1) := by decide +kernel
theorem dX4_eventTime_0 : decode cX4_eventTime 0 = .ok (.aload_n 0, 1) := by decide +kernel
theorem dX4_eventTime_1 : decode cX4_eventTime 1 = .ok (.iload_n 1, 1) := by decide +kernel
theorem dX4_eventTime_2 : decode cX4_eventTime 2 = .ok (.iconst 0, 1) := by decide +kernel
theorem dX4_eventTime_3 : decode cX4_eventTime 3 = .ok (.invokevirtual 109, 3) := by decide +kernel
theorem dX4_eventTime_6 : decode cX4_eventTime 6 = .ok (.ireturn, 1) := by decide +kernel
theorem dX4_eventPort_0 : decode cX4_eventPort 0 = .ok (.aload_n 0, 1) := by decide +kernel
theorem dX4_eventPort_1 : decode cX4_eventPort 1 = .ok (.iload_n 1, 1) := by decide +kernel
theorem dX4_eventPort_2 : decode cX4_eventPort 2 = .ok (.iconst 1, 1) := by decide +kernel
theorem dX4_eventPort_3 : decode cX4_eventPort 3 = .ok (.invokevirtual 109, 3) := by decide +kernel
theorem dX4_eventPort_6 : decode cX4_eventPort 6 = .ok (.ireturn, 1) := by decide +kernel
theorem dX4_eventKind_0 : decode cX4_eventKind 0 = .ok (.aload_n 0, 1) := by decide +kernel
theorem dX4_eventKind_1 : decode cX4_eventKind 1 = .ok (.iload_n 1, 1) := by decide +kernel
theorem dX4_eventKind_2 : decode cX4_eventKind 2 = .ok (.iconst 2, 1) := by decide +kernel
theorem dX4_eventKind_3 : decode cX4_eventKind 3 = .ok (.invokevirtual 109, 3) := by decide +kernel
theorem dX4_eventKind_6 : decode cX4_eventKind 6 = .ok (.ireturn, 1) := by decide +kernel
theorem dX4_keep_0 : decode cX4_keep 0 = .ok (.iconst 0, 1) := by decide +kernel
theorem dX4_keep_1 : decode cX4_keep 1 = .ok (.istore_n 1, 1) := by decide +kernel
theorem dX4_keep_2 : decode cX4_keep 2 = .ok (.iload_n 1, 1) := by decide +kernel
theorem dX4_keep_3 : decode cX4_keep 3 = .ok (.sipush 149, 3) := by decide +kernel
theorem dX4_keep_6 : decode cX4_keep 6 = .ok (.if_icmp .ge 21, 3) := by decide +kernel
theorem dX4_keep_9 : decode cX4_keep 9 = .ok (.aload_n 0, 1) := by decide +kernel
theorem dX4_keep_10 : decode cX4_keep 10 = .ok (.getfield 13, 3) := by decide +kernel
theorem dX4_keep_13 : decode cX4_keep 13 = .ok (.iload_n 1, 1) := by decide +kernel
theorem dX4_keep_14 : decode cX4_keep 14 = .ok (.aload_n 0, 1) := by decide +kernel
theorem dX4_keep_15 : decode cX4_keep 15 = .ok (.getfield 7, 3) := by decide +kernel
theorem dX4_keep_18 : decode cX4_keep 18 = .ok (.iload_n 1, 1) := by decide +kernel
theorem dX4_keep_19 : decode cX4_keep 19 = .ok (.iaload, 1) := by decide +kernel
theorem dX4_keep_20 : decode cX4_keep 20 = .ok (.iastore, 1) := by decide +kernel
theorem dX4_keep_21 : decode cX4_keep 21 = .ok (.iinc 1 1, 3) := by decide +kernel
theorem dX4_keep_24 : decode cX4_keep 24 = .ok (.goto (-22), 3) := by decide +kernel
theorem dX4_keep_27 : decode cX4_keep 27 = .ok (.return_, 1) := by decide +kernel
theorem dX4_putBack_0 : decode cX4_putBack 0 = .ok (.iconst 0, 1) := by decide +kernel
theorem dX4_putBack_1 : decode cX4_putBack 1 = .ok (.istore_n 1, 1) := by decide +kernel
theorem dX4_putBack_2 : decode cX4_putBack 2 = .ok (.iload_n 1, 1) := by decide +kernel
theorem dX4_putBack_3 : decode cX4_putBack 3 = .ok (.sipush 149, 3) := by decide +kernel
theorem dX4_putBack_6 : decode cX4_putBack 6 = .ok (.if_icmp .ge 21, 3) := by decide +kernel
theorem dX4_putBack_9 : decode cX4_putBack 9 = .ok (.aload_n 0, 1) := by decide +kernel
theorem dX4_putBack_10 : decode cX4_putBack 10 = .ok (.getfield 7, 3) := by decide +kernel
theorem dX4_putBack_13 : decode cX4_putBack 13 = .ok (.iload_n 1, 1) := by decide +kernel
theorem dX4_putBack_14 : decode cX4_putBack 14 = .ok (.aload_n 0, 1) := by decide +kernel
theorem dX4_putBack_15 : decode cX4_putBack 15 = .ok (.getfield 13, 3) := by decide +kernel
theorem dX4_putBack_18 : decode cX4_putBack 18 = .ok (.iload_n 1, 1) := by decide +kernel
theorem dX4_putBack_19 : decode cX4_putBack 19 = .ok (.iaload, 1) := by decide +kernel
theorem dX4_putBack_20 : decode cX4_putBack 20 = .ok (.iastore, 1) := by decide +kernel
theorem dX4_putBack_21 : decode cX4_putBack 21 = .ok (.iinc 1 1, 3) := by decide +kernel
theorem dX4_putBack_24 : decode cX4_putBack 24 = .ok (.goto (-22), 3) := by decide +kernel
theorem dX4_putBack_27 : decode cX4_putBack 27 = .ok (.return_, 1) := by decide +kernel
theorem dX4_shedIfFails_0 : decode cX4_shedIfFails 0 = .ok (.iload_n 1, 1) := by decide +kernel
theorem dX4_shedIfFails_1 : decode cX4_shedIfFails 1 = .ok (.invokestatic 34, 3) := by decide +kernel
theorem dX4_shedIfFails_4 : decode cX4_shedIfFails 4 = .ok (.ifCond .ne 5, 3) := by decide +kernel
theorem dX4_shedIfFails_7 : decode cX4_shedIfFails 7 = .ok (.iconst (-1), 1) := by decide +kernel
theorem dX4_shedIfFails_8 : decode cX4_shedIfFails 8 = .ok (.ireturn, 1) := by decide +kernel
theorem dX4_shedIfFails_9 : decode cX4_shedIfFails 9 = .ok (.aload_n 0, 1) := by decide +kernel
theorem dX4_shedIfFails_10 : decode cX4_shedIfFails 10 = .ok (.invokevirtual 112, 3) := by decide +kernel
theorem dX4_shedIfFails_13 : decode cX4_shedIfFails 13 = .ok (.aload_n 0, 1) := by decide +kernel
theorem dX4_shedIfFails_14 : decode cX4_shedIfFails 14 = .ok (.getfield 7, 3) := by decide +kernel
theorem dX4_shedIfFails_17 : decode cX4_shedIfFails 17 = .ok (.iconst 3, 1) := by decide +kernel
theorem dX4_shedIfFails_18 : decode cX4_shedIfFails 18 = .ok (.iload_n 1, 1) := by decide +kernel
theorem dX4_shedIfFails_19 : decode cX4_shedIfFails 19 = .ok (.iadd, 1) := by decide +kernel
theorem dX4_shedIfFails_20 : decode cX4_shedIfFails 20 = .ok (.iconst 0, 1) := by decide +kernel
theorem dX4_shedIfFails_21 : decode cX4_shedIfFails 21 = .ok (.iastore, 1) := by decide +kernel
theorem dX4_shedIfFails_22 : decode cX4_shedIfFails 22 = .ok (.aload_n 0, 1) := by decide +kernel
theorem dX4_shedIfFails_23 : decode cX4_shedIfFails 23 = .ok (.invokevirtual 97, 3) := by decide +kernel
theorem dX4_shedIfFails_26 : decode cX4_shedIfFails 26 = .ok (.istore_n 2, 1) := by decide +kernel
theorem dX4_shedIfFails_27 : decode cX4_shedIfFails 27 = .ok (.aload_n 0, 1) := by decide +kernel
theorem dX4_shedIfFails_28 : decode cX4_shedIfFails 28 = .ok (.invokevirtual 115, 3) := by decide +kernel
theorem dX4_shedIfFails_31 : decode cX4_shedIfFails 31 = .ok (.iload_n 2, 1) := by decide +kernel
theorem dX4_shedIfFails_32 : decode cX4_shedIfFails 32 = .ok (.ireturn, 1) := by decide +kernel
theorem dX4_fittingPorts_0 : decode cX4_fittingPorts 0 = .ok (.aload_n 0, 1) := by decide +kernel
theorem dX4_fittingPorts_1 : decode cX4_fittingPorts 1 = .ok (.invokevirtual 41, 3) := by decide +kernel
theorem dX4_fittingPorts_4 : decode cX4_fittingPorts 4 = .ok (.istore_n 1, 1) := by decide +kernel
theorem dX4_fittingPorts_5 : decode cX4_fittingPorts 5 = .ok (.iconst 0, 1) := by decide +kernel
theorem dX4_fittingPorts_6 : decode cX4_fittingPorts 6 = .ok (.istore_n 2, 1) := by decide +kernel
theorem dX4_fittingPorts_7 : decode cX4_fittingPorts 7 = .ok (.iconst 0, 1) := by decide +kernel
theorem dX4_fittingPorts_8 : decode cX4_fittingPorts 8 = .ok (.istore_n 3, 1) := by decide +kernel
theorem dX4_fittingPorts_9 : decode cX4_fittingPorts 9 = .ok (.iload_n 3, 1) := by decide +kernel
theorem dX4_fittingPorts_10 : decode cX4_fittingPorts 10 = .ok (.bipush 8, 2) := by decide +kernel
theorem dX4_fittingPorts_12 : decode cX4_fittingPorts 12 = .ok (.if_icmp .ge 55, 3) := by decide +kernel
theorem dX4_fittingPorts_15 : decode cX4_fittingPorts 15 = .ok (.aload_n 0, 1) := by decide +kernel
theorem dX4_fittingPorts_16 : decode cX4_fittingPorts 16 = .ok (.iload_n 3, 1) := by decide +kernel
theorem dX4_fittingPorts_17 : decode cX4_fittingPorts 17 = .ok (.invokevirtual 87, 3) := by decide +kernel
theorem dX4_fittingPorts_20 : decode cX4_fittingPorts 20 = .ok (.istore 4, 2) := by decide +kernel
theorem dX4_fittingPorts_22 : decode cX4_fittingPorts 22 = .ok (.aload_n 0, 1) := by decide +kernel
theorem dX4_fittingPorts_23 : decode cX4_fittingPorts 23 = .ok (.iload 4, 2) := by decide +kernel
theorem dX4_fittingPorts_25 : decode cX4_fittingPorts 25 = .ok (.invokevirtual 77, 3) := by decide +kernel
theorem dX4_fittingPorts_28 : decode cX4_fittingPorts 28 = .ok (.ifCond .eq 33, 3) := by decide +kernel
theorem dX4_fittingPorts_31 : decode cX4_fittingPorts 31 = .ok (.aload_n 0, 1) := by decide +kernel
theorem dX4_fittingPorts_32 : decode cX4_fittingPorts 32 = .ok (.iload 4, 2) := by decide +kernel
theorem dX4_fittingPorts_34 : decode cX4_fittingPorts 34 = .ok (.bipush 7, 2) := by decide +kernel
theorem dX4_fittingPorts_36 : decode cX4_fittingPorts 36 = .ok (.invokevirtual 45, 3) := by decide +kernel
theorem dX4_fittingPorts_39 : decode cX4_fittingPorts 39 = .ok (.iload_n 1, 1) := by decide +kernel
theorem dX4_fittingPorts_40 : decode cX4_fittingPorts 40 = .ok (.if_icmp .gt 21, 3) := by decide +kernel
theorem dX4_fittingPorts_43 : decode cX4_fittingPorts 43 = .ok (.iload_n 1, 1) := by decide +kernel
theorem dX4_fittingPorts_44 : decode cX4_fittingPorts 44 = .ok (.aload_n 0, 1) := by decide +kernel
theorem dX4_fittingPorts_45 : decode cX4_fittingPorts 45 = .ok (.iload 4, 2) := by decide +kernel
theorem dX4_fittingPorts_47 : decode cX4_fittingPorts 47 = .ok (.bipush 7, 2) := by decide +kernel
theorem dX4_fittingPorts_49 : decode cX4_fittingPorts 49 = .ok (.invokevirtual 45, 3) := by decide +kernel
theorem dX4_fittingPorts_52 : decode cX4_fittingPorts 52 = .ok (.isub, 1) := by decide +kernel
theorem dX4_fittingPorts_53 : decode cX4_fittingPorts 53 = .ok (.istore_n 1, 1) := by decide +kernel
theorem dX4_fittingPorts_54 : decode cX4_fittingPorts 54 = .ok (.iload_n 2, 1) := by decide +kernel
theorem dX4_fittingPorts_55 : decode cX4_fittingPorts 55 = .ok (.iconst 1, 1) := by decide +kernel
theorem dX4_fittingPorts_56 : decode cX4_fittingPorts 56 = .ok (.iload 4, 2) := by decide +kernel
theorem dX4_fittingPorts_58 : decode cX4_fittingPorts 58 = .ok (.ishl, 1) := by decide +kernel
theorem dX4_fittingPorts_59 : decode cX4_fittingPorts 59 = .ok (.ior, 1) := by decide +kernel
theorem dX4_fittingPorts_60 : decode cX4_fittingPorts 60 = .ok (.istore_n 2, 1) := by decide +kernel
theorem dX4_fittingPorts_61 : decode cX4_fittingPorts 61 = .ok (.iinc 3 1, 3) := by decide +kernel
theorem dX4_fittingPorts_64 : decode cX4_fittingPorts 64 = .ok (.goto (-55), 3) := by decide +kernel
theorem dX4_fittingPorts_67 : decode cX4_fittingPorts 67 = .ok (.iload_n 2, 1) := by decide +kernel
theorem dX4_fittingPorts_68 : decode cX4_fittingPorts 68 = .ok (.ireturn, 1) := by decide +kernel
theorem dX4_isStableSecond_0 : decode cX4_isStableSecond 0 = .ok (.iconst 0, 1) := by decide +kernel
theorem dX4_isStableSecond_1 : decode cX4_isStableSecond 1 = .ok (.istore_n 1, 1) := by decide +kernel
theorem dX4_isStableSecond_2 : decode cX4_isStableSecond 2 = .ok (.iload_n 1, 1) := by decide +kernel
theorem dX4_isStableSecond_3 : decode cX4_isStableSecond 3 = .ok (.sipush 149, 3) := by decide +kernel
theorem dX4_isStableSecond_6 : decode cX4_isStableSecond 6 = .ok (.if_icmp .ge 21, 3) := by decide +kernel
theorem dX4_isStableSecond_9 : decode cX4_isStableSecond 9 = .ok (.aload_n 0, 1) := by decide +kernel
theorem dX4_isStableSecond_10 : decode cX4_isStableSecond 10 = .ok (.getfield 23, 3) := by decide +kernel
theorem dX4_isStableSecond_13 : decode cX4_isStableSecond 13 = .ok (.iload_n 1, 1) := by decide +kernel
theorem dX4_isStableSecond_14 : decode cX4_isStableSecond 14 = .ok (.aload_n 0, 1) := by decide +kernel
theorem dX4_isStableSecond_15 : decode cX4_isStableSecond 15 = .ok (.getfield 7, 3) := by decide +kernel
theorem dX4_isStableSecond_18 : decode cX4_isStableSecond 18 = .ok (.iload_n 1, 1) := by decide +kernel
theorem dX4_isStableSecond_19 : decode cX4_isStableSecond 19 = .ok (.iaload, 1) := by decide +kernel
theorem dX4_isStableSecond_20 : decode cX4_isStableSecond 20 = .ok (.iastore, 1) := by decide +kernel
theorem dX4_isStableSecond_21 : decode cX4_isStableSecond 21 = .ok (.iinc 1 1, 3) := by decide +kernel
theorem dX4_isStableSecond_24 : decode cX4_isStableSecond 24 = .ok (.goto (-22), 3) := by decide +kernel
theorem dX4_isStableSecond_27 : decode cX4_isStableSecond 27 = .ok (.aload_n 0, 1) := by decide +kernel
theorem dX4_isStableSecond_28 : decode cX4_isStableSecond 28 = .ok (.invokevirtual 106, 3) := by decide +kernel
theorem dX4_isStableSecond_31 : decode cX4_isStableSecond 31 = .ok (.iconst 1, 1) := by decide +kernel
theorem dX4_isStableSecond_32 : decode cX4_isStableSecond 32 = .ok (.istore_n 1, 1) := by decide +kernel
theorem dX4_isStableSecond_33 : decode cX4_isStableSecond 33 = .ok (.iconst 0, 1) := by decide +kernel
theorem dX4_isStableSecond_34 : decode cX4_isStableSecond 34 = .ok (.istore_n 2, 1) := by decide +kernel
theorem dX4_isStableSecond_35 : decode cX4_isStableSecond 35 = .ok (.iload_n 2, 1) := by decide +kernel
theorem dX4_isStableSecond_36 : decode cX4_isStableSecond 36 = .ok (.sipush 149, 3) := by decide +kernel
theorem dX4_isStableSecond_39 : decode cX4_isStableSecond 39 = .ok (.if_icmp .ge 40, 3) := by decide +kernel
theorem dX4_isStableSecond_42 : decode cX4_isStableSecond 42 = .ok (.iload_n 1, 1) := by decide +kernel
theorem dX4_isStableSecond_43 : decode cX4_isStableSecond 43 = .ok (.ifCond .eq 28, 3) := by decide +kernel
theorem dX4_isStableSecond_46 : decode cX4_isStableSecond 46 = .ok (.iload_n 2, 1) := by decide +kernel
theorem dX4_isStableSecond_47 : decode cX4_isStableSecond 47 = .ok (.bipush 11, 2) := by decide +kernel
theorem dX4_isStableSecond_49 : decode cX4_isStableSecond 49 = .ok (.if_icmp .eq 18, 3) := by decide +kernel
theorem dX4_isStableSecond_52 : decode cX4_isStableSecond 52 = .ok (.aload_n 0, 1) := by decide +kernel
theorem dX4_isStableSecond_53 : decode cX4_isStableSecond 53 = .ok (.getfield 23, 3) := by decide +kernel
theorem dX4_isStableSecond_56 : decode cX4_isStableSecond 56 = .ok (.iload_n 2, 1) := by decide +kernel
theorem dX4_isStableSecond_57 : decode cX4_isStableSecond 57 = .ok (.iaload, 1) := by decide +kernel
theorem dX4_isStableSecond_58 : decode cX4_isStableSecond 58 = .ok (.aload_n 0, 1) := by decide +kernel
theorem dX4_isStableSecond_59 : decode cX4_isStableSecond 59 = .ok (.getfield 7, 3) := by decide +kernel
theorem dX4_isStableSecond_62 : decode cX4_isStableSecond 62 = .ok (.iload_n 2, 1) := by decide +kernel
theorem dX4_isStableSecond_63 : decode cX4_isStableSecond 63 = .ok (.iaload, 1) := by decide +kernel
theorem dX4_isStableSecond_64 : decode cX4_isStableSecond 64 = .ok (.if_icmp .ne 7, 3) := by decide +kernel
theorem dX4_isStableSecond_67 : decode cX4_isStableSecond 67 = .ok (.iconst 1, 1) := by decide +kernel
theorem dX4_isStableSecond_68 : decode cX4_isStableSecond 68 = .ok (.goto 4, 3) := by decide +kernel
theorem dX4_isStableSecond_71 : decode cX4_isStableSecond 71 = .ok (.iconst 0, 1) := by decide +kernel
theorem dX4_isStableSecond_72 : decode cX4_isStableSecond 72 = .ok (.istore_n 1, 1) := by decide +kernel
theorem dX4_isStableSecond_73 : decode cX4_isStableSecond 73 = .ok (.iinc 2 1, 3) := by decide +kernel
theorem dX4_isStableSecond_76 : decode cX4_isStableSecond 76 = .ok (.goto (-41), 3) := by decide +kernel
theorem dX4_isStableSecond_79 : decode cX4_isStableSecond 79 = .ok (.iload_n 1, 1) := by decide +kernel
theorem dX4_isStableSecond_80 : decode cX4_isStableSecond 80 = .ok (.ireturn, 1) := by decide +kernel
theorem dX4_findStable_0 : decode cX4_findStable 0 = .ok (.aload_n 0, 1) := by decide +kernel
theorem dX4_findStable_1 : decode cX4_findStable 1 = .ok (.invokevirtual 112, 3) := by decide +kernel
theorem dX4_findStable_4 : decode cX4_findStable 4 = .ok (.bipush (-6), 2) := by decide +kernel
theorem dX4_findStable_6 : decode cX4_findStable 6 = .ok (.istore_n 1, 1) := by decide +kernel
theorem dX4_findStable_7 : decode cX4_findStable 7 = .ok (.iconst 0, 1) := by decide +kernel
theorem dX4_findStable_8 : decode cX4_findStable 8 = .ok (.istore_n 2, 1) := by decide +kernel
theorem dX4_findStable_9 : decode cX4_findStable 9 = .ok (.iload_n 2, 1) := by decide +kernel
theorem dX4_findStable_10 : decode cX4_findStable 10 = .ok (.sipush 300, 3) := by decide +kernel
theorem dX4_findStable_13 : decode cX4_findStable 13 = .ok (.if_icmp .gt 35, 3) := by decide +kernel
theorem dX4_findStable_16 : decode cX4_findStable 16 = .ok (.iload_n 1, 1) := by decide +kernel
theorem dX4_findStable_17 : decode cX4_findStable 17 = .ok (.ifCond .ge 31, 3) := by decide +kernel
theorem dX4_findStable_20 : decode cX4_findStable 20 = .ok (.aload_n 0, 1) := by decide +kernel
theorem dX4_findStable_21 : decode cX4_findStable 21 = .ok (.aload_n 0, 1) := by decide +kernel
theorem dX4_findStable_22 : decode cX4_findStable 22 = .ok (.invokevirtual 118, 3) := by decide +kernel
theorem dX4_findStable_25 : decode cX4_findStable 25 = .ok (.putfield 121, 3) := by decide +kernel
theorem dX4_findStable_28 : decode cX4_findStable 28 = .ok (.aload_n 0, 1) := by decide +kernel
theorem dX4_findStable_29 : decode cX4_findStable 29 = .ok (.invokevirtual 124, 3) := by decide +kernel
theorem dX4_findStable_32 : decode cX4_findStable 32 = .ok (.ifCond .eq 7, 3) := by decide +kernel
theorem dX4_findStable_35 : decode cX4_findStable 35 = .ok (.iload_n 2, 1) := by decide +kernel
theorem dX4_findStable_36 : decode cX4_findStable 36 = .ok (.goto 5, 3) := by decide +kernel
theorem dX4_findStable_39 : decode cX4_findStable 39 = .ok (.bipush (-6), 2) := by decide +kernel
theorem dX4_findStable_41 : decode cX4_findStable 41 = .ok (.istore_n 1, 1) := by decide +kernel
theorem dX4_findStable_42 : decode cX4_findStable 42 = .ok (.iinc 2 1, 3) := by decide +kernel
theorem dX4_findStable_45 : decode cX4_findStable 45 = .ok (.goto (-36), 3) := by decide +kernel
theorem dX4_findStable_48 : decode cX4_findStable 48 = .ok (.aload_n 0, 1) := by decide +kernel
theorem dX4_findStable_49 : decode cX4_findStable 49 = .ok (.invokevirtual 115, 3) := by decide +kernel
theorem dX4_findStable_52 : decode cX4_findStable 52 = .ok (.iload_n 1, 1) := by decide +kernel
theorem dX4_findStable_53 : decode cX4_findStable 53 = .ok (.ireturn, 1) := by decide +kernel
theorem dX4_secondsToStable_0 : decode cX4_secondsToStable 0 = .ok (.aload_n 0, 1) := by decide +kernel
theorem dX4_secondsToStable_1 : decode cX4_secondsToStable 1 = .ok (.invokevirtual 128, 3) := by decide +kernel
theorem dX4_secondsToStable_4 : decode cX4_secondsToStable 4 = .ok (.ireturn, 1) := by decide +kernel
theorem dX4_stablePorts_0 : decode cX4_stablePorts 0 = .ok (.aload_n 0, 1) := by decide +kernel
theorem dX4_stablePorts_1 : decode cX4_stablePorts 1 = .ok (.invokevirtual 128, 3) := by decide +kernel
theorem dX4_stablePorts_4 : decode cX4_stablePorts 4 = .ok (.ifCond .ge 8, 3) := by decide +kernel
theorem dX4_stablePorts_7 : decode cX4_stablePorts 7 = .ok (.bipush (-6), 2) := by decide +kernel
theorem dX4_stablePorts_9 : decode cX4_stablePorts 9 = .ok (.goto 7, 3) := by decide +kernel
theorem dX4_stablePorts_12 : decode cX4_stablePorts 12 = .ok (.aload_n 0, 1) := by decide +kernel
theorem dX4_stablePorts_13 : decode cX4_stablePorts 13 = .ok (.getfield 121, 3) := by decide +kernel
theorem dX4_stablePorts_16 : decode cX4_stablePorts 16 = .ok (.ireturn, 1) := by decide +kernel
theorem dX4_save_0 : decode cX4_save 0 = .ok (.iload_n 1, 1) := by decide +kernel
theorem dX4_save_1 : decode cX4_save 1 = .ok (.iconst 0, 1) := by decide +kernel
theorem dX4_save_2 : decode cX4_save 2 = .ok (.iconst 1, 1) := by decide +kernel
theorem dX4_save_3 : decode cX4_save 3 = .ok (.invokestatic 30, 3) := by decide +kernel
theorem dX4_save_6 : decode cX4_save 6 = .ok (.ifCond .ne 5, 3) := by decide +kernel
theorem dX4_save_9 : decode cX4_save 9 = .ok (.iconst (-1), 1) := by decide +kernel
theorem dX4_save_10 : decode cX4_save 10 = .ok (.ireturn, 1) := by decide +kernel
theorem dX4_save_11 : decode cX4_save 11 = .ok (.iconst 0, 1) := by decide +kernel
theorem dX4_save_12 : decode cX4_save 12 = .ok (.istore_n 2, 1) := by decide +kernel
theorem dX4_save_13 : decode cX4_save 13 = .ok (.iload_n 2, 1) := by decide +kernel
theorem dX4_save_14 : decode cX4_save 14 = .ok (.sipush 149, 3) := by decide +kernel
theorem dX4_save_17 : decode cX4_save 17 = .ok (.if_icmp .ge 27, 3) := by decide +kernel
theorem dX4_save_20 : decode cX4_save 20 = .ok (.aload_n 0, 1) := by decide +kernel
theorem dX4_save_21 : decode cX4_save 21 = .ok (.getfield 16, 3) := by decide +kernel
theorem dX4_save_24 : decode cX4_save 24 = .ok (.sipush 149, 3) := by decide +kernel
theorem dX4_save_27 : decode cX4_save 27 = .ok (.iload_n 1, 1) := by decide +kernel
theorem dX4_save_28 : decode cX4_save 28 = .ok (.imul, 1) := by decide +kernel
theorem dX4_save_29 : decode cX4_save 29 = .ok (.iload_n 2, 1) := by decide +kernel
theorem dX4_save_30 : decode cX4_save 30 = .ok (.iadd, 1) := by decide +kernel
theorem dX4_save_31 : decode cX4_save 31 = .ok (.aload_n 0, 1) := by decide +kernel
theorem dX4_save_32 : decode cX4_save 32 = .ok (.getfield 7, 3) := by decide +kernel
theorem dX4_save_35 : decode cX4_save 35 = .ok (.iload_n 2, 1) := by decide +kernel
theorem dX4_save_36 : decode cX4_save 36 = .ok (.iaload, 1) := by decide +kernel
theorem dX4_save_37 : decode cX4_save 37 = .ok (.iastore, 1) := by decide +kernel
theorem dX4_save_38 : decode cX4_save 38 = .ok (.iinc 2 1, 3) := by decide +kernel
theorem dX4_save_41 : decode cX4_save 41 = .ok (.goto (-28), 3) := by decide +kernel
theorem dX4_save_44 : decode cX4_save 44 = .ok (.aload_n 0, 1) := by decide +kernel
theorem dX4_save_45 : decode cX4_save 45 = .ok (.getfield 19, 3) := by decide +kernel
theorem dX4_save_48 : decode cX4_save 48 = .ok (.iload_n 1, 1) := by decide +kernel
theorem dX4_save_49 : decode cX4_save 49 = .ok (.iconst 1, 1) := by decide +kernel
theorem dX4_save_50 : decode cX4_save 50 = .ok (.bastore, 1) := by decide +kernel
theorem dX4_save_51 : decode cX4_save 51 = .ok (.aload_n 0, 1) := by decide +kernel
theorem dX4_save_52 : decode cX4_save 52 = .ok (.getfield 7, 3) := by decide +kernel
theorem dX4_save_55 : decode cX4_save 55 = .ok (.bipush 11, 2) := by decide +kernel
theorem dX4_save_57 : decode cX4_save 57 = .ok (.iaload, 1) := by decide +kernel
theorem dX4_save_58 : decode cX4_save 58 = .ok (.ireturn, 1) := by decide +kernel
theorem dX4_restore_0 : decode cX4_restore 0 = .ok (.iload_n 1, 1) := by decide +kernel
theorem dX4_restore_1 : decode cX4_restore 1 = .ok (.iconst 0, 1) := by decide +kernel
theorem dX4_restore_2 : decode cX4_restore 2 = .ok (.iconst 1, 1) := by decide +kernel
theorem dX4_restore_3 : decode cX4_restore 3 = .ok (.invokestatic 30, 3) := by decide +kernel
theorem dX4_restore_6 : decode cX4_restore 6 = .ok (.ifCond .ne 5, 3) := by decide +kernel
theorem dX4_restore_9 : decode cX4_restore 9 = .ok (.iconst (-1), 1) := by decide +kernel
theorem dX4_restore_10 : decode cX4_restore 10 = .ok (.ireturn, 1) := by decide +kernel
theorem dX4_restore_11 : decode cX4_restore 11 = .ok (.aload_n 0, 1) := by decide +kernel
theorem dX4_restore_12 : decode cX4_restore 12 = .ok (.getfield 19, 3) := by decide +kernel
theorem dX4_restore_15 : decode cX4_restore 15 = .ok (.iload_n 1, 1) := by decide +kernel
theorem dX4_restore_16 : decode cX4_restore 16 = .ok (.baload, 1) := by decide +kernel
theorem dX4_restore_17 : decode cX4_restore 17 = .ok (.ifCond .ne 6, 3) := by decide +kernel
theorem dX4_restore_20 : decode cX4_restore 20 = .ok (.bipush (-3), 2) := by decide +kernel
theorem dX4_restore_22 : decode cX4_restore 22 = .ok (.ireturn, 1) := by decide +kernel
theorem dX4_restore_23 : decode cX4_restore 23 = .ok (.iconst 0, 1) := by decide +kernel
theorem dX4_restore_24 : decode cX4_restore 24 = .ok (.istore_n 2, 1) := by decide +kernel
theorem dX4_restore_25 : decode cX4_restore 25 = .ok (.iload_n 2, 1) := by decide +kernel
theorem dX4_restore_26 : decode cX4_restore 26 = .ok (.sipush 149, 3) := by decide +kernel
theorem dX4_restore_29 : decode cX4_restore 29 = .ok (.if_icmp .ge 27, 3) := by decide +kernel
theorem dX4_restore_32 : decode cX4_restore 32 = .ok (.aload_n 0, 1) := by decide +kernel
theorem dX4_restore_33 : decode cX4_restore 33 = .ok (.getfield 7, 3) := by decide +kernel
theorem dX4_restore_36 : decode cX4_restore 36 = .ok (.iload_n 2, 1) := by decide +kernel
theorem dX4_restore_37 : decode cX4_restore 37 = .ok (.aload_n 0, 1) := by decide +kernel
theorem dX4_restore_38 : decode cX4_restore 38 = .ok (.getfield 16, 3) := by decide +kernel
theorem dX4_restore_41 : decode cX4_restore 41 = .ok (.sipush 149, 3) := by decide +kernel
theorem dX4_restore_44 : decode cX4_restore 44 = .ok (.iload_n 1, 1) := by decide +kernel
theorem dX4_restore_45 : decode cX4_restore 45 = .ok (.imul, 1) := by decide +kernel
theorem dX4_restore_46 : decode cX4_restore 46 = .ok (.iload_n 2, 1) := by decide +kernel
theorem dX4_restore_47 : decode cX4_restore 47 = .ok (.iadd, 1) := by decide +kernel
theorem dX4_restore_48 : decode cX4_restore 48 = .ok (.iaload, 1) := by decide +kernel
theorem dX4_restore_49 : decode cX4_restore 49 = .ok (.iastore, 1) := by decide +kernel
theorem dX4_restore_50 : decode cX4_restore 50 = .ok (.iinc 2 1, 3) := by decide +kernel
theorem dX4_restore_53 : decode cX4_restore 53 = .ok (.goto (-28), 3) := by decide +kernel
theorem dX4_restore_56 : decode cX4_restore 56 = .ok (.aload_n 0, 1) := by decide +kernel
theorem dX4_restore_57 : decode cX4_restore 57 = .ok (.getfield 7, 3) := by decide +kernel
theorem dX4_restore_60 : decode cX4_restore 60 = .ok (.bipush 11, 2) := by decide +kernel
theorem dX4_restore_62 : decode cX4_restore 62 = .ok (.iaload, 1) := by decide +kernel
theorem dX4_restore_63 : decode cX4_restore 63 = .ok (.ireturn, 1) := by decide +kernel
