/-! decode rows, as the task prints them -/
theorem dX3_init_0 : decode cX3_init 0 = .ok (.aload_n 0, 1) := by decide +kernel
theorem dX3_init_1 : decode cX3_init 1 = .ok (.invokespecial 1, 3) := by decide +kernel
theorem dX3_init_4 : decode cX3_init 4 = .ok (.aload_n 0, 1) := by decide +kernel
theorem dX3_init_5 : decode cX3_init 5 = .ok (.new 7, 3) := by decide +kernel
theorem dX3_init_8 : decode cX3_init 8 = .ok (.dup, 1) := by decide +kernel
theorem dX3_init_9 : decode cX3_init 9 = .ok (.invokespecial 9, 3) := by decide +kernel
theorem dX3_init_12 : decode cX3_init 12 = .ok (.putfield 10, 3) := by decide +kernel
theorem dX3_init_15 : decode cX3_init 15 = .ok (.aload_n 0, 1) := by decide +kernel
theorem dX3_init_16 : decode cX3_init 16 = .ok (.new 7, 3) := by decide +kernel
theorem dX3_init_19 : decode cX3_init 19 = .ok (.dup, 1) := by decide +kernel
theorem dX3_init_20 : decode cX3_init 20 = .ok (.invokespecial 9, 3) := by decide +kernel
theorem dX3_init_23 : decode cX3_init 23 = .ok (.putfield 16, 3) := by decide +kernel
theorem dX3_init_26 : decode cX3_init 26 = .ok (.aload_n 0, 1) := by decide +kernel
theorem dX3_init_27 : decode cX3_init 27 = .ok (.iconst 2, 1) := by decide +kernel
theorem dX3_init_28 : decode cX3_init 28 = .ok (.anewarray 7, 3) := by decide +kernel
theorem dX3_init_31 : decode cX3_init 31 = .ok (.putfield 19, 3) := by decide +kernel
theorem dX3_init_34 : decode cX3_init 34 = .ok (.return_, 1) := by decide +kernel
theorem dX3_setCapacity_0 : decode cX3_setCapacity 0 = .ok (.iload_n 1, 1) := by decide +kernel
theorem dX3_setCapacity_1 : decode cX3_setCapacity 1 = .ok (.invokestatic 23, 3) := by decide +kernel
theorem dX3_setCapacity_4 : decode cX3_setCapacity 4 = .ok (.ifCond .ne 5, 3) := by decide +kernel
theorem dX3_setCapacity_7 : decode cX3_setCapacity 7 = .ok (.iconst (-1), 1) := by decide +kernel
theorem dX3_setCapacity_8 : decode cX3_setCapacity 8 = .ok (.ireturn, 1) := by decide +kernel
theorem dX3_setCapacity_9 : decode cX3_setCapacity 9 = .ok (.iload_n 2, 1) := by decide +kernel
theorem dX3_setCapacity_10 : decode cX3_setCapacity 10 = .ok (.iconst 0, 1) := by decide +kernel
theorem dX3_setCapacity_11 : decode cX3_setCapacity 11 = .ok (.sipush 3000, 3) := by decide +kernel
theorem dX3_setCapacity_14 : decode cX3_setCapacity 14 = .ok (.invokestatic 27, 3) := by decide +kernel
theorem dX3_setCapacity_17 : decode cX3_setCapacity 17 = .ok (.ifCond .ne 6, 3) := by decide +kernel
theorem dX3_setCapacity_20 : decode cX3_setCapacity 20 = .ok (.bipush (-2), 2) := by decide +kernel
theorem dX3_setCapacity_22 : decode cX3_setCapacity 22 = .ok (.ireturn, 1) := by decide +kernel
theorem dX3_setCapacity_23 : decode cX3_setCapacity 23 = .ok (.aload_n 0, 1) := by decide +kernel
theorem dX3_setCapacity_24 : decode cX3_setCapacity 24 = .ok (.getfield 10, 3) := by decide +kernel
theorem dX3_setCapacity_27 : decode cX3_setCapacity 27 = .ok (.getfield 31, 3) := by decide +kernel
theorem dX3_setCapacity_30 : decode cX3_setCapacity 30 = .ok (.iload_n 1, 1) := by decide +kernel
theorem dX3_setCapacity_31 : decode cX3_setCapacity 31 = .ok (.iaload, 1) := by decide +kernel
theorem dX3_setCapacity_32 : decode cX3_setCapacity 32 = .ok (.istore_n 3, 1) := by decide +kernel
theorem dX3_setCapacity_33 : decode cX3_setCapacity 33 = .ok (.aload_n 0, 1) := by decide +kernel
theorem dX3_setCapacity_34 : decode cX3_setCapacity 34 = .ok (.getfield 10, 3) := by decide +kernel
theorem dX3_setCapacity_37 : decode cX3_setCapacity 37 = .ok (.getfield 31, 3) := by decide +kernel
theorem dX3_setCapacity_40 : decode cX3_setCapacity 40 = .ok (.iload_n 1, 1) := by decide +kernel
theorem dX3_setCapacity_41 : decode cX3_setCapacity 41 = .ok (.iload_n 2, 1) := by decide +kernel
theorem dX3_setCapacity_42 : decode cX3_setCapacity 42 = .ok (.iastore, 1) := by decide +kernel
theorem dX3_setCapacity_43 : decode cX3_setCapacity 43 = .ok (.iload_n 3, 1) := by decide +kernel
theorem dX3_setCapacity_44 : decode cX3_setCapacity 44 = .ok (.ireturn, 1) := by decide +kernel
theorem dX3_setWorking_0 : decode cX3_setWorking 0 = .ok (.iload_n 1, 1) := by decide +kernel
theorem dX3_setWorking_1 : decode cX3_setWorking 1 = .ok (.invokestatic 23, 3) := by decide +kernel
theorem dX3_setWorking_4 : decode cX3_setWorking 4 = .ok (.ifCond .ne 5, 3) := by decide +kernel
theorem dX3_setWorking_7 : decode cX3_setWorking 7 = .ok (.iconst (-1), 1) := by decide +kernel
theorem dX3_setWorking_8 : decode cX3_setWorking 8 = .ok (.ireturn, 1) := by decide +kernel
theorem dX3_setWorking_9 : decode cX3_setWorking 9 = .ok (.aload_n 0, 1) := by decide +kernel
theorem dX3_setWorking_10 : decode cX3_setWorking 10 = .ok (.getfield 10, 3) := by decide +kernel
theorem dX3_setWorking_13 : decode cX3_setWorking 13 = .ok (.getfield 35, 3) := by decide +kernel
theorem dX3_setWorking_16 : decode cX3_setWorking 16 = .ok (.iload_n 1, 1) := by decide +kernel
theorem dX3_setWorking_17 : decode cX3_setWorking 17 = .ok (.baload, 1) := by decide +kernel
theorem dX3_setWorking_18 : decode cX3_setWorking 18 = .ok (.istore_n 3, 1) := by decide +kernel
theorem dX3_setWorking_19 : decode cX3_setWorking 19 = .ok (.aload_n 0, 1) := by decide +kernel
theorem dX3_setWorking_20 : decode cX3_setWorking 20 = .ok (.getfield 10, 3) := by decide +kernel
theorem dX3_setWorking_23 : decode cX3_setWorking 23 = .ok (.getfield 35, 3) := by decide +kernel
theorem dX3_setWorking_26 : decode cX3_setWorking 26 = .ok (.iload_n 1, 1) := by decide +kernel
theorem dX3_setWorking_27 : decode cX3_setWorking 27 = .ok (.iload_n 2, 1) := by decide +kernel
theorem dX3_setWorking_28 : decode cX3_setWorking 28 = .ok (.bastore, 1) := by decide +kernel
theorem dX3_setWorking_29 : decode cX3_setWorking 29 = .ok (.iload_n 3, 1) := by decide +kernel
theorem dX3_setWorking_30 : decode cX3_setWorking 30 = .ok (.ifCond .eq 7, 3) := by decide +kernel
theorem dX3_setWorking_33 : decode cX3_setWorking 33 = .ok (.iconst 1, 1) := by decide +kernel
theorem dX3_setWorking_34 : decode cX3_setWorking 34 = .ok (.goto 4, 3) := by decide +kernel
theorem dX3_setWorking_37 : decode cX3_setWorking 37 = .ok (.iconst 0, 1) := by decide +kernel
theorem dX3_setWorking_38 : decode cX3_setWorking 38 = .ok (.ireturn, 1) := by decide +kernel
theorem dX3_setReserve_0 : decode cX3_setReserve 0 = .ok (.iload_n 1, 1) := by decide +kernel
theorem dX3_setReserve_1 : decode cX3_setReserve 1 = .ok (.iconst 0, 1) := by decide +kernel
theorem dX3_setReserve_2 : decode cX3_setReserve 2 = .ok (.sipush 3000, 3) := by decide +kernel
theorem dX3_setReserve_5 : decode cX3_setReserve 5 = .ok (.invokestatic 27, 3) := by decide +kernel
theorem dX3_setReserve_8 : decode cX3_setReserve 8 = .ok (.ifCond .ne 6, 3) := by decide +kernel
theorem dX3_setReserve_11 : decode cX3_setReserve 11 = .ok (.bipush (-2), 2) := by decide +kernel
theorem dX3_setReserve_13 : decode cX3_setReserve 13 = .ok (.ireturn, 1) := by decide +kernel
theorem dX3_setReserve_14 : decode cX3_setReserve 14 = .ok (.aload_n 0, 1) := by decide +kernel
theorem dX3_setReserve_15 : decode cX3_setReserve 15 = .ok (.getfield 10, 3) := by decide +kernel
theorem dX3_setReserve_18 : decode cX3_setReserve 18 = .ok (.getfield 39, 3) := by decide +kernel
theorem dX3_setReserve_21 : decode cX3_setReserve 21 = .ok (.istore_n 2, 1) := by decide +kernel
theorem dX3_setReserve_22 : decode cX3_setReserve 22 = .ok (.aload_n 0, 1) := by decide +kernel
theorem dX3_setReserve_23 : decode cX3_setReserve 23 = .ok (.getfield 10, 3) := by decide +kernel
theorem dX3_setReserve_26 : decode cX3_setReserve 26 = .ok (.iload_n 1, 1) := by decide +kernel
theorem dX3_setReserve_27 : decode cX3_setReserve 27 = .ok (.putfield 39, 3) := by decide +kernel
theorem dX3_setReserve_30 : decode cX3_setReserve 30 = .ok (.iload_n 2, 1) := by decide +kernel
theorem dX3_setReserve_31 : decode cX3_setReserve 31 = .ok (.ireturn, 1) := by decide +kernel
theorem dX3_setRestartGap_0 : decode cX3_setRestartGap 0 = .ok (.iload_n 1, 1) := by decide +kernel
theorem dX3_setRestartGap_1 : decode cX3_setRestartGap 1 = .ok (.iconst 1, 1) := by decide +kernel
theorem dX3_setRestartGap_2 : decode cX3_setRestartGap 2 = .ok (.bipush 30, 2) := by decide +kernel
theorem dX3_setRestartGap_4 : decode cX3_setRestartGap 4 = .ok (.invokestatic 27, 3) := by decide +kernel
theorem dX3_setRestartGap_7 : decode cX3_setRestartGap 7 = .ok (.ifCond .ne 6, 3) := by decide +kernel
theorem dX3_setRestartGap_10 : decode cX3_setRestartGap 10 = .ok (.bipush (-2), 2) := by decide +kernel
theorem dX3_setRestartGap_12 : decode cX3_setRestartGap 12 = .ok (.ireturn, 1) := by decide +kernel
theorem dX3_setRestartGap_13 : decode cX3_setRestartGap 13 = .ok (.aload_n 0, 1) := by decide +kernel
theorem dX3_setRestartGap_14 : decode cX3_setRestartGap 14 = .ok (.getfield 10, 3) := by decide +kernel
theorem dX3_setRestartGap_17 : decode cX3_setRestartGap 17 = .ok (.getfield 43, 3) := by decide +kernel
theorem dX3_setRestartGap_20 : decode cX3_setRestartGap 20 = .ok (.istore_n 2, 1) := by decide +kernel
theorem dX3_setRestartGap_21 : decode cX3_setRestartGap 21 = .ok (.aload_n 0, 1) := by decide +kernel
theorem dX3_setRestartGap_22 : decode cX3_setRestartGap 22 = .ok (.getfield 10, 3) := by decide +kernel
theorem dX3_setRestartGap_25 : decode cX3_setRestartGap 25 = .ok (.iload_n 1, 1) := by decide +kernel
theorem dX3_setRestartGap_26 : decode cX3_setRestartGap 26 = .ok (.putfield 43, 3) := by decide +kernel
theorem dX3_setRestartGap_29 : decode cX3_setRestartGap 29 = .ok (.iload_n 2, 1) := by decide +kernel
theorem dX3_setRestartGap_30 : decode cX3_setRestartGap 30 = .ok (.ireturn, 1) := by decide +kernel
theorem dX3_setOverloadLimit_0 : decode cX3_setOverloadLimit 0 = .ok (.iload_n 1, 1) := by decide +kernel
theorem dX3_setOverloadLimit_1 : decode cX3_setOverloadLimit 1 = .ok (.iconst 1, 1) := by decide +kernel
theorem dX3_setOverloadLimit_2 : decode cX3_setOverloadLimit 2 = .ok (.bipush 30, 2) := by decide +kernel
theorem dX3_setOverloadLimit_4 : decode cX3_setOverloadLimit 4 = .ok (.invokestatic 27, 3) := by decide +kernel
theorem dX3_setOverloadLimit_7 : decode cX3_setOverloadLimit 7 = .ok (.ifCond .ne 6, 3) := by decide +kernel
theorem dX3_setOverloadLimit_10 : decode cX3_setOverloadLimit 10 = .ok (.bipush (-2), 2) := by decide +kernel
theorem dX3_setOverloadLimit_12 : decode cX3_setOverloadLimit 12 = .ok (.ireturn, 1) := by decide +kernel
theorem dX3_setOverloadLimit_13 : decode cX3_setOverloadLimit 13 = .ok (.aload_n 0, 1) := by decide +kernel
theorem dX3_setOverloadLimit_14 : decode cX3_setOverloadLimit 14 = .ok (.getfield 10, 3) := by decide +kernel
theorem dX3_setOverloadLimit_17 : decode cX3_setOverloadLimit 17 = .ok (.getfield 46, 3) := by decide +kernel
theorem dX3_setOverloadLimit_20 : decode cX3_setOverloadLimit 20 = .ok (.istore_n 2, 1) := by decide +kernel
theorem dX3_setOverloadLimit_21 : decode cX3_setOverloadLimit 21 = .ok (.aload_n 0, 1) := by decide +kernel
theorem dX3_setOverloadLimit_22 : decode cX3_setOverloadLimit 22 = .ok (.getfield 10, 3) := by decide +kernel
theorem dX3_setOverloadLimit_25 : decode cX3_setOverloadLimit 25 = .ok (.iload_n 1, 1) := by decide +kernel
theorem dX3_setOverloadLimit_26 : decode cX3_setOverloadLimit 26 = .ok (.putfield 46, 3) := by decide +kernel
theorem dX3_setOverloadLimit_29 : decode cX3_setOverloadLimit 29 = .ok (.iload_n 2, 1) := by decide +kernel
theorem dX3_setOverloadLimit_30 : decode cX3_setOverloadLimit 30 = .ok (.ireturn, 1) := by decide +kernel
theorem dX3_setCooldownTime_0 : decode cX3_setCooldownTime 0 = .ok (.iload_n 1, 1) := by decide +kernel
theorem dX3_setCooldownTime_1 : decode cX3_setCooldownTime 1 = .ok (.iconst 1, 1) := by decide +kernel
theorem dX3_setCooldownTime_2 : decode cX3_setCooldownTime 2 = .ok (.bipush 60, 2) := by decide +kernel
theorem dX3_setCooldownTime_4 : decode cX3_setCooldownTime 4 = .ok (.invokestatic 27, 3) := by decide +kernel
theorem dX3_setCooldownTime_7 : decode cX3_setCooldownTime 7 = .ok (.ifCond .ne 6, 3) := by decide +kernel
theorem dX3_setCooldownTime_10 : decode cX3_setCooldownTime 10 = .ok (.bipush (-2), 2) := by decide +kernel
theorem dX3_setCooldownTime_12 : decode cX3_setCooldownTime 12 = .ok (.ireturn, 1) := by decide +kernel
theorem dX3_setCooldownTime_13 : decode cX3_setCooldownTime 13 = .ok (.aload_n 0, 1) := by decide +kernel
theorem dX3_setCooldownTime_14 : decode cX3_setCooldownTime 14 = .ok (.getfield 10, 3) := by decide +kernel
theorem dX3_setCooldownTime_17 : decode cX3_setCooldownTime 17 = .ok (.getfield 49, 3) := by decide +kernel
theorem dX3_setCooldownTime_20 : decode cX3_setCooldownTime 20 = .ok (.istore_n 2, 1) := by decide +kernel
theorem dX3_setCooldownTime_21 : decode cX3_setCooldownTime 21 = .ok (.aload_n 0, 1) := by decide +kernel
theorem dX3_setCooldownTime_22 : decode cX3_setCooldownTime 22 = .ok (.getfield 10, 3) := by decide +kernel
theorem dX3_setCooldownTime_25 : decode cX3_setCooldownTime 25 = .ok (.iload_n 1, 1) := by decide +kernel
theorem dX3_setCooldownTime_26 : decode cX3_setCooldownTime 26 = .ok (.putfield 49, 3) := by decide +kernel
theorem dX3_setCooldownTime_29 : decode cX3_setCooldownTime 29 = .ok (.iload_n 2, 1) := by decide +kernel
theorem dX3_setCooldownTime_30 : decode cX3_setCooldownTime 30 = .ok (.ireturn, 1) := by decide +kernel
theorem dX3_budget_0 : decode cX3_budget 0 = .ok (.aload_n 0, 1) := by decide +kernel
theorem dX3_budget_1 : decode cX3_budget 1 = .ok (.getfield 10, 3) := by decide +kernel
theorem dX3_budget_4 : decode cX3_budget 4 = .ok (.invokevirtual 52, 3) := by decide +kernel
theorem dX3_budget_7 : decode cX3_budget 7 = .ok (.ireturn, 1) := by decide +kernel
theorem dX3_available_0 : decode cX3_available 0 = .ok (.aload_n 0, 1) := by decide +kernel
theorem dX3_available_1 : decode cX3_available 1 = .ok (.getfield 10, 3) := by decide +kernel
theorem dX3_available_4 : decode cX3_available 4 = .ok (.invokevirtual 56, 3) := by decide +kernel
theorem dX3_available_7 : decode cX3_available 7 = .ok (.ireturn, 1) := by decide +kernel
theorem dX3_setEnabled_0 : decode cX3_setEnabled 0 = .ok (.iload_n 1, 1) := by decide +kernel
theorem dX3_setEnabled_1 : decode cX3_setEnabled 1 = .ok (.invokestatic 59, 3) := by decide +kernel
theorem dX3_setEnabled_4 : decode cX3_setEnabled 4 = .ok (.ifCond .ne 5, 3) := by decide +kernel
theorem dX3_setEnabled_7 : decode cX3_setEnabled 7 = .ok (.iconst (-1), 1) := by decide +kernel
theorem dX3_setEnabled_8 : decode cX3_setEnabled 8 = .ok (.ireturn, 1) := by decide +kernel
theorem dX3_setEnabled_9 : decode cX3_setEnabled 9 = .ok (.aload_n 0, 1) := by decide +kernel
theorem dX3_setEnabled_10 : decode cX3_setEnabled 10 = .ok (.getfield 10, 3) := by decide +kernel
theorem dX3_setEnabled_13 : decode cX3_setEnabled 13 = .ok (.getfield 62, 3) := by decide +kernel
theorem dX3_setEnabled_16 : decode cX3_setEnabled 16 = .ok (.iload_n 1, 1) := by decide +kernel
theorem dX3_setEnabled_17 : decode cX3_setEnabled 17 = .ok (.aaload, 1) := by decide +kernel
theorem dX3_setEnabled_18 : decode cX3_setEnabled 18 = .ok (.astore_n 3, 1) := by decide +kernel
theorem dX3_setEnabled_19 : decode cX3_setEnabled 19 = .ok (.aload_n 3, 1) := by decide +kernel
theorem dX3_setEnabled_20 : decode cX3_setEnabled 20 = .ok (.getfield 66, 3) := by decide +kernel
theorem dX3_setEnabled_23 : decode cX3_setEnabled 23 = .ok (.istore 4, 2) := by decide +kernel
theorem dX3_setEnabled_25 : decode cX3_setEnabled 25 = .ok (.aload_n 3, 1) := by decide +kernel
theorem dX3_setEnabled_26 : decode cX3_setEnabled 26 = .ok (.iload_n 2, 1) := by decide +kernel
theorem dX3_setEnabled_27 : decode cX3_setEnabled 27 = .ok (.putfield 66, 3) := by decide +kernel
theorem dX3_setEnabled_30 : decode cX3_setEnabled 30 = .ok (.iload_n 2, 1) := by decide +kernel
theorem dX3_setEnabled_31 : decode cX3_setEnabled 31 = .ok (.ifCond .ne 7, 3) := by decide +kernel
theorem dX3_setEnabled_34 : decode cX3_setEnabled 34 = .ok (.aload_n 3, 1) := by decide +kernel
theorem dX3_setEnabled_35 : decode cX3_setEnabled 35 = .ok (.invokevirtual 72, 3) := by decide +kernel
theorem dX3_setEnabled_38 : decode cX3_setEnabled 38 = .ok (.iload 4, 2) := by decide +kernel
theorem dX3_setEnabled_40 : decode cX3_setEnabled 40 = .ok (.ifCond .eq 7, 3) := by decide +kernel
theorem dX3_setEnabled_43 : decode cX3_setEnabled 43 = .ok (.iconst 1, 1) := by decide +kernel
theorem dX3_setEnabled_44 : decode cX3_setEnabled 44 = .ok (.goto 4, 3) := by decide +kernel
theorem dX3_setEnabled_47 : decode cX3_setEnabled 47 = .ok (.iconst 0, 1) := by decide +kernel
theorem dX3_setEnabled_48 : decode cX3_setEnabled 48 = .ok (.ireturn, 1) := by decide +kernel
theorem dX3_setPriority_0 : decode cX3_setPriority 0 = .ok (.iload_n 1, 1) := by decide +kernel
theorem dX3_setPriority_1 : decode cX3_setPriority 1 = .ok (.invokestatic 59, 3) := by decide +kernel
theorem dX3_setPriority_4 : decode cX3_setPriority 4 = .ok (.ifCond .ne 5, 3) := by decide +kernel
theorem dX3_setPriority_7 : decode cX3_setPriority 7 = .ok (.iconst (-1), 1) := by decide +kernel
theorem dX3_setPriority_8 : decode cX3_setPriority 8 = .ok (.ireturn, 1) := by decide +kernel
theorem dX3_setPriority_9 : decode cX3_setPriority 9 = .ok (.iload_n 2, 1) := by decide +kernel
theorem dX3_setPriority_10 : decode cX3_setPriority 10 = .ok (.iconst 0, 1) := by decide +kernel
theorem dX3_setPriority_11 : decode cX3_setPriority 11 = .ok (.iconst 2, 1) := by decide +kernel
theorem dX3_setPriority_12 : decode cX3_setPriority 12 = .ok (.invokestatic 27, 3) := by decide +kernel
theorem dX3_setPriority_15 : decode cX3_setPriority 15 = .ok (.ifCond .ne 6, 3) := by decide +kernel
theorem dX3_setPriority_18 : decode cX3_setPriority 18 = .ok (.bipush (-2), 2) := by decide +kernel
theorem dX3_setPriority_20 : decode cX3_setPriority 20 = .ok (.ireturn, 1) := by decide +kernel
theorem dX3_setPriority_21 : decode cX3_setPriority 21 = .ok (.aload_n 0, 1) := by decide +kernel
theorem dX3_setPriority_22 : decode cX3_setPriority 22 = .ok (.getfield 10, 3) := by decide +kernel
theorem dX3_setPriority_25 : decode cX3_setPriority 25 = .ok (.getfield 62, 3) := by decide +kernel
theorem dX3_setPriority_28 : decode cX3_setPriority 28 = .ok (.iload_n 1, 1) := by decide +kernel
theorem dX3_setPriority_29 : decode cX3_setPriority 29 = .ok (.aaload, 1) := by decide +kernel
theorem dX3_setPriority_30 : decode cX3_setPriority 30 = .ok (.astore_n 3, 1) := by decide +kernel
theorem dX3_setPriority_31 : decode cX3_setPriority 31 = .ok (.aload_n 3, 1) := by decide +kernel
theorem dX3_setPriority_32 : decode cX3_setPriority 32 = .ok (.getfield 75, 3) := by decide +kernel
theorem dX3_setPriority_35 : decode cX3_setPriority 35 = .ok (.istore 4, 2) := by decide +kernel
theorem dX3_setPriority_37 : decode cX3_setPriority 37 = .ok (.aload_n 3, 1) := by decide +kernel
theorem dX3_setPriority_38 : decode cX3_setPriority 38 = .ok (.iload_n 2, 1) := by decide +kernel
theorem dX3_setPriority_39 : decode cX3_setPriority 39 = .ok (.putfield 75, 3) := by decide +kernel
theorem dX3_setPriority_42 : decode cX3_setPriority 42 = .ok (.iload 4, 2) := by decide +kernel
theorem dX3_setPriority_44 : decode cX3_setPriority 44 = .ok (.ireturn, 1) := by decide +kernel
theorem dX3_connect_0 : decode cX3_connect 0 = .ok (.iload_n 1, 1) := by decide +kernel
theorem dX3_connect_1 : decode cX3_connect 1 = .ok (.invokestatic 59, 3) := by decide +kernel
theorem dX3_connect_4 : decode cX3_connect 4 = .ok (.ifCond .ne 5, 3) := by decide +kernel
theorem dX3_connect_7 : decode cX3_connect 7 = .ok (.iconst (-1), 1) := by decide +kernel
theorem dX3_connect_8 : decode cX3_connect 8 = .ok (.ireturn, 1) := by decide +kernel
theorem dX3_connect_9 : decode cX3_connect 9 = .ok (.iload_n 2, 1) := by decide +kernel
theorem dX3_connect_10 : decode cX3_connect 10 = .ok (.iconst 1, 1) := by decide +kernel
theorem dX3_connect_11 : decode cX3_connect 11 = .ok (.sipush 999, 3) := by decide +kernel
theorem dX3_connect_14 : decode cX3_connect 14 = .ok (.invokestatic 27, 3) := by decide +kernel
theorem dX3_connect_17 : decode cX3_connect 17 = .ok (.ifCond .eq 36, 3) := by decide +kernel
theorem dX3_connect_20 : decode cX3_connect 20 = .ok (.iload_n 3, 1) := by decide +kernel
theorem dX3_connect_21 : decode cX3_connect 21 = .ok (.iconst 0, 1) := by decide +kernel
theorem dX3_connect_22 : decode cX3_connect 22 = .ok (.bipush 99, 2) := by decide +kernel
theorem dX3_connect_24 : decode cX3_connect 24 = .ok (.invokestatic 27, 3) := by decide +kernel
theorem dX3_connect_27 : decode cX3_connect 27 = .ok (.ifCond .eq 26, 3) := by decide +kernel
theorem dX3_connect_30 : decode cX3_connect 30 = .ok (.iload 4, 2) := by decide +kernel
theorem dX3_connect_32 : decode cX3_connect 32 = .ok (.iconst 0, 1) := by decide +kernel
theorem dX3_connect_33 : decode cX3_connect 33 = .ok (.bipush 60, 2) := by decide +kernel
theorem dX3_connect_35 : decode cX3_connect 35 = .ok (.invokestatic 27, 3) := by decide +kernel
theorem dX3_connect_38 : decode cX3_connect 38 = .ok (.ifCond .eq 15, 3) := by decide +kernel
theorem dX3_connect_41 : decode cX3_connect 41 = .ok (.iload 5, 2) := by decide +kernel
theorem dX3_connect_43 : decode cX3_connect 43 = .ok (.iconst 0, 1) := by decide +kernel
theorem dX3_connect_44 : decode cX3_connect 44 = .ok (.sipush 999, 3) := by decide +kernel
theorem dX3_connect_47 : decode cX3_connect 47 = .ok (.invokestatic 27, 3) := by decide +kernel
theorem dX3_connect_50 : decode cX3_connect 50 = .ok (.ifCond .ne 6, 3) := by decide +kernel
theorem dX3_connect_53 : decode cX3_connect 53 = .ok (.bipush (-2), 2) := by decide +kernel
theorem dX3_connect_55 : decode cX3_connect 55 = .ok (.ireturn, 1) := by decide +kernel
theorem dX3_connect_56 : decode cX3_connect 56 = .ok (.aload_n 0, 1) := by decide +kernel
theorem dX3_connect_57 : decode cX3_connect 57 = .ok (.getfield 10, 3) := by decide +kernel
theorem dX3_connect_60 : decode cX3_connect 60 = .ok (.getfield 62, 3) := by decide +kernel
theorem dX3_connect_63 : decode cX3_connect 63 = .ok (.iload_n 1, 1) := by decide +kernel
theorem dX3_connect_64 : decode cX3_connect 64 = .ok (.aaload, 1) := by decide +kernel
theorem dX3_connect_65 : decode cX3_connect 65 = .ok (.astore 6, 2) := by decide +kernel
theorem dX3_connect_67 : decode cX3_connect 67 = .ok (.aload 6, 2) := by decide +kernel
theorem dX3_connect_69 : decode cX3_connect 69 = .ok (.getfield 78, 3) := by decide +kernel
theorem dX3_connect_72 : decode cX3_connect 72 = .ok (.ifCond .eq 6, 3) := by decide +kernel
theorem dX3_connect_75 : decode cX3_connect 75 = .ok (.bipush (-3), 2) := by decide +kernel
theorem dX3_connect_77 : decode cX3_connect 77 = .ok (.ireturn, 1) := by decide +kernel
theorem dX3_connect_78 : decode cX3_connect 78 = .ok (.iload 4, 2) := by decide +kernel
theorem dX3_connect_80 : decode cX3_connect 80 = .ok (.invokestatic 81, 3) := by decide +kernel
theorem dX3_connect_83 : decode cX3_connect 83 = .ok (.istore 7, 2) := by decide +kernel
theorem dX3_connect_85 : decode cX3_connect 85 = .ok (.aload 6, 2) := by decide +kernel
theorem dX3_connect_87 : decode cX3_connect 87 = .ok (.iconst 1, 1) := by decide +kernel
theorem dX3_connect_88 : decode cX3_connect 88 = .ok (.putfield 78, 3) := by decide +kernel
theorem dX3_connect_91 : decode cX3_connect 91 = .ok (.aload 6, 2) := by decide +kernel
theorem dX3_connect_93 : decode cX3_connect 93 = .ok (.iload_n 2, 1) := by decide +kernel
theorem dX3_connect_94 : decode cX3_connect 94 = .ok (.iload_n 3, 1) := by decide +kernel
theorem dX3_connect_95 : decode cX3_connect 95 = .ok (.invokestatic 85, 3) := by decide +kernel
theorem dX3_connect_98 : decode cX3_connect 98 = .ok (.putfield 89, 3) := by decide +kernel
theorem dX3_connect_101 : decode cX3_connect 101 = .ok (.aload 6, 2) := by decide +kernel
theorem dX3_connect_103 : decode cX3_connect 103 = .ok (.iload 7, 2) := by decide +kernel
theorem dX3_connect_105 : decode cX3_connect 105 = .ok (.putfield 92, 3) := by decide +kernel
theorem dX3_connect_108 : decode cX3_connect 108 = .ok (.aload 6, 2) := by decide +kernel
theorem dX3_connect_110 : decode cX3_connect 110 = .ok (.iload 5, 2) := by decide +kernel
theorem dX3_connect_112 : decode cX3_connect 112 = .ok (.putfield 95, 3) := by decide +kernel
theorem dX3_connect_115 : decode cX3_connect 115 = .ok (.aload 6, 2) := by decide +kernel
theorem dX3_connect_117 : decode cX3_connect 117 = .ok (.iload 7, 2) := by decide +kernel
theorem dX3_connect_119 : decode cX3_connect 119 = .ok (.invokestatic 98, 3) := by decide +kernel
theorem dX3_connect_122 : decode cX3_connect 122 = .ok (.putfield 101, 3) := by decide +kernel
theorem dX3_connect_125 : decode cX3_connect 125 = .ok (.iload 7, 2) := by decide +kernel
theorem dX3_connect_127 : decode cX3_connect 127 = .ok (.ireturn, 1) := by decide +kernel
theorem dX3_disconnect_0 : decode cX3_disconnect 0 = .ok (.iload_n 1, 1) := by decide +kernel
theorem dX3_disconnect_1 : decode cX3_disconnect 1 = .ok (.invokestatic 59, 3) := by decide +kernel
theorem dX3_disconnect_4 : decode cX3_disconnect 4 = .ok (.ifCond .ne 5, 3) := by decide +kernel
theorem dX3_disconnect_7 : decode cX3_disconnect 7 = .ok (.iconst (-1), 1) := by decide +kernel
theorem dX3_disconnect_8 : decode cX3_disconnect 8 = .ok (.ireturn, 1) := by decide +kernel
theorem dX3_disconnect_9 : decode cX3_disconnect 9 = .ok (.aload_n 0, 1) := by decide +kernel
theorem dX3_disconnect_10 : decode cX3_disconnect 10 = .ok (.getfield 10, 3) := by decide +kernel
theorem dX3_disconnect_13 : decode cX3_disconnect 13 = .ok (.getfield 62, 3) := by decide +kernel
theorem dX3_disconnect_16 : decode cX3_disconnect 16 = .ok (.iload_n 1, 1) := by decide +kernel
theorem dX3_disconnect_17 : decode cX3_disconnect 17 = .ok (.aaload, 1) := by decide +kernel
theorem dX3_disconnect_18 : decode cX3_disconnect 18 = .ok (.astore_n 2, 1) := by decide +kernel
theorem dX3_disconnect_19 : decode cX3_disconnect 19 = .ok (.aload_n 2, 1) := by decide +kernel
theorem dX3_disconnect_20 : decode cX3_disconnect 20 = .ok (.getfield 78, 3) := by decide +kernel
theorem dX3_disconnect_23 : decode cX3_disconnect 23 = .ok (.ifCond .ne 6, 3) := by decide +kernel
theorem dX3_disconnect_26 : decode cX3_disconnect 26 = .ok (.bipush (-3), 2) := by decide +kernel
theorem dX3_disconnect_28 : decode cX3_disconnect 28 = .ok (.ireturn, 1) := by decide +kernel
theorem dX3_disconnect_29 : decode cX3_disconnect 29 = .ok (.aload_n 2, 1) := by decide +kernel
theorem dX3_disconnect_30 : decode cX3_disconnect 30 = .ok (.invokevirtual 104, 3) := by decide +kernel
theorem dX3_disconnect_33 : decode cX3_disconnect 33 = .ok (.istore_n 3, 1) := by decide +kernel
theorem dX3_disconnect_34 : decode cX3_disconnect 34 = .ok (.aload_n 2, 1) := by decide +kernel
theorem dX3_disconnect_35 : decode cX3_disconnect 35 = .ok (.iconst 0, 1) := by decide +kernel
theorem dX3_disconnect_36 : decode cX3_disconnect 36 = .ok (.putfield 78, 3) := by decide +kernel
theorem dX3_disconnect_39 : decode cX3_disconnect 39 = .ok (.aload_n 2, 1) := by decide +kernel
theorem dX3_disconnect_40 : decode cX3_disconnect 40 = .ok (.invokevirtual 72, 3) := by decide +kernel
theorem dX3_disconnect_43 : decode cX3_disconnect 43 = .ok (.iload_n 3, 1) := by decide +kernel
theorem dX3_disconnect_44 : decode cX3_disconnect 44 = .ok (.ifCond .eq 7, 3) := by decide +kernel
theorem dX3_disconnect_47 : decode cX3_disconnect 47 = .ok (.iconst 1, 1) := by decide +kernel
theorem dX3_disconnect_48 : decode cX3_disconnect 48 = .ok (.goto 4, 3) := by decide +kernel
theorem dX3_disconnect_51 : decode cX3_disconnect 51 = .ok (.iconst 0, 1) := by decide +kernel
theorem dX3_disconnect_52 : decode cX3_disconnect 52 = .ok (.ireturn, 1) := by decide +kernel
theorem dX3_setLoad_0 : decode cX3_setLoad 0 = .ok (.iload_n 1, 1) := by decide +kernel
theorem dX3_setLoad_1 : decode cX3_setLoad 1 = .ok (.invokestatic 59, 3) := by decide +kernel
theorem dX3_setLoad_4 : decode cX3_setLoad 4 = .ok (.ifCond .ne 5, 3) := by decide +kernel
theorem dX3_setLoad_7 : decode cX3_setLoad 7 = .ok (.iconst (-1), 1) := by decide +kernel
theorem dX3_setLoad_8 : decode cX3_setLoad 8 = .ok (.ireturn, 1) := by decide +kernel
theorem dX3_setLoad_9 : decode cX3_setLoad 9 = .ok (.iload_n 2, 1) := by decide +kernel
theorem dX3_setLoad_10 : decode cX3_setLoad 10 = .ok (.iconst 0, 1) := by decide +kernel
theorem dX3_setLoad_11 : decode cX3_setLoad 11 = .ok (.sipush 999, 3) := by decide +kernel
theorem dX3_setLoad_14 : decode cX3_setLoad 14 = .ok (.invokestatic 27, 3) := by decide +kernel
theorem dX3_setLoad_17 : decode cX3_setLoad 17 = .ok (.ifCond .ne 6, 3) := by decide +kernel
theorem dX3_setLoad_20 : decode cX3_setLoad 20 = .ok (.bipush (-2), 2) := by decide +kernel
theorem dX3_setLoad_22 : decode cX3_setLoad 22 = .ok (.ireturn, 1) := by decide +kernel
theorem dX3_setLoad_23 : decode cX3_setLoad 23 = .ok (.aload_n 0, 1) := by decide +kernel
theorem dX3_setLoad_24 : decode cX3_setLoad 24 = .ok (.getfield 10, 3) := by decide +kernel
theorem dX3_setLoad_27 : decode cX3_setLoad 27 = .ok (.getfield 62, 3) := by decide +kernel
theorem dX3_setLoad_30 : decode cX3_setLoad 30 = .ok (.iload_n 1, 1) := by decide +kernel
theorem dX3_setLoad_31 : decode cX3_setLoad 31 = .ok (.aaload, 1) := by decide +kernel
theorem dX3_setLoad_32 : decode cX3_setLoad 32 = .ok (.astore_n 3, 1) := by decide +kernel
theorem dX3_setLoad_33 : decode cX3_setLoad 33 = .ok (.aload_n 3, 1) := by decide +kernel
theorem dX3_setLoad_34 : decode cX3_setLoad 34 = .ok (.getfield 78, 3) := by decide +kernel
theorem dX3_setLoad_37 : decode cX3_setLoad 37 = .ok (.ifCond .ne 6, 3) := by decide +kernel
theorem dX3_setLoad_40 : decode cX3_setLoad 40 = .ok (.bipush (-3), 2) := by decide +kernel
theorem dX3_setLoad_42 : decode cX3_setLoad 42 = .ok (.ireturn, 1) := by decide +kernel
theorem dX3_setLoad_43 : decode cX3_setLoad 43 = .ok (.aload_n 3, 1) := by decide +kernel
theorem dX3_setLoad_44 : decode cX3_setLoad 44 = .ok (.getfield 95, 3) := by decide +kernel
theorem dX3_setLoad_47 : decode cX3_setLoad 47 = .ok (.istore 4, 2) := by decide +kernel
theorem dX3_setLoad_49 : decode cX3_setLoad 49 = .ok (.aload_n 3, 1) := by decide +kernel
theorem dX3_setLoad_50 : decode cX3_setLoad 50 = .ok (.iload_n 2, 1) := by decide +kernel
theorem dX3_setLoad_51 : decode cX3_setLoad 51 = .ok (.putfield 95, 3) := by decide +kernel
theorem dX3_setLoad_54 : decode cX3_setLoad 54 = .ok (.iload 4, 2) := by decide +kernel
theorem dX3_setLoad_56 : decode cX3_setLoad 56 = .ok (.ireturn, 1) := by decide +kernel
theorem dX3_setRequest_0 : decode cX3_setRequest 0 = .ok (.iload_n 1, 1) := by decide +kernel
theorem dX3_setRequest_1 : decode cX3_setRequest 1 = .ok (.invokestatic 59, 3) := by decide +kernel
theorem dX3_setRequest_4 : decode cX3_setRequest 4 = .ok (.ifCond .ne 5, 3) := by decide +kernel
theorem dX3_setRequest_7 : decode cX3_setRequest 7 = .ok (.iconst (-1), 1) := by decide +kernel
theorem dX3_setRequest_8 : decode cX3_setRequest 8 = .ok (.ireturn, 1) := by decide +kernel
theorem dX3_setRequest_9 : decode cX3_setRequest 9 = .ok (.aload_n 0, 1) := by decide +kernel
theorem dX3_setRequest_10 : decode cX3_setRequest 10 = .ok (.getfield 10, 3) := by decide +kernel
theorem dX3_setRequest_13 : decode cX3_setRequest 13 = .ok (.getfield 62, 3) := by decide +kernel
theorem dX3_setRequest_16 : decode cX3_setRequest 16 = .ok (.iload_n 1, 1) := by decide +kernel
theorem dX3_setRequest_17 : decode cX3_setRequest 17 = .ok (.aaload, 1) := by decide +kernel
theorem dX3_setRequest_18 : decode cX3_setRequest 18 = .ok (.astore_n 3, 1) := by decide +kernel
theorem dX3_setRequest_19 : decode cX3_setRequest 19 = .ok (.aload_n 3, 1) := by decide +kernel
theorem dX3_setRequest_20 : decode cX3_setRequest 20 = .ok (.invokevirtual 108, 3) := by decide +kernel
theorem dX3_setRequest_23 : decode cX3_setRequest 23 = .ok (.ifCond .ne 6, 3) := by decide +kernel
theorem dX3_setRequest_26 : decode cX3_setRequest 26 = .ok (.bipush (-3), 2) := by decide +kernel
theorem dX3_setRequest_28 : decode cX3_setRequest 28 = .ok (.ireturn, 1) := by decide +kernel
theorem dX3_setRequest_29 : decode cX3_setRequest 29 = .ok (.iload_n 2, 1) := by decide +kernel
theorem dX3_setRequest_30 : decode cX3_setRequest 30 = .ok (.iconst 1, 1) := by decide +kernel
theorem dX3_setRequest_31 : decode cX3_setRequest 31 = .ok (.aload_n 3, 1) := by decide +kernel
theorem dX3_setRequest_32 : decode cX3_setRequest 32 = .ok (.getfield 92, 3) := by decide +kernel
theorem dX3_setRequest_35 : decode cX3_setRequest 35 = .ok (.invokestatic 98, 3) := by decide +kernel
theorem dX3_setRequest_38 : decode cX3_setRequest 38 = .ok (.invokestatic 27, 3) := by decide +kernel
theorem dX3_setRequest_41 : decode cX3_setRequest 41 = .ok (.ifCond .ne 6, 3) := by decide +kernel
theorem dX3_setRequest_44 : decode cX3_setRequest 44 = .ok (.bipush (-2), 2) := by decide +kernel
theorem dX3_setRequest_46 : decode cX3_setRequest 46 = .ok (.ireturn, 1) := by decide +kernel
theorem dX3_setRequest_47 : decode cX3_setRequest 47 = .ok (.aload_n 3, 1) := by decide +kernel
theorem dX3_setRequest_48 : decode cX3_setRequest 48 = .ok (.invokevirtual 104, 3) := by decide +kernel
theorem dX3_setRequest_51 : decode cX3_setRequest 51 = .ok (.ifCond .eq 36, 3) := by decide +kernel
theorem dX3_setRequest_54 : decode cX3_setRequest 54 = .ok (.iload_n 2, 1) := by decide +kernel
theorem dX3_setRequest_55 : decode cX3_setRequest 55 = .ok (.aload_n 3, 1) := by decide +kernel
theorem dX3_setRequest_56 : decode cX3_setRequest 56 = .ok (.getfield 111, 3) := by decide +kernel
theorem dX3_setRequest_59 : decode cX3_setRequest 59 = .ok (.isub, 1) := by decide +kernel
theorem dX3_setRequest_60 : decode cX3_setRequest 60 = .ok (.istore 4, 2) := by decide +kernel
theorem dX3_setRequest_62 : decode cX3_setRequest 62 = .ok (.iload 4, 2) := by decide +kernel
theorem dX3_setRequest_64 : decode cX3_setRequest 64 = .ok (.ifCond .le 18, 3) := by decide +kernel
theorem dX3_setRequest_67 : decode cX3_setRequest 67 = .ok (.iload 4, 2) := by decide +kernel
theorem dX3_setRequest_69 : decode cX3_setRequest 69 = .ok (.aload_n 0, 1) := by decide +kernel
theorem dX3_setRequest_70 : decode cX3_setRequest 70 = .ok (.getfield 10, 3) := by decide +kernel
theorem dX3_setRequest_73 : decode cX3_setRequest 73 = .ok (.invokevirtual 56, 3) := by decide +kernel
theorem dX3_setRequest_76 : decode cX3_setRequest 76 = .ok (.if_icmp .le 6, 3) := by decide +kernel
theorem dX3_setRequest_79 : decode cX3_setRequest 79 = .ok (.bipush (-5), 2) := by decide +kernel
theorem dX3_setRequest_81 : decode cX3_setRequest 81 = .ok (.ireturn, 1) := by decide +kernel
theorem dX3_setRequest_82 : decode cX3_setRequest 82 = .ok (.aload_n 3, 1) := by decide +kernel
theorem dX3_setRequest_83 : decode cX3_setRequest 83 = .ok (.iload_n 2, 1) := by decide +kernel
theorem dX3_setRequest_84 : decode cX3_setRequest 84 = .ok (.putfield 111, 3) := by decide +kernel
theorem dX3_setRequest_87 : decode cX3_setRequest 87 = .ok (.aload_n 3, 1) := by decide +kernel
theorem dX3_setRequest_88 : decode cX3_setRequest 88 = .ok (.getfield 101, 3) := by decide +kernel
theorem dX3_setRequest_91 : decode cX3_setRequest 91 = .ok (.istore 4, 2) := by decide +kernel
theorem dX3_setRequest_93 : decode cX3_setRequest 93 = .ok (.aload_n 3, 1) := by decide +kernel
theorem dX3_setRequest_94 : decode cX3_setRequest 94 = .ok (.iload_n 2, 1) := by decide +kernel
theorem dX3_setRequest_95 : decode cX3_setRequest 95 = .ok (.putfield 101, 3) := by decide +kernel
theorem dX3_setRequest_98 : decode cX3_setRequest 98 = .ok (.iload 4, 2) := by decide +kernel
theorem dX3_setRequest_100 : decode cX3_setRequest 100 = .ok (.ireturn, 1) := by decide +kernel
theorem dX3_request_0 : decode cX3_request 0 = .ok (.iload_n 1, 1) := by decide +kernel
theorem dX3_request_1 : decode cX3_request 1 = .ok (.invokestatic 59, 3) := by decide +kernel
theorem dX3_request_4 : decode cX3_request 4 = .ok (.ifCond .ne 5, 3) := by decide +kernel
theorem dX3_request_7 : decode cX3_request 7 = .ok (.iconst (-1), 1) := by decide +kernel
theorem dX3_request_8 : decode cX3_request 8 = .ok (.ireturn, 1) := by decide +kernel
theorem dX3_request_9 : decode cX3_request 9 = .ok (.aload_n 0, 1) := by decide +kernel
theorem dX3_request_10 : decode cX3_request 10 = .ok (.getfield 10, 3) := by decide +kernel
theorem dX3_request_13 : decode cX3_request 13 = .ok (.getfield 62, 3) := by decide +kernel
theorem dX3_request_16 : decode cX3_request 16 = .ok (.iload_n 1, 1) := by decide +kernel
theorem dX3_request_17 : decode cX3_request 17 = .ok (.aaload, 1) := by decide +kernel
theorem dX3_request_18 : decode cX3_request 18 = .ok (.astore_n 2, 1) := by decide +kernel
theorem dX3_request_19 : decode cX3_request 19 = .ok (.aload_n 2, 1) := by decide +kernel
theorem dX3_request_20 : decode cX3_request 20 = .ok (.invokevirtual 108, 3) := by decide +kernel
theorem dX3_request_23 : decode cX3_request 23 = .ok (.ifCond .eq 10, 3) := by decide +kernel
theorem dX3_request_26 : decode cX3_request 26 = .ok (.aload_n 2, 1) := by decide +kernel
theorem dX3_request_27 : decode cX3_request 27 = .ok (.getfield 101, 3) := by decide +kernel
theorem dX3_request_30 : decode cX3_request 30 = .ok (.goto 5, 3) := by decide +kernel
theorem dX3_request_33 : decode cX3_request 33 = .ok (.bipush (-6), 2) := by decide +kernel
theorem dX3_request_35 : decode cX3_request 35 = .ok (.ireturn, 1) := by decide +kernel
theorem dX3_eligiblePorts_0 : decode cX3_eligiblePorts 0 = .ok (.aload_n 0, 1) := by decide +kernel
theorem dX3_eligiblePorts_1 : decode cX3_eligiblePorts 1 = .ok (.getfield 10, 3) := by decide +kernel
theorem dX3_eligiblePorts_4 : decode cX3_eligiblePorts 4 = .ok (.invokevirtual 114, 3) := by decide +kernel
theorem dX3_eligiblePorts_7 : decode cX3_eligiblePorts 7 = .ok (.ireturn, 1) := by decide +kernel
theorem dX3_poweredPorts_0 : decode cX3_poweredPorts 0 = .ok (.aload_n 0, 1) := by decide +kernel
theorem dX3_poweredPorts_1 : decode cX3_poweredPorts 1 = .ok (.getfield 10, 3) := by decide +kernel
theorem dX3_poweredPorts_4 : decode cX3_poweredPorts 4 = .ok (.invokevirtual 117, 3) := by decide +kernel
theorem dX3_poweredPorts_7 : decode cX3_poweredPorts 7 = .ok (.ireturn, 1) := by decide +kernel
theorem dX3_grant_0 : decode cX3_grant 0 = .ok (.iload_n 1, 1) := by decide +kernel
theorem dX3_grant_1 : decode cX3_grant 1 = .ok (.invokestatic 59, 3) := by decide +kernel
theorem dX3_grant_4 : decode cX3_grant 4 = .ok (.ifCond .eq 18, 3) := by decide +kernel
theorem dX3_grant_7 : decode cX3_grant 7 = .ok (.aload_n 0, 1) := by decide +kernel
theorem dX3_grant_8 : decode cX3_grant 8 = .ok (.getfield 10, 3) := by decide +kernel
theorem dX3_grant_11 : decode cX3_grant 11 = .ok (.getfield 62, 3) := by decide +kernel
theorem dX3_grant_14 : decode cX3_grant 14 = .ok (.iload_n 1, 1) := by decide +kernel
theorem dX3_grant_15 : decode cX3_grant 15 = .ok (.aaload, 1) := by decide +kernel
theorem dX3_grant_16 : decode cX3_grant 16 = .ok (.getfield 111, 3) := by decide +kernel
theorem dX3_grant_19 : decode cX3_grant 19 = .ok (.goto 4, 3) := by decide +kernel
theorem dX3_grant_22 : decode cX3_grant 22 = .ok (.iconst (-1), 1) := by decide +kernel
theorem dX3_grant_23 : decode cX3_grant 23 = .ok (.ireturn, 1) := by decide +kernel
theorem dX3_overload_0 : decode cX3_overload 0 = .ok (.iload_n 1, 1) := by decide +kernel
theorem dX3_overload_1 : decode cX3_overload 1 = .ok (.invokestatic 59, 3) := by decide +kernel
theorem dX3_overload_4 : decode cX3_overload 4 = .ok (.ifCond .eq 18, 3) := by decide +kernel
theorem dX3_overload_7 : decode cX3_overload 7 = .ok (.aload_n 0, 1) := by decide +kernel
theorem dX3_overload_8 : decode cX3_overload 8 = .ok (.getfield 10, 3) := by decide +kernel
theorem dX3_overload_11 : decode cX3_overload 11 = .ok (.getfield 62, 3) := by decide +kernel
theorem dX3_overload_14 : decode cX3_overload 14 = .ok (.iload_n 1, 1) := by decide +kernel
theorem dX3_overload_15 : decode cX3_overload 15 = .ok (.aaload, 1) := by decide +kernel
theorem dX3_overload_16 : decode cX3_overload 16 = .ok (.getfield 120, 3) := by decide +kernel
theorem dX3_overload_19 : decode cX3_overload 19 = .ok (.goto 4, 3) := by decide +kernel
theorem dX3_overload_22 : decode cX3_overload 22 = .ok (.iconst (-1), 1) := by decide +kernel
theorem dX3_overload_23 : decode cX3_overload 23 = .ok (.ireturn, 1) := by decide +kernel
theorem dX3_cooldown_0 : decode cX3_cooldown 0 = .ok (.iload_n 1, 1) := by decide +kernel
theorem dX3_cooldown_1 : decode cX3_cooldown 1 = .ok (.invokestatic 59, 3) := by decide +kernel
theorem dX3_cooldown_4 : decode cX3_cooldown 4 = .ok (.ifCond .eq 18, 3) := by decide +kernel
theorem dX3_cooldown_7 : decode cX3_cooldown 7 = .ok (.aload_n 0, 1) := by decide +kernel
theorem dX3_cooldown_8 : decode cX3_cooldown 8 = .ok (.getfield 10, 3) := by decide +kernel
theorem dX3_cooldown_11 : decode cX3_cooldown 11 = .ok (.getfield 62, 3) := by decide +kernel
theorem dX3_cooldown_14 : decode cX3_cooldown 14 = .ok (.iload_n 1, 1) := by decide +kernel
theorem dX3_cooldown_15 : decode cX3_cooldown 15 = .ok (.aaload, 1) := by decide +kernel
theorem dX3_cooldown_16 : decode cX3_cooldown 16 = .ok (.getfield 123, 3) := by decide +kernel
theorem dX3_cooldown_19 : decode cX3_cooldown 19 = .ok (.goto 4, 3) := by decide +kernel
theorem dX3_cooldown_22 : decode cX3_cooldown 22 = .ok (.iconst (-1), 1) := by decide +kernel
theorem dX3_cooldown_23 : decode cX3_cooldown 23 = .ok (.ireturn, 1) := by decide +kernel
theorem dX3_advance_0 : decode cX3_advance 0 = .ok (.iload_n 1, 1) := by decide +kernel
theorem dX3_advance_1 : decode cX3_advance 1 = .ok (.iconst 1, 1) := by decide +kernel
theorem dX3_advance_2 : decode cX3_advance 2 = .ok (.bipush 60, 2) := by decide +kernel
theorem dX3_advance_4 : decode cX3_advance 4 = .ok (.invokestatic 27, 3) := by decide +kernel
theorem dX3_advance_7 : decode cX3_advance 7 = .ok (.ifCond .ne 6, 3) := by decide +kernel
theorem dX3_advance_10 : decode cX3_advance 10 = .ok (.bipush (-2), 2) := by decide +kernel
theorem dX3_advance_12 : decode cX3_advance 12 = .ok (.ireturn, 1) := by decide +kernel
theorem dX3_advance_13 : decode cX3_advance 13 = .ok (.iconst 0, 1) := by decide +kernel
theorem dX3_advance_14 : decode cX3_advance 14 = .ok (.istore_n 2, 1) := by decide +kernel
theorem dX3_advance_15 : decode cX3_advance 15 = .ok (.iconst 0, 1) := by decide +kernel
theorem dX3_advance_16 : decode cX3_advance 16 = .ok (.istore_n 3, 1) := by decide +kernel
theorem dX3_advance_17 : decode cX3_advance 17 = .ok (.iload_n 3, 1) := by decide +kernel
theorem dX3_advance_18 : decode cX3_advance 18 = .ok (.iload_n 1, 1) := by decide +kernel
theorem dX3_advance_19 : decode cX3_advance 19 = .ok (.if_icmp .ge 19, 3) := by decide +kernel
theorem dX3_advance_22 : decode cX3_advance 22 = .ok (.iload_n 2, 1) := by decide +kernel
theorem dX3_advance_23 : decode cX3_advance 23 = .ok (.aload_n 0, 1) := by decide +kernel
theorem dX3_advance_24 : decode cX3_advance 24 = .ok (.getfield 10, 3) := by decide +kernel
theorem dX3_advance_27 : decode cX3_advance 27 = .ok (.invokevirtual 126, 3) := by decide +kernel
theorem dX3_advance_30 : decode cX3_advance 30 = .ok (.iadd, 1) := by decide +kernel
theorem dX3_advance_31 : decode cX3_advance 31 = .ok (.istore_n 2, 1) := by decide +kernel
theorem dX3_advance_32 : decode cX3_advance 32 = .ok (.iinc 3 1, 3) := by decide +kernel
theorem dX3_advance_35 : decode cX3_advance 35 = .ok (.goto (-18), 3) := by decide +kernel
theorem dX3_advance_38 : decode cX3_advance 38 = .ok (.iload_n 2, 1) := by decide +kernel
theorem dX3_advance_39 : decode cX3_advance 39 = .ok (.ireturn, 1) := by decide +kernel
theorem dX3_clock_0 : decode cX3_clock 0 = .ok (.aload_n 0, 1) := by decide +kernel
theorem dX3_clock_1 : decode cX3_clock 1 = .ok (.getfield 10, 3) := by decide +kernel
theorem dX3_clock_4 : decode cX3_clock 4 = .ok (.getfield 129, 3) := by decide +kernel
theorem dX3_clock_7 : decode cX3_clock 7 = .ok (.ireturn, 1) := by decide +kernel
theorem dX3_eventCount_0 : decode cX3_eventCount 0 = .ok (.aload_n 0, 1) := by decide +kernel
theorem dX3_eventCount_1 : decode cX3_eventCount 1 = .ok (.getfield 10, 3) := by decide +kernel
theorem dX3_eventCount_4 : decode cX3_eventCount 4 = .ok (.getfield 132, 3) := by decide +kernel
theorem dX3_eventCount_7 : decode cX3_eventCount 7 = .ok (.getfield 136, 3) := by decide +kernel
theorem dX3_eventCount_10 : decode cX3_eventCount 10 = .ok (.ireturn, 1) := by decide +kernel
theorem dX3_eventTime_0 : decode cX3_eventTime 0 = .ok (.aload_n 0, 1) := by decide +kernel
theorem dX3_eventTime_1 : decode cX3_eventTime 1 = .ok (.getfield 10, 3) := by decide +kernel
theorem dX3_eventTime_4 : decode cX3_eventTime 4 = .ok (.getfield 132, 3) := by decide +kernel
theorem dX3_eventTime_7 : decode cX3_eventTime 7 = .ok (.astore_n 2, 1) := by decide +kernel
theorem dX3_eventTime_8 : decode cX3_eventTime 8 = .ok (.aload_n 2, 1) := by decide +kernel
theorem dX3_eventTime_9 : decode cX3_eventTime 9 = .ok (.iload_n 1, 1) := by decide +kernel
theorem dX3_eventTime_10 : decode cX3_eventTime 10 = .ok (.invokevirtual 141, 3) := by decide +kernel
theorem dX3_eventTime_13 : decode cX3_eventTime 13 = .ok (.ifCond .eq 16, 3) := by decide +kernel
theorem dX3_eventTime_16 : decode cX3_eventTime 16 = .ok (.aload_n 2, 1) := by decide +kernel
theorem dX3_eventTime_17 : decode cX3_eventTime 17 = .ok (.getfield 144, 3) := by decide +kernel
theorem dX3_eventTime_20 : decode cX3_eventTime 20 = .ok (.aload_n 2, 1) := by decide +kernel
theorem dX3_eventTime_21 : decode cX3_eventTime 21 = .ok (.iload_n 1, 1) := by decide +kernel
theorem dX3_eventTime_22 : decode cX3_eventTime 22 = .ok (.invokevirtual 147, 3) := by decide +kernel
theorem dX3_eventTime_25 : decode cX3_eventTime 25 = .ok (.iaload, 1) := by decide +kernel
theorem dX3_eventTime_26 : decode cX3_eventTime 26 = .ok (.goto 4, 3) := by decide +kernel
theorem dX3_eventTime_29 : decode cX3_eventTime 29 = .ok (.iconst (-1), 1) := by decide +kernel
theorem dX3_eventTime_30 : decode cX3_eventTime 30 = .ok (.ireturn, 1) := by decide +kernel
theorem dX3_eventPort_0 : decode cX3_eventPort 0 = .ok (.aload_n 0, 1) := by decide +kernel
theorem dX3_eventPort_1 : decode cX3_eventPort 1 = .ok (.getfield 10, 3) := by decide +kernel
theorem dX3_eventPort_4 : decode cX3_eventPort 4 = .ok (.getfield 132, 3) := by decide +kernel
theorem dX3_eventPort_7 : decode cX3_eventPort 7 = .ok (.astore_n 2, 1) := by decide +kernel
theorem dX3_eventPort_8 : decode cX3_eventPort 8 = .ok (.aload_n 2, 1) := by decide +kernel
theorem dX3_eventPort_9 : decode cX3_eventPort 9 = .ok (.iload_n 1, 1) := by decide +kernel
theorem dX3_eventPort_10 : decode cX3_eventPort 10 = .ok (.invokevirtual 141, 3) := by decide +kernel
theorem dX3_eventPort_13 : decode cX3_eventPort 13 = .ok (.ifCond .eq 16, 3) := by decide +kernel
theorem dX3_eventPort_16 : decode cX3_eventPort 16 = .ok (.aload_n 2, 1) := by decide +kernel
theorem dX3_eventPort_17 : decode cX3_eventPort 17 = .ok (.getfield 150, 3) := by decide +kernel
theorem dX3_eventPort_20 : decode cX3_eventPort 20 = .ok (.aload_n 2, 1) := by decide +kernel
theorem dX3_eventPort_21 : decode cX3_eventPort 21 = .ok (.iload_n 1, 1) := by decide +kernel
theorem dX3_eventPort_22 : decode cX3_eventPort 22 = .ok (.invokevirtual 147, 3) := by decide +kernel
theorem dX3_eventPort_25 : decode cX3_eventPort 25 = .ok (.iaload, 1) := by decide +kernel
theorem dX3_eventPort_26 : decode cX3_eventPort 26 = .ok (.goto 4, 3) := by decide +kernel
theorem dX3_eventPort_29 : decode cX3_eventPort 29 = .ok (.iconst (-1), 1) := by decide +kernel
theorem dX3_eventPort_30 : decode cX3_eventPort 30 = .ok (.ireturn, 1) := by decide +kernel
theorem dX3_eventKind_0 : decode cX3_eventKind 0 = .ok (.aload_n 0, 1) := by decide +kernel
theorem dX3_eventKind_1 : decode cX3_eventKind 1 = .ok (.getfield 10, 3) := by decide +kernel
theorem dX3_eventKind_4 : decode cX3_eventKind 4 = .ok (.getfield 132, 3) := by decide +kernel
theorem dX3_eventKind_7 : decode cX3_eventKind 7 = .ok (.astore_n 2, 1) := by decide +kernel
theorem dX3_eventKind_8 : decode cX3_eventKind 8 = .ok (.aload_n 2, 1) := by decide +kernel
theorem dX3_eventKind_9 : decode cX3_eventKind 9 = .ok (.iload_n 1, 1) := by decide +kernel
theorem dX3_eventKind_10 : decode cX3_eventKind 10 = .ok (.invokevirtual 141, 3) := by decide +kernel
theorem dX3_eventKind_13 : decode cX3_eventKind 13 = .ok (.ifCond .eq 16, 3) := by decide +kernel
theorem dX3_eventKind_16 : decode cX3_eventKind 16 = .ok (.aload_n 2, 1) := by decide +kernel
theorem dX3_eventKind_17 : decode cX3_eventKind 17 = .ok (.getfield 152, 3) := by decide +kernel
theorem dX3_eventKind_20 : decode cX3_eventKind 20 = .ok (.aload_n 2, 1) := by decide +kernel
theorem dX3_eventKind_21 : decode cX3_eventKind 21 = .ok (.iload_n 1, 1) := by decide +kernel
theorem dX3_eventKind_22 : decode cX3_eventKind 22 = .ok (.invokevirtual 147, 3) := by decide +kernel
theorem dX3_eventKind_25 : decode cX3_eventKind 25 = .ok (.iaload, 1) := by decide +kernel
theorem dX3_eventKind_26 : decode cX3_eventKind 26 = .ok (.goto 4, 3) := by decide +kernel
theorem dX3_eventKind_29 : decode cX3_eventKind 29 = .ok (.iconst (-1), 1) := by decide +kernel
theorem dX3_eventKind_30 : decode cX3_eventKind 30 = .ok (.ireturn, 1) := by decide +kernel
theorem dX3_shedIfFails_0 : decode cX3_shedIfFails 0 = .ok (.iload_n 1, 1) := by decide +kernel
theorem dX3_shedIfFails_1 : decode cX3_shedIfFails 1 = .ok (.invokestatic 23, 3) := by decide +kernel
theorem dX3_shedIfFails_4 : decode cX3_shedIfFails 4 = .ok (.ifCond .ne 5, 3) := by decide +kernel
theorem dX3_shedIfFails_7 : decode cX3_shedIfFails 7 = .ok (.iconst (-1), 1) := by decide +kernel
theorem dX3_shedIfFails_8 : decode cX3_shedIfFails 8 = .ok (.ireturn, 1) := by decide +kernel
theorem dX3_shedIfFails_9 : decode cX3_shedIfFails 9 = .ok (.aload_n 0, 1) := by decide +kernel
theorem dX3_shedIfFails_10 : decode cX3_shedIfFails 10 = .ok (.getfield 16, 3) := by decide +kernel
theorem dX3_shedIfFails_13 : decode cX3_shedIfFails 13 = .ok (.aload_n 0, 1) := by decide +kernel
theorem dX3_shedIfFails_14 : decode cX3_shedIfFails 14 = .ok (.getfield 10, 3) := by decide +kernel
theorem dX3_shedIfFails_17 : decode cX3_shedIfFails 17 = .ok (.invokevirtual 155, 3) := by decide +kernel
theorem dX3_shedIfFails_20 : decode cX3_shedIfFails 20 = .ok (.aload_n 0, 1) := by decide +kernel
theorem dX3_shedIfFails_21 : decode cX3_shedIfFails 21 = .ok (.getfield 16, 3) := by decide +kernel
theorem dX3_shedIfFails_24 : decode cX3_shedIfFails 24 = .ok (.getfield 35, 3) := by decide +kernel
theorem dX3_shedIfFails_27 : decode cX3_shedIfFails 27 = .ok (.iload_n 1, 1) := by decide +kernel
theorem dX3_shedIfFails_28 : decode cX3_shedIfFails 28 = .ok (.iconst 0, 1) := by decide +kernel
theorem dX3_shedIfFails_29 : decode cX3_shedIfFails 29 = .ok (.bastore, 1) := by decide +kernel
theorem dX3_shedIfFails_30 : decode cX3_shedIfFails 30 = .ok (.aload_n 0, 1) := by decide +kernel
theorem dX3_shedIfFails_31 : decode cX3_shedIfFails 31 = .ok (.getfield 16, 3) := by decide +kernel
theorem dX3_shedIfFails_34 : decode cX3_shedIfFails 34 = .ok (.invokevirtual 159, 3) := by decide +kernel
theorem dX3_shedIfFails_37 : decode cX3_shedIfFails 37 = .ok (.ireturn, 1) := by decide +kernel
theorem dX3_fittingPorts_0 : decode cX3_fittingPorts 0 = .ok (.aload_n 0, 1) := by decide +kernel
theorem dX3_fittingPorts_1 : decode cX3_fittingPorts 1 = .ok (.getfield 10, 3) := by decide +kernel
theorem dX3_fittingPorts_4 : decode cX3_fittingPorts 4 = .ok (.invokevirtual 162, 3) := by decide +kernel
theorem dX3_fittingPorts_7 : decode cX3_fittingPorts 7 = .ok (.ireturn, 1) := by decide +kernel
theorem dX3_secondsToStable_0 : decode cX3_secondsToStable 0 = .ok (.aload_n 0, 1) := by decide +kernel
theorem dX3_secondsToStable_1 : decode cX3_secondsToStable 1 = .ok (.invokevirtual 165, 3) := by decide +kernel
theorem dX3_secondsToStable_4 : decode cX3_secondsToStable 4 = .ok (.ireturn, 1) := by decide +kernel
theorem dX3_stablePorts_0 : decode cX3_stablePorts 0 = .ok (.aload_n 0, 1) := by decide +kernel
theorem dX3_stablePorts_1 : decode cX3_stablePorts 1 = .ok (.invokevirtual 165, 3) := by decide +kernel
theorem dX3_stablePorts_4 : decode cX3_stablePorts 4 = .ok (.bipush (-6), 2) := by decide +kernel
theorem dX3_stablePorts_6 : decode cX3_stablePorts 6 = .ok (.if_icmp .ne 8, 3) := by decide +kernel
theorem dX3_stablePorts_9 : decode cX3_stablePorts 9 = .ok (.bipush (-6), 2) := by decide +kernel
theorem dX3_stablePorts_11 : decode cX3_stablePorts 11 = .ok (.goto 10, 3) := by decide +kernel
theorem dX3_stablePorts_14 : decode cX3_stablePorts 14 = .ok (.aload_n 0, 1) := by decide +kernel
theorem dX3_stablePorts_15 : decode cX3_stablePorts 15 = .ok (.getfield 16, 3) := by decide +kernel
theorem dX3_stablePorts_18 : decode cX3_stablePorts 18 = .ok (.invokevirtual 117, 3) := by decide +kernel
theorem dX3_stablePorts_21 : decode cX3_stablePorts 21 = .ok (.ireturn, 1) := by decide +kernel
theorem dX3_save_0 : decode cX3_save 0 = .ok (.iload_n 1, 1) := by decide +kernel
theorem dX3_save_1 : decode cX3_save 1 = .ok (.invokestatic 168, 3) := by decide +kernel
theorem dX3_save_4 : decode cX3_save 4 = .ok (.ifCond .ne 5, 3) := by decide +kernel
theorem dX3_save_7 : decode cX3_save 7 = .ok (.iconst (-1), 1) := by decide +kernel
theorem dX3_save_8 : decode cX3_save 8 = .ok (.ireturn, 1) := by decide +kernel
theorem dX3_save_9 : decode cX3_save 9 = .ok (.aload_n 0, 1) := by decide +kernel
theorem dX3_save_10 : decode cX3_save 10 = .ok (.getfield 19, 3) := by decide +kernel
theorem dX3_save_13 : decode cX3_save 13 = .ok (.iload_n 1, 1) := by decide +kernel
theorem dX3_save_14 : decode cX3_save 14 = .ok (.aaload, 1) := by decide +kernel
theorem dX3_save_15 : decode cX3_save 15 = .ok (.astore_n 2, 1) := by decide +kernel
theorem dX3_save_16 : decode cX3_save 16 = .ok (.aload_n 2, 1) := by decide +kernel
theorem dX3_save_17 : decode cX3_save 17 = .ok (.ifnonnull 18, 3) := by decide +kernel
theorem dX3_save_20 : decode cX3_save 20 = .ok (.new 7, 3) := by decide +kernel
theorem dX3_save_23 : decode cX3_save 23 = .ok (.dup, 1) := by decide +kernel
theorem dX3_save_24 : decode cX3_save 24 = .ok (.invokespecial 9, 3) := by decide +kernel
theorem dX3_save_27 : decode cX3_save 27 = .ok (.astore_n 2, 1) := by decide +kernel
theorem dX3_save_28 : decode cX3_save 28 = .ok (.aload_n 0, 1) := by decide +kernel
theorem dX3_save_29 : decode cX3_save 29 = .ok (.getfield 19, 3) := by decide +kernel
theorem dX3_save_32 : decode cX3_save 32 = .ok (.iload_n 1, 1) := by decide +kernel
theorem dX3_save_33 : decode cX3_save 33 = .ok (.aload_n 2, 1) := by decide +kernel
theorem dX3_save_34 : decode cX3_save 34 = .ok (.aastore, 1) := by decide +kernel
theorem dX3_save_35 : decode cX3_save 35 = .ok (.aload_n 2, 1) := by decide +kernel
theorem dX3_save_36 : decode cX3_save 36 = .ok (.aload_n 0, 1) := by decide +kernel
theorem dX3_save_37 : decode cX3_save 37 = .ok (.getfield 10, 3) := by decide +kernel
theorem dX3_save_40 : decode cX3_save 40 = .ok (.invokevirtual 155, 3) := by decide +kernel
theorem dX3_save_43 : decode cX3_save 43 = .ok (.aload_n 0, 1) := by decide +kernel
theorem dX3_save_44 : decode cX3_save 44 = .ok (.getfield 10, 3) := by decide +kernel
theorem dX3_save_47 : decode cX3_save 47 = .ok (.getfield 129, 3) := by decide +kernel
theorem dX3_save_50 : decode cX3_save 50 = .ok (.ireturn, 1) := by decide +kernel
theorem dX3_restore_0 : decode cX3_restore 0 = .ok (.iload_n 1, 1) := by decide +kernel
theorem dX3_restore_1 : decode cX3_restore 1 = .ok (.invokestatic 168, 3) := by decide +kernel
theorem dX3_restore_4 : decode cX3_restore 4 = .ok (.ifCond .ne 5, 3) := by decide +kernel
theorem dX3_restore_7 : decode cX3_restore 7 = .ok (.iconst (-1), 1) := by decide +kernel
theorem dX3_restore_8 : decode cX3_restore 8 = .ok (.ireturn, 1) := by decide +kernel
theorem dX3_restore_9 : decode cX3_restore 9 = .ok (.aload_n 0, 1) := by decide +kernel
theorem dX3_restore_10 : decode cX3_restore 10 = .ok (.getfield 19, 3) := by decide +kernel
theorem dX3_restore_13 : decode cX3_restore 13 = .ok (.iload_n 1, 1) := by decide +kernel
theorem dX3_restore_14 : decode cX3_restore 14 = .ok (.aaload, 1) := by decide +kernel
theorem dX3_restore_15 : decode cX3_restore 15 = .ok (.astore_n 2, 1) := by decide +kernel
theorem dX3_restore_16 : decode cX3_restore 16 = .ok (.aload_n 2, 1) := by decide +kernel
theorem dX3_restore_17 : decode cX3_restore 17 = .ok (.ifnonnull 6, 3) := by decide +kernel
theorem dX3_restore_20 : decode cX3_restore 20 = .ok (.bipush (-3), 2) := by decide +kernel
theorem dX3_restore_22 : decode cX3_restore 22 = .ok (.ireturn, 1) := by decide +kernel
theorem dX3_restore_23 : decode cX3_restore 23 = .ok (.aload_n 0, 1) := by decide +kernel
theorem dX3_restore_24 : decode cX3_restore 24 = .ok (.getfield 10, 3) := by decide +kernel
theorem dX3_restore_27 : decode cX3_restore 27 = .ok (.aload_n 2, 1) := by decide +kernel
theorem dX3_restore_28 : decode cX3_restore 28 = .ok (.invokevirtual 155, 3) := by decide +kernel
theorem dX3_restore_31 : decode cX3_restore 31 = .ok (.aload_n 0, 1) := by decide +kernel
theorem dX3_restore_32 : decode cX3_restore 32 = .ok (.getfield 10, 3) := by decide +kernel
theorem dX3_restore_35 : decode cX3_restore 35 = .ok (.getfield 129, 3) := by decide +kernel
theorem dX3_restore_38 : decode cX3_restore 38 = .ok (.ireturn, 1) := by decide +kernel
theorem dX3_settlePlan_0 : decode cX3_settlePlan 0 = .ok (.aload_n 0, 1) := by decide +kernel
theorem dX3_settlePlan_1 : decode cX3_settlePlan 1 = .ok (.getfield 16, 3) := by decide +kernel
theorem dX3_settlePlan_4 : decode cX3_settlePlan 4 = .ok (.aload_n 0, 1) := by decide +kernel
theorem dX3_settlePlan_5 : decode cX3_settlePlan 5 = .ok (.getfield 10, 3) := by decide +kernel
theorem dX3_settlePlan_8 : decode cX3_settlePlan 8 = .ok (.invokevirtual 155, 3) := by decide +kernel
theorem dX3_settlePlan_11 : decode cX3_settlePlan 11 = .ok (.iconst 0, 1) := by decide +kernel
theorem dX3_settlePlan_12 : decode cX3_settlePlan 12 = .ok (.istore_n 1, 1) := by decide +kernel
theorem dX3_settlePlan_13 : decode cX3_settlePlan 13 = .ok (.iload_n 1, 1) := by decide +kernel
theorem dX3_settlePlan_14 : decode cX3_settlePlan 14 = .ok (.sipush 300, 3) := by decide +kernel
theorem dX3_settlePlan_17 : decode cX3_settlePlan 17 = .ok (.if_icmp .gt 29, 3) := by decide +kernel
theorem dX3_settlePlan_20 : decode cX3_settlePlan 20 = .ok (.aload_n 0, 1) := by decide +kernel
theorem dX3_settlePlan_21 : decode cX3_settlePlan 21 = .ok (.getfield 16, 3) := by decide +kernel
theorem dX3_settlePlan_24 : decode cX3_settlePlan 24 = .ok (.invokevirtual 171, 3) := by decide +kernel
theorem dX3_settlePlan_27 : decode cX3_settlePlan 27 = .ok (.ifCond .eq 5, 3) := by decide +kernel
theorem dX3_settlePlan_30 : decode cX3_settlePlan 30 = .ok (.iload_n 1, 1) := by decide +kernel
theorem dX3_settlePlan_31 : decode cX3_settlePlan 31 = .ok (.ireturn, 1) := by decide +kernel
theorem dX3_settlePlan_32 : decode cX3_settlePlan 32 = .ok (.aload_n 0, 1) := by decide +kernel
theorem dX3_settlePlan_33 : decode cX3_settlePlan 33 = .ok (.getfield 16, 3) := by decide +kernel
theorem dX3_settlePlan_36 : decode cX3_settlePlan 36 = .ok (.invokevirtual 126, 3) := by decide +kernel
theorem dX3_settlePlan_39 : decode cX3_settlePlan 39 = .ok (.pop, 1) := by decide +kernel
theorem dX3_settlePlan_40 : decode cX3_settlePlan 40 = .ok (.iinc 1 1, 3) := by decide +kernel
theorem dX3_settlePlan_43 : decode cX3_settlePlan 43 = .ok (.goto (-30), 3) := by decide +kernel
theorem dX3_settlePlan_46 : decode cX3_settlePlan 46 = .ok (.bipush (-6), 2) := by decide +kernel
theorem dX3_settlePlan_48 : decode cX3_settlePlan 48 = .ok (.ireturn, 1) := by decide +kernel
theorem dX3_isPort_0 : decode cX3_isPort 0 = .ok (.iload_n 0, 1) := by decide +kernel
theorem dX3_isPort_1 : decode cX3_isPort 1 = .ok (.iconst 0, 1) := by decide +kernel
theorem dX3_isPort_2 : decode cX3_isPort 2 = .ok (.bipush 7, 2) := by decide +kernel
theorem dX3_isPort_4 : decode cX3_isPort 4 = .ok (.invokestatic 27, 3) := by decide +kernel
theorem dX3_isPort_7 : decode cX3_isPort 7 = .ok (.ireturn, 1) := by decide +kernel
theorem dX3_isSupply_0 : decode cX3_isSupply 0 = .ok (.iload_n 0, 1) := by decide +kernel
theorem dX3_isSupply_1 : decode cX3_isSupply 1 = .ok (.iconst 0, 1) := by decide +kernel
theorem dX3_isSupply_2 : decode cX3_isSupply 2 = .ok (.iconst 2, 1) := by decide +kernel
theorem dX3_isSupply_3 : decode cX3_isSupply 3 = .ok (.invokestatic 27, 3) := by decide +kernel
theorem dX3_isSupply_6 : decode cX3_isSupply 6 = .ok (.ireturn, 1) := by decide +kernel
theorem dX3_isSlot_0 : decode cX3_isSlot 0 = .ok (.iload_n 0, 1) := by decide +kernel
theorem dX3_isSlot_1 : decode cX3_isSlot 1 = .ok (.iconst 0, 1) := by decide +kernel
theorem dX3_isSlot_2 : decode cX3_isSlot 2 = .ok (.iconst 1, 1) := by decide +kernel
theorem dX3_isSlot_3 : decode cX3_isSlot 3 = .ok (.invokestatic 27, 3) := by decide +kernel
theorem dX3_isSlot_6 : decode cX3_isSlot 6 = .ok (.ireturn, 1) := by decide +kernel
theorem dX3_isWithin_0 : decode cX3_isWithin 0 = .ok (.iload_n 0, 1) := by decide +kernel
theorem dX3_isWithin_1 : decode cX3_isWithin 1 = .ok (.iload_n 1, 1) := by decide +kernel
theorem dX3_isWithin_2 : decode cX3_isWithin 2 = .ok (.if_icmp .lt 12, 3) := by decide +kernel
theorem dX3_isWithin_5 : decode cX3_isWithin 5 = .ok (.iload_n 0, 1) := by decide +kernel
theorem dX3_isWithin_6 : decode cX3_isWithin 6 = .ok (.iload_n 2, 1) := by decide +kernel
theorem dX3_isWithin_7 : decode cX3_isWithin 7 = .ok (.if_icmp .gt 7, 3) := by decide +kernel
theorem dX3_isWithin_10 : decode cX3_isWithin 10 = .ok (.iconst 1, 1) := by decide +kernel
theorem dX3_isWithin_11 : decode cX3_isWithin 11 = .ok (.goto 4, 3) := by decide +kernel
theorem dX3_isWithin_14 : decode cX3_isWithin 14 = .ok (.iconst 0, 1) := by decide +kernel
theorem dX3_isWithin_15 : decode cX3_isWithin 15 = .ok (.ireturn, 1) := by decide +kernel
theorem dX3_isDetected_0 : decode cX3_isDetected 0 = .ok (.iload_n 0, 1) := by decide +kernel
theorem dX3_isDetected_1 : decode cX3_isDetected 1 = .ok (.sipush 190, 3) := by decide +kernel
theorem dX3_isDetected_4 : decode cX3_isDetected 4 = .ok (.sipush 265, 3) := by decide +kernel
theorem dX3_isDetected_7 : decode cX3_isDetected 7 = .ok (.invokestatic 27, 3) := by decide +kernel
theorem dX3_isDetected_10 : decode cX3_isDetected 10 = .ok (.ifCond .eq 13, 3) := by decide +kernel
theorem dX3_isDetected_13 : decode cX3_isDetected 13 = .ok (.iload_n 1, 1) := by decide +kernel
theorem dX3_isDetected_14 : decode cX3_isDetected 14 = .ok (.bipush 15, 2) := by decide +kernel
theorem dX3_isDetected_16 : decode cX3_isDetected 16 = .ok (.if_icmp .gt 7, 3) := by decide +kernel
theorem dX3_isDetected_19 : decode cX3_isDetected 19 = .ok (.iconst 1, 1) := by decide +kernel
theorem dX3_isDetected_20 : decode cX3_isDetected 20 = .ok (.goto 4, 3) := by decide +kernel
theorem dX3_isDetected_23 : decode cX3_isDetected 23 = .ok (.iconst 0, 1) := by decide +kernel
theorem dX3_isDetected_24 : decode cX3_isDetected 24 = .ok (.ireturn, 1) := by decide +kernel
theorem dX3_classOf_0 : decode cX3_classOf 0 = .ok (.iconst 0, 1) := by decide +kernel
theorem dX3_classOf_1 : decode cX3_classOf 1 = .ok (.istore_n 1, 1) := by decide +kernel
theorem dX3_classOf_2 : decode cX3_classOf 2 = .ok (.iload_n 1, 1) := by decide +kernel
theorem dX3_classOf_3 : decode cX3_classOf 3 = .ok (.getstatic 174, 3) := by decide +kernel
theorem dX3_classOf_6 : decode cX3_classOf 6 = .ok (.arraylength, 1) := by decide +kernel
theorem dX3_classOf_7 : decode cX3_classOf 7 = .ok (.if_icmp .ge 28, 3) := by decide +kernel
theorem dX3_classOf_10 : decode cX3_classOf 10 = .ok (.iload_n 0, 1) := by decide +kernel
theorem dX3_classOf_11 : decode cX3_classOf 11 = .ok (.getstatic 177, 3) := by decide +kernel
theorem dX3_classOf_14 : decode cX3_classOf 14 = .ok (.iload_n 1, 1) := by decide +kernel
theorem dX3_classOf_15 : decode cX3_classOf 15 = .ok (.iaload, 1) := by decide +kernel
theorem dX3_classOf_16 : decode cX3_classOf 16 = .ok (.getstatic 180, 3) := by decide +kernel
theorem dX3_classOf_19 : decode cX3_classOf 19 = .ok (.iload_n 1, 1) := by decide +kernel
theorem dX3_classOf_20 : decode cX3_classOf 20 = .ok (.iaload, 1) := by decide +kernel
theorem dX3_classOf_21 : decode cX3_classOf 21 = .ok (.invokestatic 27, 3) := by decide +kernel
theorem dX3_classOf_24 : decode cX3_classOf 24 = .ok (.ifCond .eq 5, 3) := by decide +kernel
theorem dX3_classOf_27 : decode cX3_classOf 27 = .ok (.iload_n 1, 1) := by decide +kernel
theorem dX3_classOf_28 : decode cX3_classOf 28 = .ok (.ireturn, 1) := by decide +kernel
theorem dX3_classOf_29 : decode cX3_classOf 29 = .ok (.iinc 1 1, 3) := by decide +kernel
theorem dX3_classOf_32 : decode cX3_classOf 32 = .ok (.goto (-30), 3) := by decide +kernel
theorem dX3_classOf_35 : decode cX3_classOf 35 = .ok (.bipush (-6), 2) := by decide +kernel
theorem dX3_classOf_37 : decode cX3_classOf 37 = .ok (.ireturn, 1) := by decide +kernel
theorem dX3_maximumOf_0 : decode cX3_maximumOf 0 = .ok (.iload_n 0, 1) := by decide +kernel
theorem dX3_maximumOf_1 : decode cX3_maximumOf 1 = .ok (.iconst 0, 1) := by decide +kernel
theorem dX3_maximumOf_2 : decode cX3_maximumOf 2 = .ok (.getstatic 174, 3) := by decide +kernel
theorem dX3_maximumOf_5 : decode cX3_maximumOf 5 = .ok (.arraylength, 1) := by decide +kernel
theorem dX3_maximumOf_6 : decode cX3_maximumOf 6 = .ok (.iconst 1, 1) := by decide +kernel
theorem dX3_maximumOf_7 : decode cX3_maximumOf 7 = .ok (.isub, 1) := by decide +kernel
theorem dX3_maximumOf_8 : decode cX3_maximumOf 8 = .ok (.invokestatic 27, 3) := by decide +kernel
theorem dX3_maximumOf_11 : decode cX3_maximumOf 11 = .ok (.ifCond .eq 11, 3) := by decide +kernel
theorem dX3_maximumOf_14 : decode cX3_maximumOf 14 = .ok (.getstatic 174, 3) := by decide +kernel
theorem dX3_maximumOf_17 : decode cX3_maximumOf 17 = .ok (.iload_n 0, 1) := by decide +kernel
theorem dX3_maximumOf_18 : decode cX3_maximumOf 18 = .ok (.iaload, 1) := by decide +kernel
theorem dX3_maximumOf_19 : decode cX3_maximumOf 19 = .ok (.goto 4, 3) := by decide +kernel
theorem dX3_maximumOf_22 : decode cX3_maximumOf 22 = .ok (.iconst 0, 1) := by decide +kernel
theorem dX3_maximumOf_23 : decode cX3_maximumOf 23 = .ok (.ireturn, 1) := by decide +kernel
