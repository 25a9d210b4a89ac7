/-! decode rows, as the task prints them -/
theorem dX0_init_0 : decode cX0_init 0 = .ok (.aload_n 0, 1) := by decide +kernel
theorem dX0_init_1 : decode cX0_init 1 = .ok (.invokespecial 3, 3) := by decide +kernel
theorem dX0_init_4 : decode cX0_init 4 = .ok (.aload_n 0, 1) := by decide +kernel
theorem dX0_init_5 : decode cX0_init 5 = .ok (.bipush 16, 2) := by decide +kernel
theorem dX0_init_7 : decode cX0_init 7 = .ok (.newarray .int, 2) := by decide +kernel
theorem dX0_init_9 : decode cX0_init 9 = .ok (.putfield 9, 3) := by decide +kernel
theorem dX0_init_12 : decode cX0_init 12 = .ok (.aload_n 0, 1) := by decide +kernel
theorem dX0_init_13 : decode cX0_init 13 = .ok (.bipush 16, 2) := by decide +kernel
theorem dX0_init_15 : decode cX0_init 15 = .ok (.newarray .int, 2) := by decide +kernel
theorem dX0_init_17 : decode cX0_init 17 = .ok (.putfield 15, 3) := by decide +kernel
theorem dX0_init_20 : decode cX0_init 20 = .ok (.aload_n 0, 1) := by decide +kernel
theorem dX0_init_21 : decode cX0_init 21 = .ok (.bipush 16, 2) := by decide +kernel
theorem dX0_init_23 : decode cX0_init 23 = .ok (.newarray .int, 2) := by decide +kernel
theorem dX0_init_25 : decode cX0_init 25 = .ok (.putfield 18, 3) := by decide +kernel
theorem dX0_init_28 : decode cX0_init 28 = .ok (.return_, 1) := by decide +kernel
theorem dX0_holds_0 : decode cX0_holds 0 = .ok (.iload_n 1, 1) := by decide +kernel
theorem dX0_holds_1 : decode cX0_holds 1 = .ok (.ifCond .lt 15, 3) := by decide +kernel
theorem dX0_holds_4 : decode cX0_holds 4 = .ok (.iload_n 1, 1) := by decide +kernel
theorem dX0_holds_5 : decode cX0_holds 5 = .ok (.aload_n 0, 1) := by decide +kernel
theorem dX0_holds_6 : decode cX0_holds 6 = .ok (.getfield 21, 3) := by decide +kernel
theorem dX0_holds_9 : decode cX0_holds 9 = .ok (.if_icmp .ge 7, 3) := by decide +kernel
theorem dX0_holds_12 : decode cX0_holds 12 = .ok (.iconst 1, 1) := by decide +kernel
theorem dX0_holds_13 : decode cX0_holds 13 = .ok (.goto 4, 3) := by decide +kernel
theorem dX0_holds_16 : decode cX0_holds 16 = .ok (.iconst 0, 1) := by decide +kernel
theorem dX0_holds_17 : decode cX0_holds 17 = .ok (.ireturn, 1) := by decide +kernel
theorem dX0_placeOf_0 : decode cX0_placeOf 0 = .ok (.aload_n 0, 1) := by decide +kernel
theorem dX0_placeOf_1 : decode cX0_placeOf 1 = .ok (.getfield 25, 3) := by decide +kernel
theorem dX0_placeOf_4 : decode cX0_placeOf 4 = .ok (.iload_n 1, 1) := by decide +kernel
theorem dX0_placeOf_5 : decode cX0_placeOf 5 = .ok (.iadd, 1) := by decide +kernel
theorem dX0_placeOf_6 : decode cX0_placeOf 6 = .ok (.bipush 16, 2) := by decide +kernel
theorem dX0_placeOf_8 : decode cX0_placeOf 8 = .ok (.irem, 1) := by decide +kernel
theorem dX0_placeOf_9 : decode cX0_placeOf 9 = .ok (.ireturn, 1) := by decide +kernel
theorem dX0_add_0 : decode cX0_add 0 = .ok (.aload_n 0, 1) := by decide +kernel
theorem dX0_add_1 : decode cX0_add 1 = .ok (.aload_n 0, 1) := by decide +kernel
theorem dX0_add_2 : decode cX0_add 2 = .ok (.getfield 21, 3) := by decide +kernel
theorem dX0_add_5 : decode cX0_add 5 = .ok (.invokevirtual 28, 3) := by decide +kernel
theorem dX0_add_8 : decode cX0_add 8 = .ok (.istore 4, 2) := by decide +kernel
theorem dX0_add_10 : decode cX0_add 10 = .ok (.aload_n 0, 1) := by decide +kernel
theorem dX0_add_11 : decode cX0_add 11 = .ok (.getfield 9, 3) := by decide +kernel
theorem dX0_add_14 : decode cX0_add 14 = .ok (.iload 4, 2) := by decide +kernel
theorem dX0_add_16 : decode cX0_add 16 = .ok (.iload_n 1, 1) := by decide +kernel
theorem dX0_add_17 : decode cX0_add 17 = .ok (.iastore, 1) := by decide +kernel
theorem dX0_add_18 : decode cX0_add 18 = .ok (.aload_n 0, 1) := by decide +kernel
theorem dX0_add_19 : decode cX0_add 19 = .ok (.getfield 15, 3) := by decide +kernel
theorem dX0_add_22 : decode cX0_add 22 = .ok (.iload 4, 2) := by decide +kernel
theorem dX0_add_24 : decode cX0_add 24 = .ok (.iload_n 2, 1) := by decide +kernel
theorem dX0_add_25 : decode cX0_add 25 = .ok (.iastore, 1) := by decide +kernel
theorem dX0_add_26 : decode cX0_add 26 = .ok (.aload_n 0, 1) := by decide +kernel
theorem dX0_add_27 : decode cX0_add 27 = .ok (.getfield 18, 3) := by decide +kernel
theorem dX0_add_30 : decode cX0_add 30 = .ok (.iload 4, 2) := by decide +kernel
theorem dX0_add_32 : decode cX0_add 32 = .ok (.iload_n 3, 1) := by decide +kernel
theorem dX0_add_33 : decode cX0_add 33 = .ok (.iastore, 1) := by decide +kernel
theorem dX0_add_34 : decode cX0_add 34 = .ok (.aload_n 0, 1) := by decide +kernel
theorem dX0_add_35 : decode cX0_add 35 = .ok (.getfield 21, 3) := by decide +kernel
theorem dX0_add_38 : decode cX0_add 38 = .ok (.bipush 16, 2) := by decide +kernel
theorem dX0_add_40 : decode cX0_add 40 = .ok (.if_icmp .ge 16, 3) := by decide +kernel
theorem dX0_add_43 : decode cX0_add 43 = .ok (.aload_n 0, 1) := by decide +kernel
theorem dX0_add_44 : decode cX0_add 44 = .ok (.dup, 1) := by decide +kernel
theorem dX0_add_45 : decode cX0_add 45 = .ok (.getfield 21, 3) := by decide +kernel
theorem dX0_add_48 : decode cX0_add 48 = .ok (.iconst 1, 1) := by decide +kernel
theorem dX0_add_49 : decode cX0_add 49 = .ok (.iadd, 1) := by decide +kernel
theorem dX0_add_50 : decode cX0_add 50 = .ok (.putfield 21, 3) := by decide +kernel
theorem dX0_add_53 : decode cX0_add 53 = .ok (.goto 12, 3) := by decide +kernel
theorem dX0_add_56 : decode cX0_add 56 = .ok (.aload_n 0, 1) := by decide +kernel
theorem dX0_add_57 : decode cX0_add 57 = .ok (.aload_n 0, 1) := by decide +kernel
theorem dX0_add_58 : decode cX0_add 58 = .ok (.iconst 1, 1) := by decide +kernel
theorem dX0_add_59 : decode cX0_add 59 = .ok (.invokevirtual 28, 3) := by decide +kernel
theorem dX0_add_62 : decode cX0_add 62 = .ok (.putfield 25, 3) := by decide +kernel
theorem dX0_add_65 : decode cX0_add 65 = .ok (.return_, 1) := by decide +kernel
theorem dX0_copyFrom_0 : decode cX0_copyFrom 0 = .ok (.aload_n 1, 1) := by decide +kernel
theorem dX0_copyFrom_1 : decode cX0_copyFrom 1 = .ok (.getfield 9, 3) := by decide +kernel
theorem dX0_copyFrom_4 : decode cX0_copyFrom 4 = .ok (.iconst 0, 1) := by decide +kernel
theorem dX0_copyFrom_5 : decode cX0_copyFrom 5 = .ok (.aload_n 0, 1) := by decide +kernel
theorem dX0_copyFrom_6 : decode cX0_copyFrom 6 = .ok (.getfield 9, 3) := by decide +kernel
theorem dX0_copyFrom_9 : decode cX0_copyFrom 9 = .ok (.iconst 0, 1) := by decide +kernel
theorem dX0_copyFrom_10 : decode cX0_copyFrom 10 = .ok (.bipush 16, 2) := by decide +kernel
theorem dX0_copyFrom_12 : decode cX0_copyFrom 12 = .ok (.invokestatic 32, 3) := by decide +kernel
theorem dX0_copyFrom_15 : decode cX0_copyFrom 15 = .ok (.aload_n 1, 1) := by decide +kernel
theorem dX0_copyFrom_16 : decode cX0_copyFrom 16 = .ok (.getfield 15, 3) := by decide +kernel
theorem dX0_copyFrom_19 : decode cX0_copyFrom 19 = .ok (.iconst 0, 1) := by decide +kernel
theorem dX0_copyFrom_20 : decode cX0_copyFrom 20 = .ok (.aload_n 0, 1) := by decide +kernel
theorem dX0_copyFrom_21 : decode cX0_copyFrom 21 = .ok (.getfield 15, 3) := by decide +kernel
theorem dX0_copyFrom_24 : decode cX0_copyFrom 24 = .ok (.iconst 0, 1) := by decide +kernel
theorem dX0_copyFrom_25 : decode cX0_copyFrom 25 = .ok (.bipush 16, 2) := by decide +kernel
theorem dX0_copyFrom_27 : decode cX0_copyFrom 27 = .ok (.invokestatic 32, 3) := by decide +kernel
theorem dX0_copyFrom_30 : decode cX0_copyFrom 30 = .ok (.aload_n 1, 1) := by decide +kernel
theorem dX0_copyFrom_31 : decode cX0_copyFrom 31 = .ok (.getfield 18, 3) := by decide +kernel
theorem dX0_copyFrom_34 : decode cX0_copyFrom 34 = .ok (.iconst 0, 1) := by decide +kernel
theorem dX0_copyFrom_35 : decode cX0_copyFrom 35 = .ok (.aload_n 0, 1) := by decide +kernel
theorem dX0_copyFrom_36 : decode cX0_copyFrom 36 = .ok (.getfield 18, 3) := by decide +kernel
theorem dX0_copyFrom_39 : decode cX0_copyFrom 39 = .ok (.iconst 0, 1) := by decide +kernel
theorem dX0_copyFrom_40 : decode cX0_copyFrom 40 = .ok (.bipush 16, 2) := by decide +kernel
theorem dX0_copyFrom_42 : decode cX0_copyFrom 42 = .ok (.invokestatic 32, 3) := by decide +kernel
theorem dX0_copyFrom_45 : decode cX0_copyFrom 45 = .ok (.aload_n 0, 1) := by decide +kernel
theorem dX0_copyFrom_46 : decode cX0_copyFrom 46 = .ok (.aload_n 1, 1) := by decide +kernel
theorem dX0_copyFrom_47 : decode cX0_copyFrom 47 = .ok (.getfield 25, 3) := by decide +kernel
theorem dX0_copyFrom_50 : decode cX0_copyFrom 50 = .ok (.putfield 25, 3) := by decide +kernel
theorem dX0_copyFrom_53 : decode cX0_copyFrom 53 = .ok (.aload_n 0, 1) := by decide +kernel
theorem dX0_copyFrom_54 : decode cX0_copyFrom 54 = .ok (.aload_n 1, 1) := by decide +kernel
theorem dX0_copyFrom_55 : decode cX0_copyFrom 55 = .ok (.getfield 21, 3) := by decide +kernel
theorem dX0_copyFrom_58 : decode cX0_copyFrom 58 = .ok (.putfield 21, 3) := by decide +kernel
theorem dX0_copyFrom_61 : decode cX0_copyFrom 61 = .ok (.return_, 1) := by decide +kernel
theorem dX1_init_0 : decode cX1_init 0 = .ok (.aload_n 0, 1) := by decide +kernel
theorem dX1_init_1 : decode cX1_init 1 = .ok (.invokespecial 3, 3) := by decide +kernel
theorem dX1_init_4 : decode cX1_init 4 = .ok (.aload_n 0, 1) := by decide +kernel
theorem dX1_init_5 : decode cX1_init 5 = .ok (.iconst 1, 1) := by decide +kernel
theorem dX1_init_6 : decode cX1_init 6 = .ok (.putfield 9, 3) := by decide +kernel
theorem dX1_init_9 : decode cX1_init 9 = .ok (.aload_n 0, 1) := by decide +kernel
theorem dX1_init_10 : decode cX1_init 10 = .ok (.iconst 2, 1) := by decide +kernel
theorem dX1_init_11 : decode cX1_init 11 = .ok (.putfield 15, 3) := by decide +kernel
theorem dX1_init_14 : decode cX1_init 14 = .ok (.aload_n 0, 1) := by decide +kernel
theorem dX1_init_15 : decode cX1_init 15 = .ok (.bipush (-6), 2) := by decide +kernel
theorem dX1_init_17 : decode cX1_init 17 = .ok (.putfield 19, 3) := by decide +kernel
theorem dX1_init_20 : decode cX1_init 20 = .ok (.return_, 1) := by decide +kernel
theorem dX1_isPowered_0 : decode cX1_isPowered 0 = .ok (.aload_n 0, 1) := by decide +kernel
theorem dX1_isPowered_1 : decode cX1_isPowered 1 = .ok (.getfield 22, 3) := by decide +kernel
theorem dX1_isPowered_4 : decode cX1_isPowered 4 = .ok (.ifCond .le 7, 3) := by decide +kernel
theorem dX1_isPowered_7 : decode cX1_isPowered 7 = .ok (.iconst 1, 1) := by decide +kernel
theorem dX1_isPowered_8 : decode cX1_isPowered 8 = .ok (.goto 4, 3) := by decide +kernel
theorem dX1_isPowered_11 : decode cX1_isPowered 11 = .ok (.iconst 0, 1) := by decide +kernel
theorem dX1_isPowered_12 : decode cX1_isPowered 12 = .ok (.ireturn, 1) := by decide +kernel
theorem dX1_isOverloaded_0 : decode cX1_isOverloaded 0 = .ok (.aload_n 0, 1) := by decide +kernel
theorem dX1_isOverloaded_1 : decode cX1_isOverloaded 1 = .ok (.invokevirtual 25, 3) := by decide +kernel
theorem dX1_isOverloaded_4 : decode cX1_isOverloaded 4 = .ok (.ifCond .eq 18, 3) := by decide +kernel
theorem dX1_isOverloaded_7 : decode cX1_isOverloaded 7 = .ok (.aload_n 0, 1) := by decide +kernel
theorem dX1_isOverloaded_8 : decode cX1_isOverloaded 8 = .ok (.getfield 29, 3) := by decide +kernel
theorem dX1_isOverloaded_11 : decode cX1_isOverloaded 11 = .ok (.aload_n 0, 1) := by decide +kernel
theorem dX1_isOverloaded_12 : decode cX1_isOverloaded 12 = .ok (.getfield 22, 3) := by decide +kernel
theorem dX1_isOverloaded_15 : decode cX1_isOverloaded 15 = .ok (.if_icmp .le 7, 3) := by decide +kernel
theorem dX1_isOverloaded_18 : decode cX1_isOverloaded 18 = .ok (.iconst 1, 1) := by decide +kernel
theorem dX1_isOverloaded_19 : decode cX1_isOverloaded 19 = .ok (.goto 4, 3) := by decide +kernel
theorem dX1_isOverloaded_22 : decode cX1_isOverloaded 22 = .ok (.iconst 0, 1) := by decide +kernel
theorem dX1_isOverloaded_23 : decode cX1_isOverloaded 23 = .ok (.ireturn, 1) := by decide +kernel
theorem dX1_hasRequest_0 : decode cX1_hasRequest 0 = .ok (.aload_n 0, 1) := by decide +kernel
theorem dX1_hasRequest_1 : decode cX1_hasRequest 1 = .ok (.getfield 32, 3) := by decide +kernel
theorem dX1_hasRequest_4 : decode cX1_hasRequest 4 = .ok (.ifCond .eq 16, 3) := by decide +kernel
theorem dX1_hasRequest_7 : decode cX1_hasRequest 7 = .ok (.aload_n 0, 1) := by decide +kernel
theorem dX1_hasRequest_8 : decode cX1_hasRequest 8 = .ok (.getfield 19, 3) := by decide +kernel
theorem dX1_hasRequest_11 : decode cX1_hasRequest 11 = .ok (.bipush (-6), 2) := by decide +kernel
theorem dX1_hasRequest_13 : decode cX1_hasRequest 13 = .ok (.if_icmp .eq 7, 3) := by decide +kernel
theorem dX1_hasRequest_16 : decode cX1_hasRequest 16 = .ok (.iconst 1, 1) := by decide +kernel
theorem dX1_hasRequest_17 : decode cX1_hasRequest 17 = .ok (.goto 4, 3) := by decide +kernel
theorem dX1_hasRequest_20 : decode cX1_hasRequest 20 = .ok (.iconst 0, 1) := by decide +kernel
theorem dX1_hasRequest_21 : decode cX1_hasRequest 21 = .ok (.ireturn, 1) := by decide +kernel
theorem dX1_isEligible_0 : decode cX1_isEligible 0 = .ok (.aload_n 0, 1) := by decide +kernel
theorem dX1_isEligible_1 : decode cX1_isEligible 1 = .ok (.getfield 9, 3) := by decide +kernel
theorem dX1_isEligible_4 : decode cX1_isEligible 4 = .ok (.ifCond .eq 30, 3) := by decide +kernel
theorem dX1_isEligible_7 : decode cX1_isEligible 7 = .ok (.aload_n 0, 1) := by decide +kernel
theorem dX1_isEligible_8 : decode cX1_isEligible 8 = .ok (.getfield 32, 3) := by decide +kernel
theorem dX1_isEligible_11 : decode cX1_isEligible 11 = .ok (.ifCond .eq 23, 3) := by decide +kernel
theorem dX1_isEligible_14 : decode cX1_isEligible 14 = .ok (.aload_n 0, 1) := by decide +kernel
theorem dX1_isEligible_15 : decode cX1_isEligible 15 = .ok (.getfield 35, 3) := by decide +kernel
theorem dX1_isEligible_18 : decode cX1_isEligible 18 = .ok (.ifCond .eq 16, 3) := by decide +kernel
theorem dX1_isEligible_21 : decode cX1_isEligible 21 = .ok (.aload_n 0, 1) := by decide +kernel
theorem dX1_isEligible_22 : decode cX1_isEligible 22 = .ok (.getfield 19, 3) := by decide +kernel
theorem dX1_isEligible_25 : decode cX1_isEligible 25 = .ok (.bipush (-6), 2) := by decide +kernel
theorem dX1_isEligible_27 : decode cX1_isEligible 27 = .ok (.if_icmp .eq 7, 3) := by decide +kernel
theorem dX1_isEligible_30 : decode cX1_isEligible 30 = .ok (.iconst 1, 1) := by decide +kernel
theorem dX1_isEligible_31 : decode cX1_isEligible 31 = .ok (.goto 4, 3) := by decide +kernel
theorem dX1_isEligible_34 : decode cX1_isEligible 34 = .ok (.iconst 0, 1) := by decide +kernel
theorem dX1_isEligible_35 : decode cX1_isEligible 35 = .ok (.ireturn, 1) := by decide +kernel
theorem dX1_canPowerUp_0 : decode cX1_canPowerUp 0 = .ok (.aload_n 0, 1) := by decide +kernel
theorem dX1_canPowerUp_1 : decode cX1_canPowerUp 1 = .ok (.invokevirtual 38, 3) := by decide +kernel
theorem dX1_canPowerUp_4 : decode cX1_canPowerUp 4 = .ok (.ifCond .eq 29, 3) := by decide +kernel
theorem dX1_canPowerUp_7 : decode cX1_canPowerUp 7 = .ok (.aload_n 0, 1) := by decide +kernel
theorem dX1_canPowerUp_8 : decode cX1_canPowerUp 8 = .ok (.invokevirtual 25, 3) := by decide +kernel
theorem dX1_canPowerUp_11 : decode cX1_canPowerUp 11 = .ok (.ifCond .ne 22, 3) := by decide +kernel
theorem dX1_canPowerUp_14 : decode cX1_canPowerUp 14 = .ok (.aload_n 0, 1) := by decide +kernel
theorem dX1_canPowerUp_15 : decode cX1_canPowerUp 15 = .ok (.getfield 41, 3) := by decide +kernel
theorem dX1_canPowerUp_18 : decode cX1_canPowerUp 18 = .ok (.ifCond .ne 15, 3) := by decide +kernel
theorem dX1_canPowerUp_21 : decode cX1_canPowerUp 21 = .ok (.aload_n 0, 1) := by decide +kernel
theorem dX1_canPowerUp_22 : decode cX1_canPowerUp 22 = .ok (.getfield 44, 3) := by decide +kernel
theorem dX1_canPowerUp_25 : decode cX1_canPowerUp 25 = .ok (.iload_n 1, 1) := by decide +kernel
theorem dX1_canPowerUp_26 : decode cX1_canPowerUp 26 = .ok (.if_icmp .gt 7, 3) := by decide +kernel
theorem dX1_canPowerUp_29 : decode cX1_canPowerUp 29 = .ok (.iconst 1, 1) := by decide +kernel
theorem dX1_canPowerUp_30 : decode cX1_canPowerUp 30 = .ok (.goto 4, 3) := by decide +kernel
theorem dX1_canPowerUp_33 : decode cX1_canPowerUp 33 = .ok (.iconst 0, 1) := by decide +kernel
theorem dX1_canPowerUp_34 : decode cX1_canPowerUp 34 = .ok (.ireturn, 1) := by decide +kernel
theorem dX1_losePower_0 : decode cX1_losePower 0 = .ok (.aload_n 0, 1) := by decide +kernel
theorem dX1_losePower_1 : decode cX1_losePower 1 = .ok (.iconst 0, 1) := by decide +kernel
theorem dX1_losePower_2 : decode cX1_losePower 2 = .ok (.putfield 22, 3) := by decide +kernel
theorem dX1_losePower_5 : decode cX1_losePower 5 = .ok (.aload_n 0, 1) := by decide +kernel
theorem dX1_losePower_6 : decode cX1_losePower 6 = .ok (.iconst 0, 1) := by decide +kernel
theorem dX1_losePower_7 : decode cX1_losePower 7 = .ok (.putfield 47, 3) := by decide +kernel
theorem dX1_losePower_10 : decode cX1_losePower 10 = .ok (.return_, 1) := by decide +kernel
theorem dX1_reset_0 : decode cX1_reset 0 = .ok (.aload_n 0, 1) := by decide +kernel
theorem dX1_reset_1 : decode cX1_reset 1 = .ok (.invokevirtual 50, 3) := by decide +kernel
theorem dX1_reset_4 : decode cX1_reset 4 = .ok (.aload_n 0, 1) := by decide +kernel
theorem dX1_reset_5 : decode cX1_reset 5 = .ok (.iconst 0, 1) := by decide +kernel
theorem dX1_reset_6 : decode cX1_reset 6 = .ok (.putfield 41, 3) := by decide +kernel
theorem dX1_reset_9 : decode cX1_reset 9 = .ok (.return_, 1) := by decide +kernel
theorem dX1_copyFrom_0 : decode cX1_copyFrom 0 = .ok (.aload_n 0, 1) := by decide +kernel
theorem dX1_copyFrom_1 : decode cX1_copyFrom 1 = .ok (.aload_n 1, 1) := by decide +kernel
theorem dX1_copyFrom_2 : decode cX1_copyFrom 2 = .ok (.getfield 9, 3) := by decide +kernel
theorem dX1_copyFrom_5 : decode cX1_copyFrom 5 = .ok (.putfield 9, 3) := by decide +kernel
theorem dX1_copyFrom_8 : decode cX1_copyFrom 8 = .ok (.aload_n 0, 1) := by decide +kernel
theorem dX1_copyFrom_9 : decode cX1_copyFrom 9 = .ok (.aload_n 1, 1) := by decide +kernel
theorem dX1_copyFrom_10 : decode cX1_copyFrom 10 = .ok (.getfield 15, 3) := by decide +kernel
theorem dX1_copyFrom_13 : decode cX1_copyFrom 13 = .ok (.putfield 15, 3) := by decide +kernel
theorem dX1_copyFrom_16 : decode cX1_copyFrom 16 = .ok (.aload_n 0, 1) := by decide +kernel
theorem dX1_copyFrom_17 : decode cX1_copyFrom 17 = .ok (.aload_n 1, 1) := by decide +kernel
theorem dX1_copyFrom_18 : decode cX1_copyFrom 18 = .ok (.getfield 32, 3) := by decide +kernel
theorem dX1_copyFrom_21 : decode cX1_copyFrom 21 = .ok (.putfield 32, 3) := by decide +kernel
theorem dX1_copyFrom_24 : decode cX1_copyFrom 24 = .ok (.aload_n 0, 1) := by decide +kernel
theorem dX1_copyFrom_25 : decode cX1_copyFrom 25 = .ok (.aload_n 1, 1) := by decide +kernel
theorem dX1_copyFrom_26 : decode cX1_copyFrom 26 = .ok (.getfield 35, 3) := by decide +kernel
theorem dX1_copyFrom_29 : decode cX1_copyFrom 29 = .ok (.putfield 35, 3) := by decide +kernel
theorem dX1_copyFrom_32 : decode cX1_copyFrom 32 = .ok (.aload_n 0, 1) := by decide +kernel
theorem dX1_copyFrom_33 : decode cX1_copyFrom 33 = .ok (.aload_n 1, 1) := by decide +kernel
theorem dX1_copyFrom_34 : decode cX1_copyFrom 34 = .ok (.getfield 19, 3) := by decide +kernel
theorem dX1_copyFrom_37 : decode cX1_copyFrom 37 = .ok (.putfield 19, 3) := by decide +kernel
theorem dX1_copyFrom_40 : decode cX1_copyFrom 40 = .ok (.aload_n 0, 1) := by decide +kernel
theorem dX1_copyFrom_41 : decode cX1_copyFrom 41 = .ok (.aload_n 1, 1) := by decide +kernel
theorem dX1_copyFrom_42 : decode cX1_copyFrom 42 = .ok (.getfield 29, 3) := by decide +kernel
theorem dX1_copyFrom_45 : decode cX1_copyFrom 45 = .ok (.putfield 29, 3) := by decide +kernel
theorem dX1_copyFrom_48 : decode cX1_copyFrom 48 = .ok (.aload_n 0, 1) := by decide +kernel
theorem dX1_copyFrom_49 : decode cX1_copyFrom 49 = .ok (.aload_n 1, 1) := by decide +kernel
theorem dX1_copyFrom_50 : decode cX1_copyFrom 50 = .ok (.getfield 44, 3) := by decide +kernel
theorem dX1_copyFrom_53 : decode cX1_copyFrom 53 = .ok (.putfield 44, 3) := by decide +kernel
theorem dX1_copyFrom_56 : decode cX1_copyFrom 56 = .ok (.aload_n 0, 1) := by decide +kernel
theorem dX1_copyFrom_57 : decode cX1_copyFrom 57 = .ok (.aload_n 1, 1) := by decide +kernel
theorem dX1_copyFrom_58 : decode cX1_copyFrom 58 = .ok (.getfield 22, 3) := by decide +kernel
theorem dX1_copyFrom_61 : decode cX1_copyFrom 61 = .ok (.putfield 22, 3) := by decide +kernel
theorem dX1_copyFrom_64 : decode cX1_copyFrom 64 = .ok (.aload_n 0, 1) := by decide +kernel
theorem dX1_copyFrom_65 : decode cX1_copyFrom 65 = .ok (.aload_n 1, 1) := by decide +kernel
theorem dX1_copyFrom_66 : decode cX1_copyFrom 66 = .ok (.getfield 47, 3) := by decide +kernel
theorem dX1_copyFrom_69 : decode cX1_copyFrom 69 = .ok (.putfield 47, 3) := by decide +kernel
theorem dX1_copyFrom_72 : decode cX1_copyFrom 72 = .ok (.aload_n 0, 1) := by decide +kernel
theorem dX1_copyFrom_73 : decode cX1_copyFrom 73 = .ok (.aload_n 1, 1) := by decide +kernel
theorem dX1_copyFrom_74 : decode cX1_copyFrom 74 = .ok (.getfield 41, 3) := by decide +kernel
theorem dX1_copyFrom_77 : decode cX1_copyFrom 77 = .ok (.putfield 41, 3) := by decide +kernel
theorem dX1_copyFrom_80 : decode cX1_copyFrom 80 = .ok (.return_, 1) := by decide +kernel
