theorem dX5_forget_0 : decode cX5_forget 0 = .ok (.aload_n 0, 1) := by decide +kernel
theorem dX5_forget_1 : decode cX5_forget 1 = .ok (.iconst 0, 1) := by decide +kernel
theorem dX5_forget_2 : decode cX5_forget 2 = .ok (.putfield 29, 3) := by decide +kernel
theorem dX5_forget_5 : decode cX5_forget 5 = .ok (.return_, 1) := by decide +kernel
theorem dX5_catchUp_0 : decode cX5_catchUp 0 = .ok (.aload_n 0, 1) := by decide +kernel
theorem dX5_catchUp_1 : decode cX5_catchUp 1 = .ok (.getfield 9, 3) := by decide +kernel
theorem dX5_catchUp_4 : decode cX5_catchUp 4 = .ok (.invokevirtual 32, 3) := by decide +kernel
theorem dX5_catchUp_7 : decode cX5_catchUp 7 = .ok (.istore_n 1, 1) := by decide +kernel
theorem dX5_catchUp_8 : decode cX5_catchUp 8 = .ok (.aload_n 0, 1) := by decide +kernel
theorem dX5_catchUp_9 : decode cX5_catchUp 9 = .ok (.getfield 29, 3) := by decide +kernel
theorem dX5_catchUp_12 : decode cX5_catchUp 12 = .ok (.iload_n 1, 1) := by decide +kernel
theorem dX5_catchUp_13 : decode cX5_catchUp 13 = .ok (.if_icmp .lt 4, 3) := by decide +kernel
theorem dX5_catchUp_16 : decode cX5_catchUp 16 = .ok (.return_, 1) := by decide +kernel
theorem dX5_catchUp_17 : decode cX5_catchUp 17 = .ok (.aload_n 0, 1) := by decide +kernel
theorem dX5_catchUp_18 : decode cX5_catchUp 18 = .ok (.iload_n 1, 1) := by decide +kernel
theorem dX5_catchUp_19 : decode cX5_catchUp 19 = .ok (.invokevirtual 38, 3) := by decide +kernel
theorem dX5_catchUp_22 : decode cX5_catchUp 22 = .ok (.iconst 1, 1) := by decide +kernel
theorem dX5_catchUp_23 : decode cX5_catchUp 23 = .ok (.istore_n 2, 1) := by decide +kernel
theorem dX5_catchUp_24 : decode cX5_catchUp 24 = .ok (.iconst 0, 1) := by decide +kernel
theorem dX5_catchUp_25 : decode cX5_catchUp 25 = .ok (.istore_n 3, 1) := by decide +kernel
theorem dX5_catchUp_26 : decode cX5_catchUp 26 = .ok (.iload_n 3, 1) := by decide +kernel
theorem dX5_catchUp_27 : decode cX5_catchUp 27 = .ok (.sipush 3600, 3) := by decide +kernel
theorem dX5_catchUp_30 : decode cX5_catchUp 30 = .ok (.if_icmp .ge 19, 3) := by decide +kernel
theorem dX5_catchUp_33 : decode cX5_catchUp 33 = .ok (.iload_n 2, 1) := by decide +kernel
theorem dX5_catchUp_34 : decode cX5_catchUp 34 = .ok (.ifCond .eq 15, 3) := by decide +kernel
theorem dX5_catchUp_37 : decode cX5_catchUp 37 = .ok (.aload_n 0, 1) := by decide +kernel
theorem dX5_catchUp_38 : decode cX5_catchUp 38 = .ok (.iload_n 1, 1) := by decide +kernel
theorem dX5_catchUp_39 : decode cX5_catchUp 39 = .ok (.invokevirtual 42, 3) := by decide +kernel
theorem dX5_catchUp_42 : decode cX5_catchUp 42 = .ok (.istore_n 2, 1) := by decide +kernel
theorem dX5_catchUp_43 : decode cX5_catchUp 43 = .ok (.iinc 3 1, 3) := by decide +kernel
theorem dX5_catchUp_46 : decode cX5_catchUp 46 = .ok (.goto (-20), 3) := by decide +kernel
theorem dX5_catchUp_49 : decode cX5_catchUp 49 = .ok (.aload_n 0, 1) := by decide +kernel
theorem dX5_catchUp_50 : decode cX5_catchUp 50 = .ok (.iload_n 1, 1) := by decide +kernel
theorem dX5_catchUp_51 : decode cX5_catchUp 51 = .ok (.putfield 29, 3) := by decide +kernel
theorem dX5_catchUp_54 : decode cX5_catchUp 54 = .ok (.return_, 1) := by decide +kernel
theorem dX5_mayStand_0 : decode cX5_mayStand 0 = .ok (.aload_n 0, 1) := by decide +kernel
theorem dX5_mayStand_1 : decode cX5_mayStand 1 = .ok (.iload_n 1, 1) := by decide +kernel
theorem dX5_mayStand_2 : decode cX5_mayStand 2 = .ok (.iload_n 2, 1) := by decide +kernel
theorem dX5_mayStand_3 : decode cX5_mayStand 3 = .ok (.invokevirtual 46, 3) := by decide +kernel
theorem dX5_mayStand_6 : decode cX5_mayStand 6 = .ok (.ldc 50, 2) := by decide +kernel
theorem dX5_mayStand_8 : decode cX5_mayStand 8 = .ok (.if_icmp .ne 7, 3) := by decide +kernel
theorem dX5_mayStand_11 : decode cX5_mayStand 11 = .ok (.iconst 1, 1) := by decide +kernel
theorem dX5_mayStand_12 : decode cX5_mayStand 12 = .ok (.goto 4, 3) := by decide +kernel
theorem dX5_mayStand_15 : decode cX5_mayStand 15 = .ok (.iconst 0, 1) := by decide +kernel
theorem dX5_mayStand_16 : decode cX5_mayStand 16 = .ok (.ireturn, 1) := by decide +kernel
theorem dX5_areAlike_0 : decode cX5_areAlike 0 = .ok (.aload_n 0, 1) := by decide +kernel
theorem dX5_areAlike_1 : decode cX5_areAlike 1 = .ok (.iload_n 1, 1) := by decide +kernel
theorem dX5_areAlike_2 : decode cX5_areAlike 2 = .ok (.iload_n 2, 1) := by decide +kernel
theorem dX5_areAlike_3 : decode cX5_areAlike 3 = .ok (.invokevirtual 51, 3) := by decide +kernel
theorem dX5_areAlike_6 : decode cX5_areAlike 6 = .ok (.ifCond .eq 16, 3) := by decide +kernel
theorem dX5_areAlike_9 : decode cX5_areAlike 9 = .ok (.aload_n 0, 1) := by decide +kernel
theorem dX5_areAlike_10 : decode cX5_areAlike 10 = .ok (.iload_n 2, 1) := by decide +kernel
theorem dX5_areAlike_11 : decode cX5_areAlike 11 = .ok (.iload_n 1, 1) := by decide +kernel
theorem dX5_areAlike_12 : decode cX5_areAlike 12 = .ok (.invokevirtual 51, 3) := by decide +kernel
theorem dX5_areAlike_15 : decode cX5_areAlike 15 = .ok (.ifCond .eq 7, 3) := by decide +kernel
theorem dX5_areAlike_18 : decode cX5_areAlike 18 = .ok (.iconst 1, 1) := by decide +kernel
theorem dX5_areAlike_19 : decode cX5_areAlike 19 = .ok (.goto 4, 3) := by decide +kernel
theorem dX5_areAlike_22 : decode cX5_areAlike 22 = .ok (.iconst 0, 1) := by decide +kernel
theorem dX5_areAlike_23 : decode cX5_areAlike 23 = .ok (.ireturn, 1) := by decide +kernel
theorem dX5_stepsDown_0 : decode cX5_stepsDown 0 = .ok (.aload_n 0, 1) := by decide +kernel
theorem dX5_stepsDown_1 : decode cX5_stepsDown 1 = .ok (.iload_n 1, 1) := by decide +kernel
theorem dX5_stepsDown_2 : decode cX5_stepsDown 2 = .ok (.iload_n 2, 1) := by decide +kernel
theorem dX5_stepsDown_3 : decode cX5_stepsDown 3 = .ok (.invokevirtual 51, 3) := by decide +kernel
theorem dX5_stepsDown_6 : decode cX5_stepsDown 6 = .ok (.ifCond .eq 8, 3) := by decide +kernel
theorem dX5_stepsDown_9 : decode cX5_stepsDown 9 = .ok (.bipush (-6), 2) := by decide +kernel
theorem dX5_stepsDown_11 : decode cX5_stepsDown 11 = .ok (.goto 9, 3) := by decide +kernel
theorem dX5_stepsDown_14 : decode cX5_stepsDown 14 = .ok (.aload_n 0, 1) := by decide +kernel
theorem dX5_stepsDown_15 : decode cX5_stepsDown 15 = .ok (.iload_n 1, 1) := by decide +kernel
theorem dX5_stepsDown_16 : decode cX5_stepsDown 16 = .ok (.iload_n 2, 1) := by decide +kernel
theorem dX5_stepsDown_17 : decode cX5_stepsDown 17 = .ok (.invokevirtual 46, 3) := by decide +kernel
theorem dX5_stepsDown_20 : decode cX5_stepsDown 20 = .ok (.ireturn, 1) := by decide +kernel
theorem dX5_stepDown_0 : decode cX5_stepDown 0 = .ok (.iload_n 3, 1) := by decide +kernel
theorem dX5_stepDown_1 : decode cX5_stepDown 1 = .ok (.ifCond .lt 13, 3) := by decide +kernel
theorem dX5_stepDown_4 : decode cX5_stepDown 4 = .ok (.iload_n 3, 1) := by decide +kernel
theorem dX5_stepDown_5 : decode cX5_stepDown 5 = .ok (.aload_n 0, 1) := by decide +kernel
theorem dX5_stepDown_6 : decode cX5_stepDown 6 = .ok (.iload_n 1, 1) := by decide +kernel
theorem dX5_stepDown_7 : decode cX5_stepDown 7 = .ok (.iload_n 2, 1) := by decide +kernel
theorem dX5_stepDown_8 : decode cX5_stepDown 8 = .ok (.invokevirtual 55, 3) := by decide +kernel
theorem dX5_stepDown_11 : decode cX5_stepDown 11 = .ok (.if_icmp .lt 6, 3) := by decide +kernel
theorem dX5_stepDown_14 : decode cX5_stepDown 14 = .ok (.bipush (-6), 2) := by decide +kernel
theorem dX5_stepDown_16 : decode cX5_stepDown 16 = .ok (.ireturn, 1) := by decide +kernel
theorem dX5_stepDown_17 : decode cX5_stepDown 17 = .ok (.aload_n 0, 1) := by decide +kernel
theorem dX5_stepDown_18 : decode cX5_stepDown 18 = .ok (.iload_n 1, 1) := by decide +kernel
theorem dX5_stepDown_19 : decode cX5_stepDown 19 = .ok (.iload_n 2, 1) := by decide +kernel
theorem dX5_stepDown_20 : decode cX5_stepDown 20 = .ok (.iload_n 3, 1) := by decide +kernel
theorem dX5_stepDown_21 : decode cX5_stepDown 21 = .ok (.invokevirtual 58, 3) := by decide +kernel
theorem dX5_stepDown_24 : decode cX5_stepDown 24 = .ok (.istore 4, 2) := by decide +kernel
theorem dX5_stepDown_26 : decode cX5_stepDown 26 = .ok (.aload_n 0, 1) := by decide +kernel
theorem dX5_stepDown_27 : decode cX5_stepDown 27 = .ok (.getfield 9, 3) := by decide +kernel
theorem dX5_stepDown_30 : decode cX5_stepDown 30 = .ok (.iload 4, 2) := by decide +kernel
theorem dX5_stepDown_32 : decode cX5_stepDown 32 = .ok (.bipush 60, 2) := by decide +kernel
theorem dX5_stepDown_34 : decode cX5_stepDown 34 = .ok (.idiv, 1) := by decide +kernel
theorem dX5_stepDown_35 : decode cX5_stepDown 35 = .ok (.invokevirtual 62, 3) := by decide +kernel
theorem dX5_stepDown_38 : decode cX5_stepDown 38 = .ok (.aload_n 0, 1) := by decide +kernel
theorem dX5_stepDown_39 : decode cX5_stepDown 39 = .ok (.iload 4, 2) := by decide +kernel
theorem dX5_stepDown_41 : decode cX5_stepDown 41 = .ok (.invokevirtual 66, 3) := by decide +kernel
theorem dX5_stepDown_44 : decode cX5_stepDown 44 = .ok (.invokestatic 69, 3) := by decide +kernel
theorem dX5_stepDown_47 : decode cX5_stepDown 47 = .ok (.ireturn, 1) := by decide +kernel
theorem dX5_endOfWay_0 : decode cX5_endOfWay 0 = .ok (.aload_n 0, 1) := by decide +kernel
theorem dX5_endOfWay_1 : decode cX5_endOfWay 1 = .ok (.iload_n 1, 1) := by decide +kernel
theorem dX5_endOfWay_2 : decode cX5_endOfWay 2 = .ok (.iload_n 2, 1) := by decide +kernel
theorem dX5_endOfWay_3 : decode cX5_endOfWay 3 = .ok (.invokevirtual 55, 3) := by decide +kernel
theorem dX5_endOfWay_6 : decode cX5_endOfWay 6 = .ok (.istore_n 3, 1) := by decide +kernel
theorem dX5_endOfWay_7 : decode cX5_endOfWay 7 = .ok (.iload_n 3, 1) := by decide +kernel
theorem dX5_endOfWay_8 : decode cX5_endOfWay 8 = .ok (.bipush (-6), 2) := by decide +kernel
theorem dX5_endOfWay_10 : decode cX5_endOfWay 10 = .ok (.if_icmp .ne 6, 3) := by decide +kernel
theorem dX5_endOfWay_13 : decode cX5_endOfWay 13 = .ok (.bipush (-6), 2) := by decide +kernel
theorem dX5_endOfWay_15 : decode cX5_endOfWay 15 = .ok (.ireturn, 1) := by decide +kernel
theorem dX5_endOfWay_16 : decode cX5_endOfWay 16 = .ok (.aload_n 0, 1) := by decide +kernel
theorem dX5_endOfWay_17 : decode cX5_endOfWay 17 = .ok (.iload_n 1, 1) := by decide +kernel
theorem dX5_endOfWay_18 : decode cX5_endOfWay 18 = .ok (.iload_n 2, 1) := by decide +kernel
theorem dX5_endOfWay_19 : decode cX5_endOfWay 19 = .ok (.iload_n 3, 1) := by decide +kernel
theorem dX5_endOfWay_20 : decode cX5_endOfWay 20 = .ok (.invokevirtual 58, 3) := by decide +kernel
theorem dX5_endOfWay_23 : decode cX5_endOfWay 23 = .ok (.istore 4, 2) := by decide +kernel
theorem dX5_endOfWay_25 : decode cX5_endOfWay 25 = .ok (.bipush 100, 2) := by decide +kernel
theorem dX5_endOfWay_27 : decode cX5_endOfWay 27 = .ok (.iload 4, 2) := by decide +kernel
theorem dX5_endOfWay_29 : decode cX5_endOfWay 29 = .ok (.bipush 60, 2) := by decide +kernel
theorem dX5_endOfWay_31 : decode cX5_endOfWay 31 = .ok (.idiv, 1) := by decide +kernel
theorem dX5_endOfWay_32 : decode cX5_endOfWay 32 = .ok (.imul, 1) := by decide +kernel
theorem dX5_endOfWay_33 : decode cX5_endOfWay 33 = .ok (.iload 4, 2) := by decide +kernel
theorem dX5_endOfWay_35 : decode cX5_endOfWay 35 = .ok (.bipush 60, 2) := by decide +kernel
theorem dX5_endOfWay_37 : decode cX5_endOfWay 37 = .ok (.irem, 1) := by decide +kernel
theorem dX5_endOfWay_38 : decode cX5_endOfWay 38 = .ok (.iadd, 1) := by decide +kernel
theorem dX5_endOfWay_39 : decode cX5_endOfWay 39 = .ok (.ireturn, 1) := by decide +kernel
theorem dX5_unlikeWithin_0 : decode cX5_unlikeWithin 0 = .ok (.aload_n 0, 1) := by decide +kernel
theorem dX5_unlikeWithin_1 : decode cX5_unlikeWithin 1 = .ok (.iload_n 1, 1) := by decide +kernel
theorem dX5_unlikeWithin_2 : decode cX5_unlikeWithin 2 = .ok (.invokevirtual 72, 3) := by decide +kernel
theorem dX5_unlikeWithin_5 : decode cX5_unlikeWithin 5 = .ok (.istore_n 2, 1) := by decide +kernel
theorem dX5_unlikeWithin_6 : decode cX5_unlikeWithin 6 = .ok (.iconst 0, 1) := by decide +kernel
theorem dX5_unlikeWithin_7 : decode cX5_unlikeWithin 7 = .ok (.istore_n 3, 1) := by decide +kernel
theorem dX5_unlikeWithin_8 : decode cX5_unlikeWithin 8 = .ok (.iconst 0, 1) := by decide +kernel
theorem dX5_unlikeWithin_9 : decode cX5_unlikeWithin 9 = .ok (.istore 4, 2) := by decide +kernel
theorem dX5_unlikeWithin_11 : decode cX5_unlikeWithin 11 = .ok (.iload 4, 2) := by decide +kernel
theorem dX5_unlikeWithin_13 : decode cX5_unlikeWithin 13 = .ok (.iload_n 2, 1) := by decide +kernel
theorem dX5_unlikeWithin_14 : decode cX5_unlikeWithin 14 = .ok (.if_icmp .ge 21, 3) := by decide +kernel
theorem dX5_unlikeWithin_17 : decode cX5_unlikeWithin 17 = .ok (.aload_n 0, 1) := by decide +kernel
theorem dX5_unlikeWithin_18 : decode cX5_unlikeWithin 18 = .ok (.iload 4, 2) := by decide +kernel
theorem dX5_unlikeWithin_20 : decode cX5_unlikeWithin 20 = .ok (.invokevirtual 75, 3) := by decide +kernel
theorem dX5_unlikeWithin_23 : decode cX5_unlikeWithin 23 = .ok (.ifCond .ne 6, 3) := by decide +kernel
theorem dX5_unlikeWithin_26 : decode cX5_unlikeWithin 26 = .ok (.iinc 3 1, 3) := by decide +kernel
theorem dX5_unlikeWithin_29 : decode cX5_unlikeWithin 29 = .ok (.iinc 4 1, 3) := by decide +kernel
theorem dX5_unlikeWithin_32 : decode cX5_unlikeWithin 32 = .ok (.goto (-21), 3) := by decide +kernel
theorem dX5_unlikeWithin_35 : decode cX5_unlikeWithin 35 = .ok (.iload_n 3, 1) := by decide +kernel
theorem dX5_unlikeWithin_36 : decode cX5_unlikeWithin 36 = .ok (.ireturn, 1) := by decide +kernel
theorem dX5_pairsThatMay_0 : decode cX5_pairsThatMay 0 = .ok (.iconst 0, 1) := by decide +kernel
theorem dX5_pairsThatMay_1 : decode cX5_pairsThatMay 1 = .ok (.istore_n 1, 1) := by decide +kernel
theorem dX5_pairsThatMay_2 : decode cX5_pairsThatMay 2 = .ok (.iconst 0, 1) := by decide +kernel
theorem dX5_pairsThatMay_3 : decode cX5_pairsThatMay 3 = .ok (.istore_n 2, 1) := by decide +kernel
theorem dX5_pairsThatMay_4 : decode cX5_pairsThatMay 4 = .ok (.iload_n 2, 1) := by decide +kernel
theorem dX5_pairsThatMay_5 : decode cX5_pairsThatMay 5 = .ok (.aload_n 0, 1) := by decide +kernel
theorem dX5_pairsThatMay_6 : decode cX5_pairsThatMay 6 = .ok (.getfield 9, 3) := by decide +kernel
theorem dX5_pairsThatMay_9 : decode cX5_pairsThatMay 9 = .ok (.invokevirtual 32, 3) := by decide +kernel
theorem dX5_pairsThatMay_12 : decode cX5_pairsThatMay 12 = .ok (.if_icmp .ge 45, 3) := by decide +kernel
theorem dX5_pairsThatMay_15 : decode cX5_pairsThatMay 15 = .ok (.iconst 0, 1) := by decide +kernel
theorem dX5_pairsThatMay_16 : decode cX5_pairsThatMay 16 = .ok (.istore_n 3, 1) := by decide +kernel
theorem dX5_pairsThatMay_17 : decode cX5_pairsThatMay 17 = .ok (.iload_n 3, 1) := by decide +kernel
theorem dX5_pairsThatMay_18 : decode cX5_pairsThatMay 18 = .ok (.aload_n 0, 1) := by decide +kernel
theorem dX5_pairsThatMay_19 : decode cX5_pairsThatMay 19 = .ok (.getfield 9, 3) := by decide +kernel
theorem dX5_pairsThatMay_22 : decode cX5_pairsThatMay 22 = .ok (.invokevirtual 32, 3) := by decide +kernel
theorem dX5_pairsThatMay_25 : decode cX5_pairsThatMay 25 = .ok (.if_icmp .ge 26, 3) := by decide +kernel
theorem dX5_pairsThatMay_28 : decode cX5_pairsThatMay 28 = .ok (.iload_n 2, 1) := by decide +kernel
theorem dX5_pairsThatMay_29 : decode cX5_pairsThatMay 29 = .ok (.iload_n 3, 1) := by decide +kernel
theorem dX5_pairsThatMay_30 : decode cX5_pairsThatMay 30 = .ok (.if_icmp .eq 15, 3) := by decide +kernel
theorem dX5_pairsThatMay_33 : decode cX5_pairsThatMay 33 = .ok (.aload_n 0, 1) := by decide +kernel
theorem dX5_pairsThatMay_34 : decode cX5_pairsThatMay 34 = .ok (.iload_n 2, 1) := by decide +kernel
theorem dX5_pairsThatMay_35 : decode cX5_pairsThatMay 35 = .ok (.iload_n 3, 1) := by decide +kernel
theorem dX5_pairsThatMay_36 : decode cX5_pairsThatMay 36 = .ok (.invokevirtual 51, 3) := by decide +kernel
theorem dX5_pairsThatMay_39 : decode cX5_pairsThatMay 39 = .ok (.ifCond .eq 6, 3) := by decide +kernel
theorem dX5_pairsThatMay_42 : decode cX5_pairsThatMay 42 = .ok (.iinc 1 1, 3) := by decide +kernel
theorem dX5_pairsThatMay_45 : decode cX5_pairsThatMay 45 = .ok (.iinc 3 1, 3) := by decide +kernel
theorem dX5_pairsThatMay_48 : decode cX5_pairsThatMay 48 = .ok (.goto (-31), 3) := by decide +kernel
theorem dX5_pairsThatMay_51 : decode cX5_pairsThatMay 51 = .ok (.iinc 2 1, 3) := by decide +kernel
theorem dX5_pairsThatMay_54 : decode cX5_pairsThatMay 54 = .ok (.goto (-50), 3) := by decide +kernel
theorem dX5_pairsThatMay_57 : decode cX5_pairsThatMay 57 = .ok (.iload_n 1, 1) := by decide +kernel
theorem dX5_pairsThatMay_58 : decode cX5_pairsThatMay 58 = .ok (.ireturn, 1) := by decide +kernel
theorem dX5_pairAfter_0 : decode cX5_pairAfter 0 = .ok (.iload_n 1, 1) := by decide +kernel
theorem dX5_pairAfter_1 : decode cX5_pairAfter 1 = .ok (.bipush 60, 2) := by decide +kernel
theorem dX5_pairAfter_3 : decode cX5_pairAfter 3 = .ok (.imul, 1) := by decide +kernel
theorem dX5_pairAfter_4 : decode cX5_pairAfter 4 = .ok (.iload_n 2, 1) := by decide +kernel
theorem dX5_pairAfter_5 : decode cX5_pairAfter 5 = .ok (.iadd, 1) := by decide +kernel
theorem dX5_pairAfter_6 : decode cX5_pairAfter 6 = .ok (.istore 4, 2) := by decide +kernel
theorem dX5_pairAfter_8 : decode cX5_pairAfter 8 = .ok (.iconst 0, 1) := by decide +kernel
theorem dX5_pairAfter_9 : decode cX5_pairAfter 9 = .ok (.istore 5, 2) := by decide +kernel
theorem dX5_pairAfter_11 : decode cX5_pairAfter 11 = .ok (.iload 5, 2) := by decide +kernel
theorem dX5_pairAfter_13 : decode cX5_pairAfter 13 = .ok (.iload_n 3, 1) := by decide +kernel
theorem dX5_pairAfter_14 : decode cX5_pairAfter 14 = .ok (.if_icmp .ge 23, 3) := by decide +kernel
theorem dX5_pairAfter_17 : decode cX5_pairAfter 17 = .ok (.aload_n 0, 1) := by decide +kernel
theorem dX5_pairAfter_18 : decode cX5_pairAfter 18 = .ok (.iload 4, 2) := by decide +kernel
theorem dX5_pairAfter_20 : decode cX5_pairAfter 20 = .ok (.aload_n 0, 1) := by decide +kernel
theorem dX5_pairAfter_21 : decode cX5_pairAfter 21 = .ok (.iload 4, 2) := by decide +kernel
theorem dX5_pairAfter_23 : decode cX5_pairAfter 23 = .ok (.invokevirtual 66, 3) := by decide +kernel
theorem dX5_pairAfter_26 : decode cX5_pairAfter 26 = .ok (.invokevirtual 78, 3) := by decide +kernel
theorem dX5_pairAfter_29 : decode cX5_pairAfter 29 = .ok (.istore 4, 2) := by decide +kernel
theorem dX5_pairAfter_31 : decode cX5_pairAfter 31 = .ok (.iinc 5 1, 3) := by decide +kernel
theorem dX5_pairAfter_34 : decode cX5_pairAfter 34 = .ok (.goto (-23), 3) := by decide +kernel
theorem dX5_pairAfter_37 : decode cX5_pairAfter 37 = .ok (.iload 4, 2) := by decide +kernel
theorem dX5_pairAfter_39 : decode cX5_pairAfter 39 = .ok (.ireturn, 1) := by decide +kernel
theorem dX5_isAlikeEarlier_0 : decode cX5_isAlikeEarlier 0 = .ok (.iconst 0, 1) := by decide +kernel
theorem dX5_isAlikeEarlier_1 : decode cX5_isAlikeEarlier 1 = .ok (.istore_n 2, 1) := by decide +kernel
theorem dX5_isAlikeEarlier_2 : decode cX5_isAlikeEarlier 2 = .ok (.iload_n 2, 1) := by decide +kernel
theorem dX5_isAlikeEarlier_3 : decode cX5_isAlikeEarlier 3 = .ok (.iload_n 1, 1) := by decide +kernel
theorem dX5_isAlikeEarlier_4 : decode cX5_isAlikeEarlier 4 = .ok (.if_icmp .ge 28, 3) := by decide +kernel
theorem dX5_isAlikeEarlier_7 : decode cX5_isAlikeEarlier 7 = .ok (.aload_n 0, 1) := by decide +kernel
theorem dX5_isAlikeEarlier_8 : decode cX5_isAlikeEarlier 8 = .ok (.aload_n 0, 1) := by decide +kernel
theorem dX5_isAlikeEarlier_9 : decode cX5_isAlikeEarlier 9 = .ok (.iload_n 2, 1) := by decide +kernel
theorem dX5_isAlikeEarlier_10 : decode cX5_isAlikeEarlier 10 = .ok (.invokevirtual 81, 3) := by decide +kernel
theorem dX5_isAlikeEarlier_13 : decode cX5_isAlikeEarlier 13 = .ok (.aload_n 0, 1) := by decide +kernel
theorem dX5_isAlikeEarlier_14 : decode cX5_isAlikeEarlier 14 = .ok (.iload_n 1, 1) := by decide +kernel
theorem dX5_isAlikeEarlier_15 : decode cX5_isAlikeEarlier 15 = .ok (.invokevirtual 81, 3) := by decide +kernel
theorem dX5_isAlikeEarlier_18 : decode cX5_isAlikeEarlier 18 = .ok (.invokevirtual 84, 3) := by decide +kernel
theorem dX5_isAlikeEarlier_21 : decode cX5_isAlikeEarlier 21 = .ok (.ifCond .eq 5, 3) := by decide +kernel
theorem dX5_isAlikeEarlier_24 : decode cX5_isAlikeEarlier 24 = .ok (.iconst 1, 1) := by decide +kernel
theorem dX5_isAlikeEarlier_25 : decode cX5_isAlikeEarlier 25 = .ok (.ireturn, 1) := by decide +kernel
theorem dX5_isAlikeEarlier_26 : decode cX5_isAlikeEarlier 26 = .ok (.iinc 2 1, 3) := by decide +kernel
theorem dX5_isAlikeEarlier_29 : decode cX5_isAlikeEarlier 29 = .ok (.goto (-27), 3) := by decide +kernel
theorem dX5_isAlikeEarlier_32 : decode cX5_isAlikeEarlier 32 = .ok (.iconst 0, 1) := by decide +kernel
theorem dX5_isAlikeEarlier_33 : decode cX5_isAlikeEarlier 33 = .ok (.ireturn, 1) := by decide +kernel
theorem dX5_reachedAt_0 : decode cX5_reachedAt 0 = .ok (.iload_n 1, 1) := by decide +kernel
theorem dX5_reachedAt_1 : decode cX5_reachedAt 1 = .ok (.ifCond .lt 18, 3) := by decide +kernel
theorem dX5_reachedAt_4 : decode cX5_reachedAt 4 = .ok (.iload_n 1, 1) := by decide +kernel
theorem dX5_reachedAt_5 : decode cX5_reachedAt 5 = .ok (.bipush 60, 2) := by decide +kernel
theorem dX5_reachedAt_7 : decode cX5_reachedAt 7 = .ok (.if_icmp .ge 12, 3) := by decide +kernel
theorem dX5_reachedAt_10 : decode cX5_reachedAt 10 = .ok (.aload_n 0, 1) := by decide +kernel
theorem dX5_reachedAt_11 : decode cX5_reachedAt 11 = .ok (.getfield 19, 3) := by decide +kernel
theorem dX5_reachedAt_14 : decode cX5_reachedAt 14 = .ok (.iload_n 1, 1) := by decide +kernel
theorem dX5_reachedAt_15 : decode cX5_reachedAt 15 = .ok (.iaload, 1) := by decide +kernel
theorem dX5_reachedAt_16 : decode cX5_reachedAt 16 = .ok (.goto 5, 3) := by decide +kernel
theorem dX5_reachedAt_19 : decode cX5_reachedAt 19 = .ok (.bipush (-6), 2) := by decide +kernel
theorem dX5_reachedAt_21 : decode cX5_reachedAt 21 = .ok (.ireturn, 1) := by decide +kernel
theorem dX5_reachFrom_0 : decode cX5_reachFrom 0 = .ok (.aload_n 0, 1) := by decide +kernel
theorem dX5_reachFrom_1 : decode cX5_reachFrom 1 = .ok (.dup, 1) := by decide +kernel
theorem dX5_reachFrom_2 : decode cX5_reachFrom 2 = .ok (.getfield 25, 3) := by decide +kernel
theorem dX5_reachFrom_5 : decode cX5_reachFrom 5 = .ok (.iconst 1, 1) := by decide +kernel
theorem dX5_reachFrom_6 : decode cX5_reachFrom 6 = .ok (.iadd, 1) := by decide +kernel
theorem dX5_reachFrom_7 : decode cX5_reachFrom 7 = .ok (.putfield 25, 3) := by decide +kernel
theorem dX5_reachFrom_10 : decode cX5_reachFrom 10 = .ok (.aload_n 0, 1) := by decide +kernel
theorem dX5_reachFrom_11 : decode cX5_reachFrom 11 = .ok (.iload_n 1, 1) := by decide +kernel
theorem dX5_reachFrom_12 : decode cX5_reachFrom 12 = .ok (.iconst 0, 1) := by decide +kernel
theorem dX5_reachFrom_13 : decode cX5_reachFrom 13 = .ok (.invokevirtual 87, 3) := by decide +kernel
theorem dX5_reachFrom_16 : decode cX5_reachFrom 16 = .ok (.istore_n 2, 1) := by decide +kernel
theorem dX5_reachFrom_17 : decode cX5_reachFrom 17 = .ok (.iconst 0, 1) := by decide +kernel
theorem dX5_reachFrom_18 : decode cX5_reachFrom 18 = .ok (.istore_n 3, 1) := by decide +kernel
theorem dX5_reachFrom_19 : decode cX5_reachFrom 19 = .ok (.iload_n 3, 1) := by decide +kernel
theorem dX5_reachFrom_20 : decode cX5_reachFrom 20 = .ok (.iload_n 2, 1) := by decide +kernel
theorem dX5_reachFrom_21 : decode cX5_reachFrom 21 = .ok (.if_icmp .ge 51, 3) := by decide +kernel
theorem dX5_reachFrom_24 : decode cX5_reachFrom 24 = .ok (.iload_n 3, 1) := by decide +kernel
theorem dX5_reachFrom_25 : decode cX5_reachFrom 25 = .ok (.bipush 60, 2) := by decide +kernel
theorem dX5_reachFrom_27 : decode cX5_reachFrom 27 = .ok (.if_icmp .ge 45, 3) := by decide +kernel
theorem dX5_reachFrom_30 : decode cX5_reachFrom 30 = .ok (.iconst 0, 1) := by decide +kernel
theorem dX5_reachFrom_31 : decode cX5_reachFrom 31 = .ok (.istore 4, 2) := by decide +kernel
theorem dX5_reachFrom_33 : decode cX5_reachFrom 33 = .ok (.iload 4, 2) := by decide +kernel
theorem dX5_reachFrom_35 : decode cX5_reachFrom 35 = .ok (.bipush 8, 2) := by decide +kernel
theorem dX5_reachFrom_37 : decode cX5_reachFrom 37 = .ok (.if_icmp .ge 29, 3) := by decide +kernel
theorem dX5_reachFrom_40 : decode cX5_reachFrom 40 = .ok (.aload_n 0, 1) := by decide +kernel
theorem dX5_reachFrom_41 : decode cX5_reachFrom 41 = .ok (.aload_n 0, 1) := by decide +kernel
theorem dX5_reachFrom_42 : decode cX5_reachFrom 42 = .ok (.getfield 9, 3) := by decide +kernel
theorem dX5_reachFrom_45 : decode cX5_reachFrom 45 = .ok (.aload_n 0, 1) := by decide +kernel
theorem dX5_reachFrom_46 : decode cX5_reachFrom 46 = .ok (.iload_n 3, 1) := by decide +kernel
theorem dX5_reachFrom_47 : decode cX5_reachFrom 47 = .ok (.invokevirtual 81, 3) := by decide +kernel
theorem dX5_reachFrom_50 : decode cX5_reachFrom 50 = .ok (.iload 4, 2) := by decide +kernel
theorem dX5_reachFrom_52 : decode cX5_reachFrom 52 = .ok (.invokevirtual 90, 3) := by decide +kernel
theorem dX5_reachFrom_55 : decode cX5_reachFrom 55 = .ok (.iload_n 2, 1) := by decide +kernel
theorem dX5_reachFrom_56 : decode cX5_reachFrom 56 = .ok (.invokevirtual 87, 3) := by decide +kernel
theorem dX5_reachFrom_59 : decode cX5_reachFrom 59 = .ok (.istore_n 2, 1) := by decide +kernel
theorem dX5_reachFrom_60 : decode cX5_reachFrom 60 = .ok (.iinc 4 1, 3) := by decide +kernel
theorem dX5_reachFrom_63 : decode cX5_reachFrom 63 = .ok (.goto (-30), 3) := by decide +kernel
theorem dX5_reachFrom_66 : decode cX5_reachFrom 66 = .ok (.iinc 3 1, 3) := by decide +kernel
theorem dX5_reachFrom_69 : decode cX5_reachFrom 69 = .ok (.goto (-50), 3) := by decide +kernel
theorem dX5_reachFrom_72 : decode cX5_reachFrom 72 = .ok (.iload_n 2, 1) := by decide +kernel
theorem dX5_reachFrom_73 : decode cX5_reachFrom 73 = .ok (.ireturn, 1) := by decide +kernel
theorem dX5_reachAlso_0 : decode cX5_reachAlso 0 = .ok (.iload_n 1, 1) := by decide +kernel
theorem dX5_reachAlso_1 : decode cX5_reachAlso 1 = .ok (.ifCond .lt 22, 3) := by decide +kernel
theorem dX5_reachAlso_4 : decode cX5_reachAlso 4 = .ok (.iload_n 1, 1) := by decide +kernel
theorem dX5_reachAlso_5 : decode cX5_reachAlso 5 = .ok (.bipush 60, 2) := by decide +kernel
theorem dX5_reachAlso_7 : decode cX5_reachAlso 7 = .ok (.if_icmp .ge 16, 3) := by decide +kernel
theorem dX5_reachAlso_10 : decode cX5_reachAlso 10 = .ok (.aload_n 0, 1) := by decide +kernel
theorem dX5_reachAlso_11 : decode cX5_reachAlso 11 = .ok (.getfield 22, 3) := by decide +kernel
theorem dX5_reachAlso_14 : decode cX5_reachAlso 14 = .ok (.iload_n 1, 1) := by decide +kernel
theorem dX5_reachAlso_15 : decode cX5_reachAlso 15 = .ok (.iaload, 1) := by decide +kernel
theorem dX5_reachAlso_16 : decode cX5_reachAlso 16 = .ok (.aload_n 0, 1) := by decide +kernel
theorem dX5_reachAlso_17 : decode cX5_reachAlso 17 = .ok (.getfield 25, 3) := by decide +kernel
theorem dX5_reachAlso_20 : decode cX5_reachAlso 20 = .ok (.if_icmp .ne 5, 3) := by decide +kernel
theorem dX5_reachAlso_23 : decode cX5_reachAlso 23 = .ok (.iload_n 2, 1) := by decide +kernel
theorem dX5_reachAlso_24 : decode cX5_reachAlso 24 = .ok (.ireturn, 1) := by decide +kernel
theorem dX5_reachAlso_25 : decode cX5_reachAlso 25 = .ok (.iload_n 2, 1) := by decide +kernel
theorem dX5_reachAlso_26 : decode cX5_reachAlso 26 = .ok (.ifCond .lt 9, 3) := by decide +kernel
theorem dX5_reachAlso_29 : decode cX5_reachAlso 29 = .ok (.iload_n 2, 1) := by decide +kernel
theorem dX5_reachAlso_30 : decode cX5_reachAlso 30 = .ok (.bipush 60, 2) := by decide +kernel
theorem dX5_reachAlso_32 : decode cX5_reachAlso 32 = .ok (.if_icmp .lt 5, 3) := by decide +kernel
theorem dX5_reachAlso_35 : decode cX5_reachAlso 35 = .ok (.iload_n 2, 1) := by decide +kernel
theorem dX5_reachAlso_36 : decode cX5_reachAlso 36 = .ok (.ireturn, 1) := by decide +kernel
theorem dX5_reachAlso_37 : decode cX5_reachAlso 37 = .ok (.aload_n 0, 1) := by decide +kernel
theorem dX5_reachAlso_38 : decode cX5_reachAlso 38 = .ok (.getfield 22, 3) := by decide +kernel
theorem dX5_reachAlso_41 : decode cX5_reachAlso 41 = .ok (.iload_n 1, 1) := by decide +kernel
theorem dX5_reachAlso_42 : decode cX5_reachAlso 42 = .ok (.aload_n 0, 1) := by decide +kernel
theorem dX5_reachAlso_43 : decode cX5_reachAlso 43 = .ok (.getfield 25, 3) := by decide +kernel
theorem dX5_reachAlso_46 : decode cX5_reachAlso 46 = .ok (.iastore, 1) := by decide +kernel
theorem dX5_reachAlso_47 : decode cX5_reachAlso 47 = .ok (.aload_n 0, 1) := by decide +kernel
theorem dX5_reachAlso_48 : decode cX5_reachAlso 48 = .ok (.getfield 19, 3) := by decide +kernel
theorem dX5_reachAlso_51 : decode cX5_reachAlso 51 = .ok (.iload_n 2, 1) := by decide +kernel
theorem dX5_reachAlso_52 : decode cX5_reachAlso 52 = .ok (.iload_n 1, 1) := by decide +kernel
theorem dX5_reachAlso_53 : decode cX5_reachAlso 53 = .ok (.iastore, 1) := by decide +kernel
theorem dX5_reachAlso_54 : decode cX5_reachAlso 54 = .ok (.iload_n 2, 1) := by decide +kernel
theorem dX5_reachAlso_55 : decode cX5_reachAlso 55 = .ok (.iconst 1, 1) := by decide +kernel
theorem dX5_reachAlso_56 : decode cX5_reachAlso 56 = .ok (.iadd, 1) := by decide +kernel
theorem dX5_reachAlso_57 : decode cX5_reachAlso 57 = .ok (.ireturn, 1) := by decide +kernel
theorem dX5_startPairs_0 : decode cX5_startPairs 0 = .ok (.iconst 0, 1) := by decide +kernel
theorem dX5_startPairs_1 : decode cX5_startPairs 1 = .ok (.istore_n 2, 1) := by decide +kernel
theorem dX5_startPairs_2 : decode cX5_startPairs 2 = .ok (.iload_n 2, 1) := by decide +kernel
theorem dX5_startPairs_3 : decode cX5_startPairs 3 = .ok (.iload_n 1, 1) := by decide +kernel
theorem dX5_startPairs_4 : decode cX5_startPairs 4 = .ok (.if_icmp .ge 58, 3) := by decide +kernel
theorem dX5_startPairs_7 : decode cX5_startPairs 7 = .ok (.iload_n 2, 1) := by decide +kernel
theorem dX5_startPairs_8 : decode cX5_startPairs 8 = .ok (.aload_n 0, 1) := by decide +kernel
theorem dX5_startPairs_9 : decode cX5_startPairs 9 = .ok (.getfield 29, 3) := by decide +kernel
theorem dX5_startPairs_12 : decode cX5_startPairs 12 = .ok (.if_icmp .ge 10, 3) := by decide +kernel
theorem dX5_startPairs_15 : decode cX5_startPairs 15 = .ok (.aload_n 0, 1) := by decide +kernel
theorem dX5_startPairs_16 : decode cX5_startPairs 16 = .ok (.getfield 29, 3) := by decide +kernel
theorem dX5_startPairs_19 : decode cX5_startPairs 19 = .ok (.goto 4, 3) := by decide +kernel
theorem dX5_startPairs_22 : decode cX5_startPairs 22 = .ok (.iconst 0, 1) := by decide +kernel
theorem dX5_startPairs_23 : decode cX5_startPairs 23 = .ok (.istore_n 3, 1) := by decide +kernel
theorem dX5_startPairs_24 : decode cX5_startPairs 24 = .ok (.iload_n 3, 1) := by decide +kernel
theorem dX5_startPairs_25 : decode cX5_startPairs 25 = .ok (.iload_n 1, 1) := by decide +kernel
theorem dX5_startPairs_26 : decode cX5_startPairs 26 = .ok (.if_icmp .ge 30, 3) := by decide +kernel
theorem dX5_startPairs_29 : decode cX5_startPairs 29 = .ok (.aload_n 0, 1) := by decide +kernel
theorem dX5_startPairs_30 : decode cX5_startPairs 30 = .ok (.iload_n 2, 1) := by decide +kernel
theorem dX5_startPairs_31 : decode cX5_startPairs 31 = .ok (.iload_n 3, 1) := by decide +kernel
theorem dX5_startPairs_32 : decode cX5_startPairs 32 = .ok (.aload_n 0, 1) := by decide +kernel
theorem dX5_startPairs_33 : decode cX5_startPairs 33 = .ok (.iload_n 2, 1) := by decide +kernel
theorem dX5_startPairs_34 : decode cX5_startPairs 34 = .ok (.iload_n 3, 1) := by decide +kernel
theorem dX5_startPairs_35 : decode cX5_startPairs 35 = .ok (.invokevirtual 93, 3) := by decide +kernel
theorem dX5_startPairs_38 : decode cX5_startPairs 38 = .ok (.ifCond .eq 8, 3) := by decide +kernel
theorem dX5_startPairs_41 : decode cX5_startPairs 41 = .ok (.ldc 50, 2) := by decide +kernel
theorem dX5_startPairs_43 : decode cX5_startPairs 43 = .ok (.goto 4, 3) := by decide +kernel
theorem dX5_startPairs_46 : decode cX5_startPairs 46 = .ok (.iconst 0, 1) := by decide +kernel
theorem dX5_startPairs_47 : decode cX5_startPairs 47 = .ok (.invokevirtual 96, 3) := by decide +kernel
theorem dX5_startPairs_50 : decode cX5_startPairs 50 = .ok (.iinc 3 1, 3) := by decide +kernel
theorem dX5_startPairs_53 : decode cX5_startPairs 53 = .ok (.goto (-29), 3) := by decide +kernel
theorem dX5_startPairs_56 : decode cX5_startPairs 56 = .ok (.iinc 2 1, 3) := by decide +kernel
theorem dX5_startPairs_59 : decode cX5_startPairs 59 = .ok (.goto (-57), 3) := by decide +kernel
theorem dX5_startPairs_62 : decode cX5_startPairs 62 = .ok (.return_, 1) := by decide +kernel
theorem dX5_shortenPairs_0 : decode cX5_shortenPairs 0 = .ok (.iconst 0, 1) := by decide +kernel
theorem dX5_shortenPairs_1 : decode cX5_shortenPairs 1 = .ok (.istore_n 2, 1) := by decide +kernel
theorem dX5_shortenPairs_2 : decode cX5_shortenPairs 2 = .ok (.iload_n 1, 1) := by decide +kernel
theorem dX5_shortenPairs_3 : decode cX5_shortenPairs 3 = .ok (.iconst 1, 1) := by decide +kernel
theorem dX5_shortenPairs_4 : decode cX5_shortenPairs 4 = .ok (.isub, 1) := by decide +kernel
theorem dX5_shortenPairs_5 : decode cX5_shortenPairs 5 = .ok (.istore_n 3, 1) := by decide +kernel
theorem dX5_shortenPairs_6 : decode cX5_shortenPairs 6 = .ok (.iload_n 3, 1) := by decide +kernel
theorem dX5_shortenPairs_7 : decode cX5_shortenPairs 7 = .ok (.ifCond .lt 92, 3) := by decide +kernel
theorem dX5_shortenPairs_10 : decode cX5_shortenPairs 10 = .ok (.iload_n 3, 1) := by decide +kernel
theorem dX5_shortenPairs_11 : decode cX5_shortenPairs 11 = .ok (.aload_n 0, 1) := by decide +kernel
theorem dX5_shortenPairs_12 : decode cX5_shortenPairs 12 = .ok (.getfield 29, 3) := by decide +kernel
theorem dX5_shortenPairs_15 : decode cX5_shortenPairs 15 = .ok (.if_icmp .ge 10, 3) := by decide +kernel
theorem dX5_shortenPairs_18 : decode cX5_shortenPairs 18 = .ok (.aload_n 0, 1) := by decide +kernel
theorem dX5_shortenPairs_19 : decode cX5_shortenPairs 19 = .ok (.getfield 29, 3) := by decide +kernel
theorem dX5_shortenPairs_22 : decode cX5_shortenPairs 22 = .ok (.goto 4, 3) := by decide +kernel
theorem dX5_shortenPairs_25 : decode cX5_shortenPairs 25 = .ok (.iconst 0, 1) := by decide +kernel
theorem dX5_shortenPairs_26 : decode cX5_shortenPairs 26 = .ok (.istore 4, 2) := by decide +kernel
theorem dX5_shortenPairs_28 : decode cX5_shortenPairs 28 = .ok (.iload_n 1, 1) := by decide +kernel
theorem dX5_shortenPairs_29 : decode cX5_shortenPairs 29 = .ok (.iconst 1, 1) := by decide +kernel
theorem dX5_shortenPairs_30 : decode cX5_shortenPairs 30 = .ok (.isub, 1) := by decide +kernel
theorem dX5_shortenPairs_31 : decode cX5_shortenPairs 31 = .ok (.istore 5, 2) := by decide +kernel
theorem dX5_shortenPairs_33 : decode cX5_shortenPairs 33 = .ok (.iload 5, 2) := by decide +kernel
theorem dX5_shortenPairs_35 : decode cX5_shortenPairs 35 = .ok (.iload 4, 2) := by decide +kernel
theorem dX5_shortenPairs_37 : decode cX5_shortenPairs 37 = .ok (.if_icmp .lt 56, 3) := by decide +kernel
theorem dX5_shortenPairs_40 : decode cX5_shortenPairs 40 = .ok (.aload_n 0, 1) := by decide +kernel
theorem dX5_shortenPairs_41 : decode cX5_shortenPairs 41 = .ok (.iload_n 3, 1) := by decide +kernel
theorem dX5_shortenPairs_42 : decode cX5_shortenPairs 42 = .ok (.iload 5, 2) := by decide +kernel
theorem dX5_shortenPairs_44 : decode cX5_shortenPairs 44 = .ok (.invokevirtual 46, 3) := by decide +kernel
theorem dX5_shortenPairs_47 : decode cX5_shortenPairs 47 = .ok (.istore 6, 2) := by decide +kernel
theorem dX5_shortenPairs_49 : decode cX5_shortenPairs 49 = .ok (.iload 6, 2) := by decide +kernel
theorem dX5_shortenPairs_51 : decode cX5_shortenPairs 51 = .ok (.ifCond .ne 7, 3) := by decide +kernel
theorem dX5_shortenPairs_54 : decode cX5_shortenPairs 54 = .ok (.iconst 0, 1) := by decide +kernel
theorem dX5_shortenPairs_55 : decode cX5_shortenPairs 55 = .ok (.goto 12, 3) := by decide +kernel
theorem dX5_shortenPairs_58 : decode cX5_shortenPairs 58 = .ok (.aload_n 0, 1) := by decide +kernel
theorem dX5_shortenPairs_59 : decode cX5_shortenPairs 59 = .ok (.iload_n 3, 1) := by decide +kernel
theorem dX5_shortenPairs_60 : decode cX5_shortenPairs 60 = .ok (.iload 5, 2) := by decide +kernel
theorem dX5_shortenPairs_62 : decode cX5_shortenPairs 62 = .ok (.invokevirtual 100, 3) := by decide +kernel
theorem dX5_shortenPairs_65 : decode cX5_shortenPairs 65 = .ok (.iconst 1, 1) := by decide +kernel
theorem dX5_shortenPairs_66 : decode cX5_shortenPairs 66 = .ok (.iadd, 1) := by decide +kernel
theorem dX5_shortenPairs_67 : decode cX5_shortenPairs 67 = .ok (.istore 7, 2) := by decide +kernel
theorem dX5_shortenPairs_69 : decode cX5_shortenPairs 69 = .ok (.iload 7, 2) := by decide +kernel
theorem dX5_shortenPairs_71 : decode cX5_shortenPairs 71 = .ok (.iload 6, 2) := by decide +kernel
theorem dX5_shortenPairs_73 : decode cX5_shortenPairs 73 = .ok (.if_icmp .ge 14, 3) := by decide +kernel
theorem dX5_shortenPairs_76 : decode cX5_shortenPairs 76 = .ok (.aload_n 0, 1) := by decide +kernel
theorem dX5_shortenPairs_77 : decode cX5_shortenPairs 77 = .ok (.iload_n 3, 1) := by decide +kernel
theorem dX5_shortenPairs_78 : decode cX5_shortenPairs 78 = .ok (.iload 5, 2) := by decide +kernel
theorem dX5_shortenPairs_80 : decode cX5_shortenPairs 80 = .ok (.iload 7, 2) := by decide +kernel
theorem dX5_shortenPairs_82 : decode cX5_shortenPairs 82 = .ok (.invokevirtual 96, 3) := by decide +kernel
theorem dX5_shortenPairs_85 : decode cX5_shortenPairs 85 = .ok (.iconst 1, 1) := by decide +kernel
theorem dX5_shortenPairs_86 : decode cX5_shortenPairs 86 = .ok (.istore_n 2, 1) := by decide +kernel
theorem dX5_shortenPairs_87 : decode cX5_shortenPairs 87 = .ok (.iinc 5 (-1), 3) := by decide +kernel
theorem dX5_shortenPairs_90 : decode cX5_shortenPairs 90 = .ok (.goto (-57), 3) := by decide +kernel
theorem dX5_shortenPairs_93 : decode cX5_shortenPairs 93 = .ok (.iinc 3 (-1), 3) := by decide +kernel
theorem dX5_shortenPairs_96 : decode cX5_shortenPairs 96 = .ok (.goto (-90), 3) := by decide +kernel
theorem dX5_shortenPairs_99 : decode cX5_shortenPairs 99 = .ok (.iload_n 2, 1) := by decide +kernel
theorem dX5_shortenPairs_100 : decode cX5_shortenPairs 100 = .ok (.ireturn, 1) := by decide +kernel
theorem dX5_fewestBehind_0 : decode cX5_fewestBehind 0 = .ok (.ldc 50, 2) := by decide +kernel
theorem dX5_fewestBehind_2 : decode cX5_fewestBehind 2 = .ok (.istore_n 3, 1) := by decide +kernel
theorem dX5_fewestBehind_3 : decode cX5_fewestBehind 3 = .ok (.aload_n 0, 1) := by decide +kernel
theorem dX5_fewestBehind_4 : decode cX5_fewestBehind 4 = .ok (.getfield 9, 3) := by decide +kernel
