theorem dX2_forget_0 : decode cX2_forget 0 = .ok (.aload_n 0, 1) := by decide +kernel
theorem dX2_forget_1 : decode cX2_forget 1 = .ok (.iconst 0, 1) := by decide +kernel
theorem dX2_forget_2 : decode cX2_forget 2 = .ok (.putfield 19, 3) := by decide +kernel
theorem dX2_forget_5 : decode cX2_forget 5 = .ok (.return_, 1) := by decide +kernel
theorem dX2_leastOf_0 : decode cX2_leastOf 0 = .ok (.aload_n 0, 1) := by decide +kernel
theorem dX2_leastOf_1 : decode cX2_leastOf 1 = .ok (.invokevirtual 23, 3) := by decide +kernel
theorem dX2_leastOf_4 : decode cX2_leastOf 4 = .ok (.aload_n 0, 1) := by decide +kernel
theorem dX2_leastOf_5 : decode cX2_leastOf 5 = .ok (.iload_n 1, 1) := by decide +kernel
theorem dX2_leastOf_6 : decode cX2_leastOf 6 = .ok (.invokevirtual 26, 3) := by decide +kernel
theorem dX2_leastOf_9 : decode cX2_leastOf 9 = .ok (.bipush 40, 2) := by decide +kernel
theorem dX2_leastOf_11 : decode cX2_leastOf 11 = .ok (.if_icmp .le 8, 3) := by decide +kernel
theorem dX2_leastOf_14 : decode cX2_leastOf 14 = .ok (.bipush (-6), 2) := by decide +kernel
theorem dX2_leastOf_16 : decode cX2_leastOf 16 = .ok (.goto 8, 3) := by decide +kernel
theorem dX2_leastOf_19 : decode cX2_leastOf 19 = .ok (.aload_n 0, 1) := by decide +kernel
theorem dX2_leastOf_20 : decode cX2_leastOf 20 = .ok (.iload_n 1, 1) := by decide +kernel
theorem dX2_leastOf_21 : decode cX2_leastOf 21 = .ok (.invokevirtual 26, 3) := by decide +kernel
theorem dX2_leastOf_24 : decode cX2_leastOf 24 = .ok (.ireturn, 1) := by decide +kernel
theorem dX2_emptyNodes_0 : decode cX2_emptyNodes 0 = .ok (.aload_n 0, 1) := by decide +kernel
theorem dX2_emptyNodes_1 : decode cX2_emptyNodes 1 = .ok (.invokevirtual 23, 3) := by decide +kernel
theorem dX2_emptyNodes_4 : decode cX2_emptyNodes 4 = .ok (.iconst 0, 1) := by decide +kernel
theorem dX2_emptyNodes_5 : decode cX2_emptyNodes 5 = .ok (.istore_n 1, 1) := by decide +kernel
theorem dX2_emptyNodes_6 : decode cX2_emptyNodes 6 = .ok (.iconst 0, 1) := by decide +kernel
theorem dX2_emptyNodes_7 : decode cX2_emptyNodes 7 = .ok (.istore_n 2, 1) := by decide +kernel
theorem dX2_emptyNodes_8 : decode cX2_emptyNodes 8 = .ok (.iload_n 2, 1) := by decide +kernel
theorem dX2_emptyNodes_9 : decode cX2_emptyNodes 9 = .ok (.aload_n 0, 1) := by decide +kernel
theorem dX2_emptyNodes_10 : decode cX2_emptyNodes 10 = .ok (.getfield 11, 3) := by decide +kernel
theorem dX2_emptyNodes_13 : decode cX2_emptyNodes 13 = .ok (.invokevirtual 30, 3) := by decide +kernel
theorem dX2_emptyNodes_16 : decode cX2_emptyNodes 16 = .ok (.if_icmp .ge 22, 3) := by decide +kernel
theorem dX2_emptyNodes_19 : decode cX2_emptyNodes 19 = .ok (.aload_n 0, 1) := by decide +kernel
theorem dX2_emptyNodes_20 : decode cX2_emptyNodes 20 = .ok (.iload_n 2, 1) := by decide +kernel
theorem dX2_emptyNodes_21 : decode cX2_emptyNodes 21 = .ok (.invokevirtual 26, 3) := by decide +kernel
theorem dX2_emptyNodes_24 : decode cX2_emptyNodes 24 = .ok (.bipush 40, 2) := by decide +kernel
theorem dX2_emptyNodes_26 : decode cX2_emptyNodes 26 = .ok (.if_icmp .le 6, 3) := by decide +kernel
theorem dX2_emptyNodes_29 : decode cX2_emptyNodes 29 = .ok (.iinc 1 1, 3) := by decide +kernel
theorem dX2_emptyNodes_32 : decode cX2_emptyNodes 32 = .ok (.iinc 2 1, 3) := by decide +kernel
theorem dX2_emptyNodes_35 : decode cX2_emptyNodes 35 = .ok (.goto (-27), 3) := by decide +kernel
theorem dX2_emptyNodes_38 : decode cX2_emptyNodes 38 = .ok (.iload_n 1, 1) := by decide +kernel
theorem dX2_emptyNodes_39 : decode cX2_emptyNodes 39 = .ok (.ireturn, 1) := by decide +kernel
theorem dX2_catchUp_0 : decode cX2_catchUp 0 = .ok (.aload_n 0, 1) := by decide +kernel
theorem dX2_catchUp_1 : decode cX2_catchUp 1 = .ok (.getfield 11, 3) := by decide +kernel
theorem dX2_catchUp_4 : decode cX2_catchUp 4 = .ok (.invokevirtual 30, 3) := by decide +kernel
theorem dX2_catchUp_7 : decode cX2_catchUp 7 = .ok (.bipush 60, 2) := by decide +kernel
theorem dX2_catchUp_9 : decode cX2_catchUp 9 = .ok (.invokestatic 36, 3) := by decide +kernel
theorem dX2_catchUp_12 : decode cX2_catchUp 12 = .ok (.istore_n 1, 1) := by decide +kernel
theorem dX2_catchUp_13 : decode cX2_catchUp 13 = .ok (.aload_n 0, 1) := by decide +kernel
theorem dX2_catchUp_14 : decode cX2_catchUp 14 = .ok (.getfield 19, 3) := by decide +kernel
theorem dX2_catchUp_17 : decode cX2_catchUp 17 = .ok (.ifCond .lt 11, 3) := by decide +kernel
theorem dX2_catchUp_20 : decode cX2_catchUp 20 = .ok (.aload_n 0, 1) := by decide +kernel
theorem dX2_catchUp_21 : decode cX2_catchUp 21 = .ok (.getfield 19, 3) := by decide +kernel
theorem dX2_catchUp_24 : decode cX2_catchUp 24 = .ok (.iload_n 1, 1) := by decide +kernel
theorem dX2_catchUp_25 : decode cX2_catchUp 25 = .ok (.if_icmp .lt 4, 3) := by decide +kernel
theorem dX2_catchUp_28 : decode cX2_catchUp 28 = .ok (.return_, 1) := by decide +kernel
theorem dX2_catchUp_29 : decode cX2_catchUp 29 = .ok (.aload_n 0, 1) := by decide +kernel
theorem dX2_catchUp_30 : decode cX2_catchUp 30 = .ok (.getfield 19, 3) := by decide +kernel
theorem dX2_catchUp_33 : decode cX2_catchUp 33 = .ok (.istore_n 2, 1) := by decide +kernel
theorem dX2_catchUp_34 : decode cX2_catchUp 34 = .ok (.iload_n 2, 1) := by decide +kernel
theorem dX2_catchUp_35 : decode cX2_catchUp 35 = .ok (.iload_n 1, 1) := by decide +kernel
theorem dX2_catchUp_36 : decode cX2_catchUp 36 = .ok (.if_icmp .ge 17, 3) := by decide +kernel
theorem dX2_catchUp_39 : decode cX2_catchUp 39 = .ok (.aload_n 0, 1) := by decide +kernel
theorem dX2_catchUp_40 : decode cX2_catchUp 40 = .ok (.getfield 15, 3) := by decide +kernel
theorem dX2_catchUp_43 : decode cX2_catchUp 43 = .ok (.iload_n 2, 1) := by decide +kernel
theorem dX2_catchUp_44 : decode cX2_catchUp 44 = .ok (.bipush 41, 2) := by decide +kernel
theorem dX2_catchUp_46 : decode cX2_catchUp 46 = .ok (.iastore, 1) := by decide +kernel
theorem dX2_catchUp_47 : decode cX2_catchUp 47 = .ok (.iinc 2 1, 3) := by decide +kernel
theorem dX2_catchUp_50 : decode cX2_catchUp 50 = .ok (.goto (-16), 3) := by decide +kernel
theorem dX2_catchUp_53 : decode cX2_catchUp 53 = .ok (.iconst 1, 1) := by decide +kernel
theorem dX2_catchUp_54 : decode cX2_catchUp 54 = .ok (.istore_n 2, 1) := by decide +kernel
theorem dX2_catchUp_55 : decode cX2_catchUp 55 = .ok (.iconst 0, 1) := by decide +kernel
theorem dX2_catchUp_56 : decode cX2_catchUp 56 = .ok (.istore_n 3, 1) := by decide +kernel
theorem dX2_catchUp_57 : decode cX2_catchUp 57 = .ok (.iload_n 3, 1) := by decide +kernel
theorem dX2_catchUp_58 : decode cX2_catchUp 58 = .ok (.sipush 2400, 3) := by decide +kernel
theorem dX2_catchUp_61 : decode cX2_catchUp 61 = .ok (.if_icmp .ge 19, 3) := by decide +kernel
theorem dX2_catchUp_64 : decode cX2_catchUp 64 = .ok (.iload_n 2, 1) := by decide +kernel
theorem dX2_catchUp_65 : decode cX2_catchUp 65 = .ok (.ifCond .eq 15, 3) := by decide +kernel
theorem dX2_catchUp_68 : decode cX2_catchUp 68 = .ok (.aload_n 0, 1) := by decide +kernel
theorem dX2_catchUp_69 : decode cX2_catchUp 69 = .ok (.iload_n 1, 1) := by decide +kernel
theorem dX2_catchUp_70 : decode cX2_catchUp 70 = .ok (.invokevirtual 42, 3) := by decide +kernel
theorem dX2_catchUp_73 : decode cX2_catchUp 73 = .ok (.istore_n 2, 1) := by decide +kernel
theorem dX2_catchUp_74 : decode cX2_catchUp 74 = .ok (.iinc 3 1, 3) := by decide +kernel
theorem dX2_catchUp_77 : decode cX2_catchUp 77 = .ok (.goto (-20), 3) := by decide +kernel
theorem dX2_catchUp_80 : decode cX2_catchUp 80 = .ok (.aload_n 0, 1) := by decide +kernel
theorem dX2_catchUp_81 : decode cX2_catchUp 81 = .ok (.iload_n 1, 1) := by decide +kernel
theorem dX2_catchUp_82 : decode cX2_catchUp 82 = .ok (.putfield 19, 3) := by decide +kernel
theorem dX2_catchUp_85 : decode cX2_catchUp 85 = .ok (.return_, 1) := by decide +kernel
theorem dX2_lessen_0 : decode cX2_lessen 0 = .ok (.iconst 0, 1) := by decide +kernel
theorem dX2_lessen_1 : decode cX2_lessen 1 = .ok (.istore_n 2, 1) := by decide +kernel
theorem dX2_lessen_2 : decode cX2_lessen 2 = .ok (.iload_n 1, 1) := by decide +kernel
theorem dX2_lessen_3 : decode cX2_lessen 3 = .ok (.iconst 1, 1) := by decide +kernel
theorem dX2_lessen_4 : decode cX2_lessen 4 = .ok (.isub, 1) := by decide +kernel
theorem dX2_lessen_5 : decode cX2_lessen 5 = .ok (.istore_n 3, 1) := by decide +kernel
theorem dX2_lessen_6 : decode cX2_lessen 6 = .ok (.iload_n 3, 1) := by decide +kernel
theorem dX2_lessen_7 : decode cX2_lessen 7 = .ok (.aload_n 0, 1) := by decide +kernel
theorem dX2_lessen_8 : decode cX2_lessen 8 = .ok (.getfield 19, 3) := by decide +kernel
theorem dX2_lessen_11 : decode cX2_lessen 11 = .ok (.if_icmp .lt 52, 3) := by decide +kernel
theorem dX2_lessen_14 : decode cX2_lessen 14 = .ok (.iload_n 3, 1) := by decide +kernel
theorem dX2_lessen_15 : decode cX2_lessen 15 = .ok (.ifCond .lt 48, 3) := by decide +kernel
theorem dX2_lessen_18 : decode cX2_lessen 18 = .ok (.bipush 41, 2) := by decide +kernel
theorem dX2_lessen_20 : decode cX2_lessen 20 = .ok (.aload_n 0, 1) := by decide +kernel
theorem dX2_lessen_21 : decode cX2_lessen 21 = .ok (.iload_n 3, 1) := by decide +kernel
theorem dX2_lessen_22 : decode cX2_lessen 22 = .ok (.invokevirtual 46, 3) := by decide +kernel
theorem dX2_lessen_25 : decode cX2_lessen 25 = .ok (.invokestatic 36, 3) := by decide +kernel
theorem dX2_lessen_28 : decode cX2_lessen 28 = .ok (.istore 4, 2) := by decide +kernel
theorem dX2_lessen_30 : decode cX2_lessen 30 = .ok (.iload_n 3, 1) := by decide +kernel
theorem dX2_lessen_31 : decode cX2_lessen 31 = .ok (.bipush 60, 2) := by decide +kernel
theorem dX2_lessen_33 : decode cX2_lessen 33 = .ok (.if_icmp .ge 24, 3) := by decide +kernel
theorem dX2_lessen_36 : decode cX2_lessen 36 = .ok (.iload 4, 2) := by decide +kernel
theorem dX2_lessen_38 : decode cX2_lessen 38 = .ok (.aload_n 0, 1) := by decide +kernel
theorem dX2_lessen_39 : decode cX2_lessen 39 = .ok (.getfield 15, 3) := by decide +kernel
theorem dX2_lessen_42 : decode cX2_lessen 42 = .ok (.iload_n 3, 1) := by decide +kernel
theorem dX2_lessen_43 : decode cX2_lessen 43 = .ok (.iaload, 1) := by decide +kernel
theorem dX2_lessen_44 : decode cX2_lessen 44 = .ok (.if_icmp .ge 13, 3) := by decide +kernel
theorem dX2_lessen_47 : decode cX2_lessen 47 = .ok (.aload_n 0, 1) := by decide +kernel
theorem dX2_lessen_48 : decode cX2_lessen 48 = .ok (.getfield 15, 3) := by decide +kernel
theorem dX2_lessen_51 : decode cX2_lessen 51 = .ok (.iload_n 3, 1) := by decide +kernel
theorem dX2_lessen_52 : decode cX2_lessen 52 = .ok (.iload 4, 2) := by decide +kernel
theorem dX2_lessen_54 : decode cX2_lessen 54 = .ok (.iastore, 1) := by decide +kernel
theorem dX2_lessen_55 : decode cX2_lessen 55 = .ok (.iconst 1, 1) := by decide +kernel
theorem dX2_lessen_56 : decode cX2_lessen 56 = .ok (.istore_n 2, 1) := by decide +kernel
theorem dX2_lessen_57 : decode cX2_lessen 57 = .ok (.iinc 3 (-1), 3) := by decide +kernel
theorem dX2_lessen_60 : decode cX2_lessen 60 = .ok (.goto (-54), 3) := by decide +kernel
theorem dX2_lessen_63 : decode cX2_lessen 63 = .ok (.iload_n 2, 1) := by decide +kernel
theorem dX2_lessen_64 : decode cX2_lessen 64 = .ok (.ireturn, 1) := by decide +kernel
theorem dX2_sizeByParts_0 : decode cX2_sizeByParts 0 = .ok (.aload_n 0, 1) := by decide +kernel
theorem dX2_sizeByParts_1 : decode cX2_sizeByParts 1 = .ok (.getfield 11, 3) := by decide +kernel
theorem dX2_sizeByParts_4 : decode cX2_sizeByParts 4 = .ok (.iload_n 1, 1) := by decide +kernel
theorem dX2_sizeByParts_5 : decode cX2_sizeByParts 5 = .ok (.invokevirtual 49, 3) := by decide +kernel
theorem dX2_sizeByParts_8 : decode cX2_sizeByParts 8 = .ok (.lookupswitch 78 #[(42, 60), (91, 70), (110, 60), (115, 60), (116, 60), (123, 62)], 60) := by decide +kernel
theorem dX2_sizeByParts_68 : decode cX2_sizeByParts 68 = .ok (.iconst 1, 1) := by decide +kernel
theorem dX2_sizeByParts_69 : decode cX2_sizeByParts 69 = .ok (.ireturn, 1) := by decide +kernel
theorem dX2_sizeByParts_70 : decode cX2_sizeByParts 70 = .ok (.iconst 1, 1) := by decide +kernel
theorem dX2_sizeByParts_71 : decode cX2_sizeByParts 71 = .ok (.aload_n 0, 1) := by decide +kernel
theorem dX2_sizeByParts_72 : decode cX2_sizeByParts 72 = .ok (.iload_n 1, 1) := by decide +kernel
theorem dX2_sizeByParts_73 : decode cX2_sizeByParts 73 = .ok (.invokevirtual 52, 3) := by decide +kernel
theorem dX2_sizeByParts_76 : decode cX2_sizeByParts 76 = .ok (.iadd, 1) := by decide +kernel
theorem dX2_sizeByParts_77 : decode cX2_sizeByParts 77 = .ok (.ireturn, 1) := by decide +kernel
theorem dX2_sizeByParts_78 : decode cX2_sizeByParts 78 = .ok (.iconst 1, 1) := by decide +kernel
theorem dX2_sizeByParts_79 : decode cX2_sizeByParts 79 = .ok (.aload_n 0, 1) := by decide +kernel
theorem dX2_sizeByParts_80 : decode cX2_sizeByParts 80 = .ok (.iload_n 1, 1) := by decide +kernel
theorem dX2_sizeByParts_81 : decode cX2_sizeByParts 81 = .ok (.invokevirtual 55, 3) := by decide +kernel
theorem dX2_sizeByParts_84 : decode cX2_sizeByParts 84 = .ok (.iadd, 1) := by decide +kernel
theorem dX2_sizeByParts_85 : decode cX2_sizeByParts 85 = .ok (.ireturn, 1) := by decide +kernel
theorem dX2_sizeByParts_86 : decode cX2_sizeByParts 86 = .ok (.bipush 41, 2) := by decide +kernel
theorem dX2_sizeByParts_88 : decode cX2_sizeByParts 88 = .ok (.ireturn, 1) := by decide +kernel
theorem dX2_sumOfParts_0 : decode cX2_sumOfParts 0 = .ok (.iconst 0, 1) := by decide +kernel
theorem dX2_sumOfParts_1 : decode cX2_sumOfParts 1 = .ok (.istore_n 2, 1) := by decide +kernel
theorem dX2_sumOfParts_2 : decode cX2_sumOfParts 2 = .ok (.iconst 0, 1) := by decide +kernel
theorem dX2_sumOfParts_3 : decode cX2_sumOfParts 3 = .ok (.istore_n 3, 1) := by decide +kernel
theorem dX2_sumOfParts_4 : decode cX2_sumOfParts 4 = .ok (.iload_n 3, 1) := by decide +kernel
theorem dX2_sumOfParts_5 : decode cX2_sumOfParts 5 = .ok (.bipush 8, 2) := by decide +kernel
theorem dX2_sumOfParts_7 : decode cX2_sumOfParts 7 = .ok (.if_icmp .ge 36, 3) := by decide +kernel
theorem dX2_sumOfParts_10 : decode cX2_sumOfParts 10 = .ok (.aload_n 0, 1) := by decide +kernel
theorem dX2_sumOfParts_11 : decode cX2_sumOfParts 11 = .ok (.getfield 11, 3) := by decide +kernel
theorem dX2_sumOfParts_14 : decode cX2_sumOfParts 14 = .ok (.iload_n 1, 1) := by decide +kernel
theorem dX2_sumOfParts_15 : decode cX2_sumOfParts 15 = .ok (.iload_n 3, 1) := by decide +kernel
theorem dX2_sumOfParts_16 : decode cX2_sumOfParts 16 = .ok (.invokevirtual 58, 3) := by decide +kernel
theorem dX2_sumOfParts_19 : decode cX2_sumOfParts 19 = .ok (.istore 4, 2) := by decide +kernel
theorem dX2_sumOfParts_21 : decode cX2_sumOfParts 21 = .ok (.iload 4, 2) := by decide +kernel
theorem dX2_sumOfParts_23 : decode cX2_sumOfParts 23 = .ok (.bipush (-6), 2) := by decide +kernel
theorem dX2_sumOfParts_25 : decode cX2_sumOfParts 25 = .ok (.if_icmp .eq 12, 3) := by decide +kernel
theorem dX2_sumOfParts_28 : decode cX2_sumOfParts 28 = .ok (.iload_n 2, 1) := by decide +kernel
theorem dX2_sumOfParts_29 : decode cX2_sumOfParts 29 = .ok (.aload_n 0, 1) := by decide +kernel
theorem dX2_sumOfParts_30 : decode cX2_sumOfParts 30 = .ok (.iload 4, 2) := by decide +kernel
theorem dX2_sumOfParts_32 : decode cX2_sumOfParts 32 = .ok (.invokevirtual 26, 3) := by decide +kernel
theorem dX2_sumOfParts_35 : decode cX2_sumOfParts 35 = .ok (.iadd, 1) := by decide +kernel
theorem dX2_sumOfParts_36 : decode cX2_sumOfParts 36 = .ok (.istore_n 2, 1) := by decide +kernel
theorem dX2_sumOfParts_37 : decode cX2_sumOfParts 37 = .ok (.iinc 3 1, 3) := by decide +kernel
theorem dX2_sumOfParts_40 : decode cX2_sumOfParts 40 = .ok (.goto (-36), 3) := by decide +kernel
theorem dX2_sumOfParts_43 : decode cX2_sumOfParts 43 = .ok (.iload_n 2, 1) := by decide +kernel
theorem dX2_sumOfParts_44 : decode cX2_sumOfParts 44 = .ok (.ireturn, 1) := by decide +kernel
theorem dX2_leastOfParts_0 : decode cX2_leastOfParts 0 = .ok (.bipush 41, 2) := by decide +kernel
theorem dX2_leastOfParts_2 : decode cX2_leastOfParts 2 = .ok (.istore_n 2, 1) := by decide +kernel
theorem dX2_leastOfParts_3 : decode cX2_leastOfParts 3 = .ok (.iconst 0, 1) := by decide +kernel
theorem dX2_leastOfParts_4 : decode cX2_leastOfParts 4 = .ok (.istore_n 3, 1) := by decide +kernel
theorem dX2_leastOfParts_5 : decode cX2_leastOfParts 5 = .ok (.iload_n 3, 1) := by decide +kernel
theorem dX2_leastOfParts_6 : decode cX2_leastOfParts 6 = .ok (.bipush 8, 2) := by decide +kernel
theorem dX2_leastOfParts_8 : decode cX2_leastOfParts 8 = .ok (.if_icmp .ge 27, 3) := by decide +kernel
theorem dX2_leastOfParts_11 : decode cX2_leastOfParts 11 = .ok (.iload_n 2, 1) := by decide +kernel
theorem dX2_leastOfParts_12 : decode cX2_leastOfParts 12 = .ok (.aload_n 0, 1) := by decide +kernel
theorem dX2_leastOfParts_13 : decode cX2_leastOfParts 13 = .ok (.aload_n 0, 1) := by decide +kernel
theorem dX2_leastOfParts_14 : decode cX2_leastOfParts 14 = .ok (.getfield 11, 3) := by decide +kernel
theorem dX2_leastOfParts_17 : decode cX2_leastOfParts 17 = .ok (.iload_n 1, 1) := by decide +kernel
theorem dX2_leastOfParts_18 : decode cX2_leastOfParts 18 = .ok (.iload_n 3, 1) := by decide +kernel
theorem dX2_leastOfParts_19 : decode cX2_leastOfParts 19 = .ok (.invokevirtual 58, 3) := by decide +kernel
theorem dX2_leastOfParts_22 : decode cX2_leastOfParts 22 = .ok (.invokevirtual 26, 3) := by decide +kernel
theorem dX2_leastOfParts_25 : decode cX2_leastOfParts 25 = .ok (.invokestatic 36, 3) := by decide +kernel
theorem dX2_leastOfParts_28 : decode cX2_leastOfParts 28 = .ok (.istore_n 2, 1) := by decide +kernel
theorem dX2_leastOfParts_29 : decode cX2_leastOfParts 29 = .ok (.iinc 3 1, 3) := by decide +kernel
theorem dX2_leastOfParts_32 : decode cX2_leastOfParts 32 = .ok (.goto (-27), 3) := by decide +kernel
theorem dX2_leastOfParts_35 : decode cX2_leastOfParts 35 = .ok (.iload_n 2, 1) := by decide +kernel
theorem dX2_leastOfParts_36 : decode cX2_leastOfParts 36 = .ok (.ireturn, 1) := by decide +kernel
theorem dX2_foundOf_0 : decode cX2_foundOf 0 = .ok (.iload_n 1, 1) := by decide +kernel
theorem dX2_foundOf_1 : decode cX2_foundOf 1 = .ok (.ifCond .lt 18, 3) := by decide +kernel
theorem dX2_foundOf_4 : decode cX2_foundOf 4 = .ok (.iload_n 1, 1) := by decide +kernel
theorem dX2_foundOf_5 : decode cX2_foundOf 5 = .ok (.bipush 60, 2) := by decide +kernel
theorem dX2_foundOf_7 : decode cX2_foundOf 7 = .ok (.if_icmp .ge 12, 3) := by decide +kernel
theorem dX2_foundOf_10 : decode cX2_foundOf 10 = .ok (.aload_n 0, 1) := by decide +kernel
theorem dX2_foundOf_11 : decode cX2_foundOf 11 = .ok (.getfield 15, 3) := by decide +kernel
theorem dX2_foundOf_14 : decode cX2_foundOf 14 = .ok (.iload_n 1, 1) := by decide +kernel
theorem dX2_foundOf_15 : decode cX2_foundOf 15 = .ok (.iaload, 1) := by decide +kernel
theorem dX2_foundOf_16 : decode cX2_foundOf 16 = .ok (.goto 5, 3) := by decide +kernel
theorem dX2_foundOf_19 : decode cX2_foundOf 19 = .ok (.bipush 41, 2) := by decide +kernel
theorem dX2_foundOf_21 : decode cX2_foundOf 21 = .ok (.ireturn, 1) := by decide +kernel
