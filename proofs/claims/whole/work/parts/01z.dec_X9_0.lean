theorem dX9_in_0 : decode cX9_in 0 = .ok (.iload_n 0, 1) := by decide +kernel
theorem dX9_in_1 : decode cX9_in 1 = .ok (.iload_n 1, 1) := by decide +kernel
theorem dX9_in_2 : decode cX9_in 2 = .ok (.if_icmp .lt 12, 3) := by decide +kernel
theorem dX9_in_5 : decode cX9_in 5 = .ok (.iload_n 0, 1) := by decide +kernel
theorem dX9_in_6 : decode cX9_in 6 = .ok (.iload_n 2, 1) := by decide +kernel
theorem dX9_in_7 : decode cX9_in 7 = .ok (.if_icmp .gt 7, 3) := by decide +kernel
theorem dX9_in_10 : decode cX9_in 10 = .ok (.iconst 1, 1) := by decide +kernel
theorem dX9_in_11 : decode cX9_in 11 = .ok (.goto 4, 3) := by decide +kernel
theorem dX9_in_14 : decode cX9_in 14 = .ok (.iconst 0, 1) := by decide +kernel
theorem dX9_in_15 : decode cX9_in 15 = .ok (.ireturn, 1) := by decide +kernel
theorem dX9_say_0 : decode cX9_say 0 = .ok (.iload_n 1, 1) := by decide +kernel
theorem dX9_say_1 : decode cX9_say 1 = .ok (.bipush 33, 2) := by decide +kernel
theorem dX9_say_3 : decode cX9_say 3 = .ok (.bipush 126, 2) := by decide +kernel
theorem dX9_say_5 : decode cX9_say 5 = .ok (.invokestatic 84, 3) := by decide +kernel
theorem dX9_say_8 : decode cX9_say 8 = .ok (.ifCond .ne 6, 3) := by decide +kernel
theorem dX9_say_11 : decode cX9_say 11 = .ok (.bipush (-2), 2) := by decide +kernel
theorem dX9_say_13 : decode cX9_say 13 = .ok (.ireturn, 1) := by decide +kernel
theorem dX9_say_14 : decode cX9_say 14 = .ok (.aload_n 0, 1) := by decide +kernel
theorem dX9_say_15 : decode cX9_say 15 = .ok (.getfield 88, 3) := by decide +kernel
theorem dX9_say_18 : decode cX9_say 18 = .ok (.bipush 100, 2) := by decide +kernel
theorem dX9_say_20 : decode cX9_say 20 = .ok (.if_icmp .ne 6, 3) := by decide +kernel
theorem dX9_say_23 : decode cX9_say 23 = .ok (.bipush (-4), 2) := by decide +kernel
theorem dX9_say_25 : decode cX9_say 25 = .ok (.ireturn, 1) := by decide +kernel
theorem dX9_say_26 : decode cX9_say 26 = .ok (.aload_n 0, 1) := by decide +kernel
theorem dX9_say_27 : decode cX9_say 27 = .ok (.getfield 7, 3) := by decide +kernel
theorem dX9_say_30 : decode cX9_say 30 = .ok (.aload_n 0, 1) := by decide +kernel
theorem dX9_say_31 : decode cX9_say 31 = .ok (.getfield 88, 3) := by decide +kernel
theorem dX9_say_34 : decode cX9_say 34 = .ok (.iload_n 1, 1) := by decide +kernel
theorem dX9_say_35 : decode cX9_say 35 = .ok (.iastore, 1) := by decide +kernel
theorem dX9_say_36 : decode cX9_say 36 = .ok (.aload_n 0, 1) := by decide +kernel
theorem dX9_say_37 : decode cX9_say 37 = .ok (.dup, 1) := by decide +kernel
theorem dX9_say_38 : decode cX9_say 38 = .ok (.getfield 88, 3) := by decide +kernel
theorem dX9_say_41 : decode cX9_say 41 = .ok (.iconst 1, 1) := by decide +kernel
theorem dX9_say_42 : decode cX9_say 42 = .ok (.iadd, 1) := by decide +kernel
theorem dX9_say_43 : decode cX9_say 43 = .ok (.putfield 88, 3) := by decide +kernel
theorem dX9_say_46 : decode cX9_say 46 = .ok (.aload_n 0, 1) := by decide +kernel
theorem dX9_say_47 : decode cX9_say 47 = .ok (.getfield 88, 3) := by decide +kernel
theorem dX9_say_50 : decode cX9_say 50 = .ok (.ireturn, 1) := by decide +kernel
theorem dX9_wipe_0 : decode cX9_wipe 0 = .ok (.aload_n 0, 1) := by decide +kernel
theorem dX9_wipe_1 : decode cX9_wipe 1 = .ok (.getfield 88, 3) := by decide +kernel
theorem dX9_wipe_4 : decode cX9_wipe 4 = .ok (.istore_n 1, 1) := by decide +kernel
theorem dX9_wipe_5 : decode cX9_wipe 5 = .ok (.aload_n 0, 1) := by decide +kernel
theorem dX9_wipe_6 : decode cX9_wipe 6 = .ok (.iconst 0, 1) := by decide +kernel
theorem dX9_wipe_7 : decode cX9_wipe 7 = .ok (.putfield 88, 3) := by decide +kernel
theorem dX9_wipe_10 : decode cX9_wipe 10 = .ok (.iload_n 1, 1) := by decide +kernel
theorem dX9_wipe_11 : decode cX9_wipe 11 = .ok (.ireturn, 1) := by decide +kernel
theorem dX9_come_0 : decode cX9_come 0 = .ok (.aload_n 0, 1) := by decide +kernel
theorem dX9_come_1 : decode cX9_come 1 = .ok (.getfield 92, 3) := by decide +kernel
theorem dX9_come_4 : decode cX9_come 4 = .ok (.ifCond .ne 14, 3) := by decide +kernel
theorem dX9_come_7 : decode cX9_come 7 = .ok (.aload_n 0, 1) := by decide +kernel
theorem dX9_come_8 : decode cX9_come 8 = .ok (.getfield 28, 3) := by decide +kernel
theorem dX9_come_11 : decode cX9_come 11 = .ok (.aload_n 0, 1) := by decide +kernel
theorem dX9_come_12 : decode cX9_come 12 = .ok (.getfield 95, 3) := by decide +kernel
theorem dX9_come_15 : decode cX9_come 15 = .ok (.iload_n 1, 1) := by decide +kernel
theorem dX9_come_16 : decode cX9_come 16 = .ok (.iastore, 1) := by decide +kernel
theorem dX9_come_17 : decode cX9_come 17 = .ok (.return_, 1) := by decide +kernel
theorem dX9_come_18 : decode cX9_come 18 = .ok (.aload_n 0, 1) := by decide +kernel
theorem dX9_come_19 : decode cX9_come 19 = .ok (.getfield 92, 3) := by decide +kernel
theorem dX9_come_22 : decode cX9_come 22 = .ok (.iconst 1, 1) := by decide +kernel
theorem dX9_come_23 : decode cX9_come 23 = .ok (.isub, 1) := by decide +kernel
theorem dX9_come_24 : decode cX9_come 24 = .ok (.istore_n 2, 1) := by decide +kernel
theorem dX9_come_25 : decode cX9_come 25 = .ok (.aload_n 0, 1) := by decide +kernel
theorem dX9_come_26 : decode cX9_come 26 = .ok (.getfield 31, 3) := by decide +kernel
theorem dX9_come_29 : decode cX9_come 29 = .ok (.iload_n 2, 1) := by decide +kernel
theorem dX9_come_30 : decode cX9_come 30 = .ok (.iaload, 1) := by decide +kernel
theorem dX9_come_31 : decode cX9_come 31 = .ok (.istore_n 3, 1) := by decide +kernel
theorem dX9_come_32 : decode cX9_come 32 = .ok (.aload_n 0, 1) := by decide +kernel
theorem dX9_come_33 : decode cX9_come 33 = .ok (.getfield 34, 3) := by decide +kernel
theorem dX9_come_36 : decode cX9_come 36 = .ok (.iload_n 2, 1) := by decide +kernel
theorem dX9_come_37 : decode cX9_come 37 = .ok (.iaload, 1) := by decide +kernel
theorem dX9_come_38 : decode cX9_come 38 = .ok (.bipush 100, 2) := by decide +kernel
theorem dX9_come_40 : decode cX9_come 40 = .ok (.if_icmp .ne 23, 3) := by decide +kernel
theorem dX9_come_43 : decode cX9_come 43 = .ok (.aload_n 0, 1) := by decide +kernel
theorem dX9_come_44 : decode cX9_come 44 = .ok (.getfield 25, 3) := by decide +kernel
theorem dX9_come_47 : decode cX9_come 47 = .ok (.bipush 8, 2) := by decide +kernel
theorem dX9_come_49 : decode cX9_come 49 = .ok (.iload_n 3, 1) := by decide +kernel
theorem dX9_come_50 : decode cX9_come 50 = .ok (.imul, 1) := by decide +kernel
theorem dX9_come_51 : decode cX9_come 51 = .ok (.aload_n 0, 1) := by decide +kernel
theorem dX9_come_52 : decode cX9_come 52 = .ok (.getfield 37, 3) := by decide +kernel
theorem dX9_come_55 : decode cX9_come 55 = .ok (.iload_n 2, 1) := by decide +kernel
theorem dX9_come_56 : decode cX9_come 56 = .ok (.iaload, 1) := by decide +kernel
theorem dX9_come_57 : decode cX9_come 57 = .ok (.iadd, 1) := by decide +kernel
theorem dX9_come_58 : decode cX9_come 58 = .ok (.iload_n 1, 1) := by decide +kernel
theorem dX9_come_59 : decode cX9_come 59 = .ok (.iastore, 1) := by decide +kernel
theorem dX9_come_60 : decode cX9_come 60 = .ok (.goto 54, 3) := by decide +kernel
theorem dX9_come_63 : decode cX9_come 63 = .ok (.aload_n 0, 1) := by decide +kernel
theorem dX9_come_64 : decode cX9_come 64 = .ok (.getfield 22, 3) := by decide +kernel
theorem dX9_come_67 : decode cX9_come 67 = .ok (.iload_n 3, 1) := by decide +kernel
theorem dX9_come_68 : decode cX9_come 68 = .ok (.iaload, 1) := by decide +kernel
theorem dX9_come_69 : decode cX9_come 69 = .ok (.bipush 62, 2) := by decide +kernel
theorem dX9_come_71 : decode cX9_come 71 = .ok (.if_icmp .ne 17, 3) := by decide +kernel
theorem dX9_come_74 : decode cX9_come 74 = .ok (.aload_n 0, 1) := by decide +kernel
theorem dX9_come_75 : decode cX9_come 75 = .ok (.getfield 34, 3) := by decide +kernel
theorem dX9_come_78 : decode cX9_come 78 = .ok (.iload_n 2, 1) := by decide +kernel
theorem dX9_come_79 : decode cX9_come 79 = .ok (.iaload, 1) := by decide +kernel
theorem dX9_come_80 : decode cX9_come 80 = .ok (.iconst 1, 1) := by decide +kernel
theorem dX9_come_81 : decode cX9_come 81 = .ok (.if_icmp .ne 7, 3) := by decide +kernel
theorem dX9_come_84 : decode cX9_come 84 = .ok (.iconst 1, 1) := by decide +kernel
theorem dX9_come_85 : decode cX9_come 85 = .ok (.goto 4, 3) := by decide +kernel
theorem dX9_come_88 : decode cX9_come 88 = .ok (.iconst 0, 1) := by decide +kernel
theorem dX9_come_89 : decode cX9_come 89 = .ok (.istore 4, 2) := by decide +kernel
theorem dX9_come_91 : decode cX9_come 91 = .ok (.aload_n 0, 1) := by decide +kernel
theorem dX9_come_92 : decode cX9_come 92 = .ok (.getfield 25, 3) := by decide +kernel
theorem dX9_come_95 : decode cX9_come 95 = .ok (.bipush 8, 2) := by decide +kernel
theorem dX9_come_97 : decode cX9_come 97 = .ok (.iload_n 3, 1) := by decide +kernel
theorem dX9_come_98 : decode cX9_come 98 = .ok (.imul, 1) := by decide +kernel
theorem dX9_come_99 : decode cX9_come 99 = .ok (.iload 4, 2) := by decide +kernel
theorem dX9_come_101 : decode cX9_come 101 = .ok (.iadd, 1) := by decide +kernel
theorem dX9_come_102 : decode cX9_come 102 = .ok (.iload_n 1, 1) := by decide +kernel
theorem dX9_come_103 : decode cX9_come 103 = .ok (.iastore, 1) := by decide +kernel
theorem dX9_come_104 : decode cX9_come 104 = .ok (.aload_n 0, 1) := by decide +kernel
theorem dX9_come_105 : decode cX9_come 105 = .ok (.getfield 34, 3) := by decide +kernel
theorem dX9_come_108 : decode cX9_come 108 = .ok (.iload_n 2, 1) := by decide +kernel
theorem dX9_come_109 : decode cX9_come 109 = .ok (.dup2, 1) := by decide +kernel
theorem dX9_come_110 : decode cX9_come 110 = .ok (.iaload, 1) := by decide +kernel
theorem dX9_come_111 : decode cX9_come 111 = .ok (.iconst 1, 1) := by decide +kernel
theorem dX9_come_112 : decode cX9_come 112 = .ok (.isub, 1) := by decide +kernel
theorem dX9_come_113 : decode cX9_come 113 = .ok (.iastore, 1) := by decide +kernel
theorem dX9_come_114 : decode cX9_come 114 = .ok (.return_, 1) := by decide +kernel
theorem dX9_settle_0 : decode cX9_settle 0 = .ok (.aload_n 0, 1) := by decide +kernel
theorem dX9_settle_1 : decode cX9_settle 1 = .ok (.getfield 92, 3) := by decide +kernel
theorem dX9_settle_4 : decode cX9_settle 4 = .ok (.ifCond .le 30, 3) := by decide +kernel
theorem dX9_settle_7 : decode cX9_settle 7 = .ok (.aload_n 0, 1) := by decide +kernel
theorem dX9_settle_8 : decode cX9_settle 8 = .ok (.getfield 34, 3) := by decide +kernel
theorem dX9_settle_11 : decode cX9_settle 11 = .ok (.aload_n 0, 1) := by decide +kernel
theorem dX9_settle_12 : decode cX9_settle 12 = .ok (.getfield 92, 3) := by decide +kernel
theorem dX9_settle_15 : decode cX9_settle 15 = .ok (.iconst 1, 1) := by decide +kernel
theorem dX9_settle_16 : decode cX9_settle 16 = .ok (.isub, 1) := by decide +kernel
theorem dX9_settle_17 : decode cX9_settle 17 = .ok (.iaload, 1) := by decide +kernel
theorem dX9_settle_18 : decode cX9_settle 18 = .ok (.ifCond .ne 16, 3) := by decide +kernel
theorem dX9_settle_21 : decode cX9_settle 21 = .ok (.aload_n 0, 1) := by decide +kernel
theorem dX9_settle_22 : decode cX9_settle 22 = .ok (.dup, 1) := by decide +kernel
theorem dX9_settle_23 : decode cX9_settle 23 = .ok (.getfield 92, 3) := by decide +kernel
theorem dX9_settle_26 : decode cX9_settle 26 = .ok (.iconst 1, 1) := by decide +kernel
theorem dX9_settle_27 : decode cX9_settle 27 = .ok (.isub, 1) := by decide +kernel
theorem dX9_settle_28 : decode cX9_settle 28 = .ok (.putfield 92, 3) := by decide +kernel
theorem dX9_settle_31 : decode cX9_settle 31 = .ok (.goto (-31), 3) := by decide +kernel
theorem dX9_settle_34 : decode cX9_settle 34 = .ok (.aload_n 0, 1) := by decide +kernel
theorem dX9_settle_35 : decode cX9_settle 35 = .ok (.getfield 92, 3) := by decide +kernel
theorem dX9_settle_38 : decode cX9_settle 38 = .ok (.ifCond .ne 7, 3) := by decide +kernel
theorem dX9_settle_41 : decode cX9_settle 41 = .ok (.iconst 2, 1) := by decide +kernel
theorem dX9_settle_42 : decode cX9_settle 42 = .ok (.goto 24, 3) := by decide +kernel
theorem dX9_settle_45 : decode cX9_settle 45 = .ok (.aload_n 0, 1) := by decide +kernel
theorem dX9_settle_46 : decode cX9_settle 46 = .ok (.getfield 34, 3) := by decide +kernel
theorem dX9_settle_49 : decode cX9_settle 49 = .ok (.aload_n 0, 1) := by decide +kernel
theorem dX9_settle_50 : decode cX9_settle 50 = .ok (.getfield 92, 3) := by decide +kernel
theorem dX9_settle_53 : decode cX9_settle 53 = .ok (.iconst 1, 1) := by decide +kernel
theorem dX9_settle_54 : decode cX9_settle 54 = .ok (.isub, 1) := by decide +kernel
theorem dX9_settle_55 : decode cX9_settle 55 = .ok (.iaload, 1) := by decide +kernel
theorem dX9_settle_56 : decode cX9_settle 56 = .ok (.bipush 100, 2) := by decide +kernel
theorem dX9_settle_58 : decode cX9_settle 58 = .ok (.if_icmp .ne 7, 3) := by decide +kernel
theorem dX9_settle_61 : decode cX9_settle 61 = .ok (.iconst 1, 1) := by decide +kernel
theorem dX9_settle_62 : decode cX9_settle 62 = .ok (.goto 4, 3) := by decide +kernel
theorem dX9_settle_65 : decode cX9_settle 65 = .ok (.iconst 0, 1) := by decide +kernel
theorem dX9_settle_66 : decode cX9_settle 66 = .ok (.ireturn, 1) := by decide +kernel
theorem dX9_faultOf_0 : decode cX9_faultOf 0 = .ok (.iconst 0, 1) := by decide +kernel
theorem dX9_faultOf_1 : decode cX9_faultOf 1 = .ok (.istore_n 1, 1) := by decide +kernel
theorem dX9_faultOf_2 : decode cX9_faultOf 2 = .ok (.aload_n 0, 1) := by decide +kernel
theorem dX9_faultOf_3 : decode cX9_faultOf 3 = .ok (.iconst 0, 1) := by decide +kernel
theorem dX9_faultOf_4 : decode cX9_faultOf 4 = .ok (.putfield 98, 3) := by decide +kernel
theorem dX9_faultOf_7 : decode cX9_faultOf 7 = .ok (.aload_n 0, 1) := by decide +kernel
theorem dX9_faultOf_8 : decode cX9_faultOf 8 = .ok (.iconst 0, 1) := by decide +kernel
theorem dX9_faultOf_9 : decode cX9_faultOf 9 = .ok (.putfield 92, 3) := by decide +kernel
theorem dX9_faultOf_12 : decode cX9_faultOf 12 = .ok (.iconst 0, 1) := by decide +kernel
theorem dX9_faultOf_13 : decode cX9_faultOf 13 = .ok (.istore_n 2, 1) := by decide +kernel
theorem dX9_faultOf_14 : decode cX9_faultOf 14 = .ok (.iload_n 2, 1) := by decide +kernel
theorem dX9_faultOf_15 : decode cX9_faultOf 15 = .ok (.bipush 8, 2) := by decide +kernel
theorem dX9_faultOf_17 : decode cX9_faultOf 17 = .ok (.if_icmp .ge 17, 3) := by decide +kernel
theorem dX9_faultOf_20 : decode cX9_faultOf 20 = .ok (.aload_n 0, 1) := by decide +kernel
theorem dX9_faultOf_21 : decode cX9_faultOf 21 = .ok (.getfield 28, 3) := by decide +kernel
theorem dX9_faultOf_24 : decode cX9_faultOf 24 = .ok (.iload_n 2, 1) := by decide +kernel
theorem dX9_faultOf_25 : decode cX9_faultOf 25 = .ok (.bipush (-6), 2) := by decide +kernel
theorem dX9_faultOf_27 : decode cX9_faultOf 27 = .ok (.iastore, 1) := by decide +kernel
theorem dX9_faultOf_28 : decode cX9_faultOf 28 = .ok (.iinc 2 1, 3) := by decide +kernel
theorem dX9_faultOf_31 : decode cX9_faultOf 31 = .ok (.goto (-17), 3) := by decide +kernel
theorem dX9_faultOf_34 : decode cX9_faultOf 34 = .ok (.iconst 0, 1) := by decide +kernel
theorem dX9_faultOf_35 : decode cX9_faultOf 35 = .ok (.istore_n 2, 1) := by decide +kernel
theorem dX9_faultOf_36 : decode cX9_faultOf 36 = .ok (.iload_n 2, 1) := by decide +kernel
theorem dX9_faultOf_37 : decode cX9_faultOf 37 = .ok (.aload_n 0, 1) := by decide +kernel
theorem dX9_faultOf_38 : decode cX9_faultOf 38 = .ok (.getfield 88, 3) := by decide +kernel
theorem dX9_faultOf_41 : decode cX9_faultOf 41 = .ok (.if_icmp .ge 532, 3) := by decide +kernel
theorem dX9_faultOf_44 : decode cX9_faultOf 44 = .ok (.aload_n 0, 1) := by decide +kernel
theorem dX9_faultOf_45 : decode cX9_faultOf 45 = .ok (.getfield 7, 3) := by decide +kernel
theorem dX9_faultOf_48 : decode cX9_faultOf 48 = .ok (.iload_n 2, 1) := by decide +kernel
theorem dX9_faultOf_49 : decode cX9_faultOf 49 = .ok (.iaload, 1) := by decide +kernel
theorem dX9_faultOf_50 : decode cX9_faultOf 50 = .ok (.istore_n 3, 1) := by decide +kernel
theorem dX9_faultOf_51 : decode cX9_faultOf 51 = .ok (.bipush (-6), 2) := by decide +kernel
theorem dX9_faultOf_53 : decode cX9_faultOf 53 = .ok (.istore 4, 2) := by decide +kernel
theorem dX9_faultOf_55 : decode cX9_faultOf 55 = .ok (.iload_n 1, 1) := by decide +kernel
theorem dX9_faultOf_56 : decode cX9_faultOf 56 = .ok (.ifCond .ne 42, 3) := by decide +kernel
theorem dX9_faultOf_59 : decode cX9_faultOf 59 = .ok (.iload_n 3, 1) := by decide +kernel
theorem dX9_faultOf_60 : decode cX9_faultOf 60 = .ok (.bipush 65, 2) := by decide +kernel
theorem dX9_faultOf_62 : decode cX9_faultOf 62 = .ok (.bipush 72, 2) := by decide +kernel
theorem dX9_faultOf_64 : decode cX9_faultOf 64 = .ok (.invokestatic 84, 3) := by decide +kernel
theorem dX9_faultOf_67 : decode cX9_faultOf 67 = .ok (.ifCond .eq 455, 3) := by decide +kernel
theorem dX9_faultOf_70 : decode cX9_faultOf 70 = .ok (.aload_n 0, 1) := by decide +kernel
theorem dX9_faultOf_71 : decode cX9_faultOf 71 = .ok (.getfield 28, 3) := by decide +kernel
theorem dX9_faultOf_74 : decode cX9_faultOf 74 = .ok (.iload_n 3, 1) := by decide +kernel
theorem dX9_faultOf_75 : decode cX9_faultOf 75 = .ok (.bipush 65, 2) := by decide +kernel
theorem dX9_faultOf_77 : decode cX9_faultOf 77 = .ok (.isub, 1) := by decide +kernel
theorem dX9_faultOf_78 : decode cX9_faultOf 78 = .ok (.iaload, 1) := by decide +kernel
theorem dX9_faultOf_79 : decode cX9_faultOf 79 = .ok (.bipush (-6), 2) := by decide +kernel
theorem dX9_faultOf_81 : decode cX9_faultOf 81 = .ok (.if_icmp .ne 441, 3) := by decide +kernel
theorem dX9_faultOf_84 : decode cX9_faultOf 84 = .ok (.aload_n 0, 1) := by decide +kernel
theorem dX9_faultOf_85 : decode cX9_faultOf 85 = .ok (.iload_n 3, 1) := by decide +kernel
theorem dX9_faultOf_86 : decode cX9_faultOf 86 = .ok (.bipush 65, 2) := by decide +kernel
theorem dX9_faultOf_88 : decode cX9_faultOf 88 = .ok (.isub, 1) := by decide +kernel
theorem dX9_faultOf_89 : decode cX9_faultOf 89 = .ok (.putfield 95, 3) := by decide +kernel
theorem dX9_faultOf_92 : decode cX9_faultOf 92 = .ok (.iconst 1, 1) := by decide +kernel
theorem dX9_faultOf_93 : decode cX9_faultOf 93 = .ok (.istore 4, 2) := by decide +kernel
theorem dX9_faultOf_95 : decode cX9_faultOf 95 = .ok (.goto 427, 3) := by decide +kernel
theorem dX9_faultOf_98 : decode cX9_faultOf 98 = .ok (.iload_n 1, 1) := by decide +kernel
theorem dX9_faultOf_99 : decode cX9_faultOf 99 = .ok (.iconst 1, 1) := by decide +kernel
theorem dX9_faultOf_100 : decode cX9_faultOf 100 = .ok (.if_icmp .ne 20, 3) := by decide +kernel
theorem dX9_faultOf_103 : decode cX9_faultOf 103 = .ok (.iload_n 3, 1) := by decide +kernel
theorem dX9_faultOf_104 : decode cX9_faultOf 104 = .ok (.bipush 61, 2) := by decide +kernel
theorem dX9_faultOf_106 : decode cX9_faultOf 106 = .ok (.if_icmp .ne 7, 3) := by decide +kernel
theorem dX9_faultOf_109 : decode cX9_faultOf 109 = .ok (.iconst 2, 1) := by decide +kernel
theorem dX9_faultOf_110 : decode cX9_faultOf 110 = .ok (.goto 5, 3) := by decide +kernel
theorem dX9_faultOf_113 : decode cX9_faultOf 113 = .ok (.bipush (-6), 2) := by decide +kernel
theorem dX9_faultOf_115 : decode cX9_faultOf 115 = .ok (.istore 4, 2) := by decide +kernel
theorem dX9_faultOf_117 : decode cX9_faultOf 117 = .ok (.goto 405, 3) := by decide +kernel
theorem dX9_faultOf_120 : decode cX9_faultOf 120 = .ok (.iload_n 1, 1) := by decide +kernel
theorem dX9_faultOf_121 : decode cX9_faultOf 121 = .ok (.iconst 2, 1) := by decide +kernel
theorem dX9_faultOf_122 : decode cX9_faultOf 122 = .ok (.if_icmp .ne 263, 3) := by decide +kernel
theorem dX9_faultOf_125 : decode cX9_faultOf 125 = .ok (.iload_n 3, 1) := by decide +kernel
theorem dX9_faultOf_126 : decode cX9_faultOf 126 = .ok (.bipush 123, 2) := by decide +kernel
theorem dX9_faultOf_128 : decode cX9_faultOf 128 = .ok (.if_icmp .eq 9, 3) := by decide +kernel
theorem dX9_faultOf_131 : decode cX9_faultOf 131 = .ok (.iload_n 3, 1) := by decide +kernel
theorem dX9_faultOf_132 : decode cX9_faultOf 132 = .ok (.bipush 91, 2) := by decide +kernel
theorem dX9_faultOf_134 : decode cX9_faultOf 134 = .ok (.if_icmp .ne 7, 3) := by decide +kernel
theorem dX9_faultOf_137 : decode cX9_faultOf 137 = .ok (.iconst 1, 1) := by decide +kernel
theorem dX9_faultOf_138 : decode cX9_faultOf 138 = .ok (.goto 4, 3) := by decide +kernel
theorem dX9_faultOf_141 : decode cX9_faultOf 141 = .ok (.iconst 0, 1) := by decide +kernel
theorem dX9_faultOf_142 : decode cX9_faultOf 142 = .ok (.istore 5, 2) := by decide +kernel
theorem dX9_faultOf_144 : decode cX9_faultOf 144 = .ok (.iload_n 3, 1) := by decide +kernel
theorem dX9_faultOf_145 : decode cX9_faultOf 145 = .ok (.bipush 110, 2) := by decide +kernel
theorem dX9_faultOf_147 : decode cX9_faultOf 147 = .ok (.if_icmp .eq 27, 3) := by decide +kernel
theorem dX9_faultOf_150 : decode cX9_faultOf 150 = .ok (.iload_n 3, 1) := by decide +kernel
theorem dX9_faultOf_151 : decode cX9_faultOf 151 = .ok (.bipush 116, 2) := by decide +kernel
theorem dX9_faultOf_153 : decode cX9_faultOf 153 = .ok (.if_icmp .eq 21, 3) := by decide +kernel
theorem dX9_faultOf_156 : decode cX9_faultOf 156 = .ok (.iload_n 3, 1) := by decide +kernel
theorem dX9_faultOf_157 : decode cX9_faultOf 157 = .ok (.bipush 115, 2) := by decide +kernel
theorem dX9_faultOf_159 : decode cX9_faultOf 159 = .ok (.if_icmp .eq 15, 3) := by decide +kernel
theorem dX9_faultOf_162 : decode cX9_faultOf 162 = .ok (.iload_n 3, 1) := by decide +kernel
theorem dX9_faultOf_163 : decode cX9_faultOf 163 = .ok (.bipush 46, 2) := by decide +kernel
theorem dX9_faultOf_165 : decode cX9_faultOf 165 = .ok (.if_icmp .eq 9, 3) := by decide +kernel
theorem dX9_faultOf_168 : decode cX9_faultOf 168 = .ok (.iload_n 3, 1) := by decide +kernel
theorem dX9_faultOf_169 : decode cX9_faultOf 169 = .ok (.bipush 33, 2) := by decide +kernel
theorem dX9_faultOf_171 : decode cX9_faultOf 171 = .ok (.if_icmp .ne 7, 3) := by decide +kernel
theorem dX9_faultOf_174 : decode cX9_faultOf 174 = .ok (.iconst 1, 1) := by decide +kernel
theorem dX9_faultOf_175 : decode cX9_faultOf 175 = .ok (.goto 4, 3) := by decide +kernel
theorem dX9_faultOf_178 : decode cX9_faultOf 178 = .ok (.iconst 0, 1) := by decide +kernel
theorem dX9_faultOf_179 : decode cX9_faultOf 179 = .ok (.istore 6, 2) := by decide +kernel
theorem dX9_faultOf_181 : decode cX9_faultOf 181 = .ok (.iload_n 3, 1) := by decide +kernel
theorem dX9_faultOf_182 : decode cX9_faultOf 182 = .ok (.bipush 42, 2) := by decide +kernel
theorem dX9_faultOf_184 : decode cX9_faultOf 184 = .ok (.if_icmp .eq 9, 3) := by decide +kernel
theorem dX9_faultOf_187 : decode cX9_faultOf 187 = .ok (.iload_n 3, 1) := by decide +kernel
theorem dX9_faultOf_188 : decode cX9_faultOf 188 = .ok (.bipush 62, 2) := by decide +kernel
theorem dX9_faultOf_190 : decode cX9_faultOf 190 = .ok (.if_icmp .ne 16, 3) := by decide +kernel
theorem dX9_faultOf_193 : decode cX9_faultOf 193 = .ok (.aload_n 0, 1) := by decide +kernel
theorem dX9_faultOf_194 : decode cX9_faultOf 194 = .ok (.getfield 92, 3) := by decide +kernel
theorem dX9_faultOf_197 : decode cX9_faultOf 197 = .ok (.bipush 12, 2) := by decide +kernel
theorem dX9_faultOf_199 : decode cX9_faultOf 199 = .ok (.if_icmp .ge 7, 3) := by decide +kernel
theorem dX9_faultOf_202 : decode cX9_faultOf 202 = .ok (.iconst 1, 1) := by decide +kernel
theorem dX9_faultOf_203 : decode cX9_faultOf 203 = .ok (.goto 4, 3) := by decide +kernel
theorem dX9_faultOf_206 : decode cX9_faultOf 206 = .ok (.iconst 0, 1) := by decide +kernel
theorem dX9_faultOf_207 : decode cX9_faultOf 207 = .ok (.istore 7, 2) := by decide +kernel
theorem dX9_faultOf_209 : decode cX9_faultOf 209 = .ok (.iload_n 3, 1) := by decide +kernel
theorem dX9_faultOf_210 : decode cX9_faultOf 210 = .ok (.bipush 65, 2) := by decide +kernel
theorem dX9_faultOf_212 : decode cX9_faultOf 212 = .ok (.bipush 72, 2) := by decide +kernel
theorem dX9_faultOf_214 : decode cX9_faultOf 214 = .ok (.invokestatic 84, 3) := by decide +kernel
theorem dX9_faultOf_217 : decode cX9_faultOf 217 = .ok (.ifCond .eq 20, 3) := by decide +kernel
theorem dX9_faultOf_220 : decode cX9_faultOf 220 = .ok (.aload_n 0, 1) := by decide +kernel
theorem dX9_faultOf_221 : decode cX9_faultOf 221 = .ok (.bipush 100, 2) := by decide +kernel
theorem dX9_faultOf_223 : decode cX9_faultOf 223 = .ok (.iload_n 3, 1) := by decide +kernel
theorem dX9_faultOf_224 : decode cX9_faultOf 224 = .ok (.iadd, 1) := by decide +kernel
theorem dX9_faultOf_225 : decode cX9_faultOf 225 = .ok (.bipush 65, 2) := by decide +kernel
theorem dX9_faultOf_227 : decode cX9_faultOf 227 = .ok (.isub, 1) := by decide +kernel
theorem dX9_faultOf_228 : decode cX9_faultOf 228 = .ok (.invokevirtual 101, 3) := by decide +kernel
theorem dX9_faultOf_231 : decode cX9_faultOf 231 = .ok (.iconst 5, 1) := by decide +kernel
theorem dX9_faultOf_232 : decode cX9_faultOf 232 = .ok (.istore 4, 2) := by decide +kernel
theorem dX9_faultOf_234 : decode cX9_faultOf 234 = .ok (.goto 148, 3) := by decide +kernel
theorem dX9_faultOf_237 : decode cX9_faultOf 237 = .ok (.iload 5, 2) := by decide +kernel
theorem dX9_faultOf_239 : decode cX9_faultOf 239 = .ok (.ifCond .ne 13, 3) := by decide +kernel
theorem dX9_faultOf_242 : decode cX9_faultOf 242 = .ok (.iload 6, 2) := by decide +kernel
theorem dX9_faultOf_244 : decode cX9_faultOf 244 = .ok (.ifCond .ne 8, 3) := by decide +kernel
theorem dX9_faultOf_247 : decode cX9_faultOf 247 = .ok (.iload 7, 2) := by decide +kernel
theorem dX9_faultOf_249 : decode cX9_faultOf 249 = .ok (.ifCond .eq 133, 3) := by decide +kernel
theorem dX9_faultOf_252 : decode cX9_faultOf 252 = .ok (.aload_n 0, 1) := by decide +kernel
theorem dX9_faultOf_253 : decode cX9_faultOf 253 = .ok (.getfield 98, 3) := by decide +kernel
theorem dX9_faultOf_256 : decode cX9_faultOf 256 = .ok (.istore 8, 2) := by decide +kernel
theorem dX9_faultOf_258 : decode cX9_faultOf 258 = .ok (.aload_n 0, 1) := by decide +kernel
theorem dX9_faultOf_259 : decode cX9_faultOf 259 = .ok (.getfield 22, 3) := by decide +kernel
theorem dX9_faultOf_262 : decode cX9_faultOf 262 = .ok (.iload 8, 2) := by decide +kernel
theorem dX9_faultOf_264 : decode cX9_faultOf 264 = .ok (.iload_n 3, 1) := by decide +kernel
theorem dX9_faultOf_265 : decode cX9_faultOf 265 = .ok (.iastore, 1) := by decide +kernel
theorem dX9_faultOf_266 : decode cX9_faultOf 266 = .ok (.iconst 0, 1) := by decide +kernel
theorem dX9_faultOf_267 : decode cX9_faultOf 267 = .ok (.istore 9, 2) := by decide +kernel
theorem dX9_faultOf_269 : decode cX9_faultOf 269 = .ok (.iload 9, 2) := by decide +kernel
theorem dX9_faultOf_271 : decode cX9_faultOf 271 = .ok (.bipush 8, 2) := by decide +kernel
theorem dX9_faultOf_273 : decode cX9_faultOf 273 = .ok (.if_icmp .ge 24, 3) := by decide +kernel
theorem dX9_faultOf_276 : decode cX9_faultOf 276 = .ok (.aload_n 0, 1) := by decide +kernel
theorem dX9_faultOf_277 : decode cX9_faultOf 277 = .ok (.getfield 25, 3) := by decide +kernel
theorem dX9_faultOf_280 : decode cX9_faultOf 280 = .ok (.bipush 8, 2) := by decide +kernel
theorem dX9_faultOf_282 : decode cX9_faultOf 282 = .ok (.iload 8, 2) := by decide +kernel
theorem dX9_faultOf_284 : decode cX9_faultOf 284 = .ok (.imul, 1) := by decide +kernel
theorem dX9_faultOf_285 : decode cX9_faultOf 285 = .ok (.iload 9, 2) := by decide +kernel
theorem dX9_faultOf_287 : decode cX9_faultOf 287 = .ok (.iadd, 1) := by decide +kernel
theorem dX9_faultOf_288 : decode cX9_faultOf 288 = .ok (.bipush (-6), 2) := by decide +kernel
theorem dX9_faultOf_290 : decode cX9_faultOf 290 = .ok (.iastore, 1) := by decide +kernel
theorem dX9_faultOf_291 : decode cX9_faultOf 291 = .ok (.iinc 9 1, 3) := by decide +kernel
theorem dX9_faultOf_294 : decode cX9_faultOf 294 = .ok (.goto (-25), 3) := by decide +kernel
theorem dX9_faultOf_297 : decode cX9_faultOf 297 = .ok (.aload_n 0, 1) := by decide +kernel
theorem dX9_faultOf_298 : decode cX9_faultOf 298 = .ok (.dup, 1) := by decide +kernel
theorem dX9_faultOf_299 : decode cX9_faultOf 299 = .ok (.getfield 98, 3) := by decide +kernel
theorem dX9_faultOf_302 : decode cX9_faultOf 302 = .ok (.iconst 1, 1) := by decide +kernel
theorem dX9_faultOf_303 : decode cX9_faultOf 303 = .ok (.iadd, 1) := by decide +kernel
theorem dX9_faultOf_304 : decode cX9_faultOf 304 = .ok (.putfield 98, 3) := by decide +kernel
theorem dX9_faultOf_307 : decode cX9_faultOf 307 = .ok (.aload_n 0, 1) := by decide +kernel
theorem dX9_faultOf_308 : decode cX9_faultOf 308 = .ok (.iload 8, 2) := by decide +kernel
theorem dX9_faultOf_310 : decode cX9_faultOf 310 = .ok (.invokevirtual 101, 3) := by decide +kernel
theorem dX9_faultOf_313 : decode cX9_faultOf 313 = .ok (.iconst 5, 1) := by decide +kernel
theorem dX9_faultOf_314 : decode cX9_faultOf 314 = .ok (.istore 4, 2) := by decide +kernel
theorem dX9_faultOf_316 : decode cX9_faultOf 316 = .ok (.iload 6, 2) := by decide +kernel
theorem dX9_faultOf_318 : decode cX9_faultOf 318 = .ok (.ifCond .ne 64, 3) := by decide +kernel
theorem dX9_faultOf_321 : decode cX9_faultOf 321 = .ok (.aload_n 0, 1) := by decide +kernel
theorem dX9_faultOf_322 : decode cX9_faultOf 322 = .ok (.getfield 31, 3) := by decide +kernel
theorem dX9_faultOf_325 : decode cX9_faultOf 325 = .ok (.aload_n 0, 1) := by decide +kernel
theorem dX9_faultOf_326 : decode cX9_faultOf 326 = .ok (.getfield 92, 3) := by decide +kernel
theorem dX9_faultOf_329 : decode cX9_faultOf 329 = .ok (.iload 8, 2) := by decide +kernel
theorem dX9_faultOf_331 : decode cX9_faultOf 331 = .ok (.iastore, 1) := by decide +kernel
theorem dX9_faultOf_332 : decode cX9_faultOf 332 = .ok (.aload_n 0, 1) := by decide +kernel
theorem dX9_faultOf_333 : decode cX9_faultOf 333 = .ok (.getfield 34, 3) := by decide +kernel
theorem dX9_faultOf_336 : decode cX9_faultOf 336 = .ok (.aload_n 0, 1) := by decide +kernel
theorem dX9_faultOf_337 : decode cX9_faultOf 337 = .ok (.getfield 92, 3) := by decide +kernel
theorem dX9_faultOf_340 : decode cX9_faultOf 340 = .ok (.iload 5, 2) := by decide +kernel
theorem dX9_faultOf_342 : decode cX9_faultOf 342 = .ok (.ifCond .eq 8, 3) := by decide +kernel
theorem dX9_faultOf_345 : decode cX9_faultOf 345 = .ok (.bipush 100, 2) := by decide +kernel
theorem dX9_faultOf_347 : decode cX9_faultOf 347 = .ok (.goto 14, 3) := by decide +kernel
theorem dX9_faultOf_350 : decode cX9_faultOf 350 = .ok (.iload_n 3, 1) := by decide +kernel
theorem dX9_faultOf_351 : decode cX9_faultOf 351 = .ok (.bipush 42, 2) := by decide +kernel
theorem dX9_faultOf_353 : decode cX9_faultOf 353 = .ok (.if_icmp .ne 7, 3) := by decide +kernel
theorem dX9_faultOf_356 : decode cX9_faultOf 356 = .ok (.iconst 1, 1) := by decide +kernel
theorem dX9_faultOf_357 : decode cX9_faultOf 357 = .ok (.goto 4, 3) := by decide +kernel
theorem dX9_faultOf_360 : decode cX9_faultOf 360 = .ok (.iconst 2, 1) := by decide +kernel
theorem dX9_faultOf_361 : decode cX9_faultOf 361 = .ok (.iastore, 1) := by decide +kernel
theorem dX9_faultOf_362 : decode cX9_faultOf 362 = .ok (.aload_n 0, 1) := by decide +kernel
theorem dX9_faultOf_363 : decode cX9_faultOf 363 = .ok (.getfield 37, 3) := by decide +kernel
theorem dX9_faultOf_366 : decode cX9_faultOf 366 = .ok (.aload_n 0, 1) := by decide +kernel
theorem dX9_faultOf_367 : decode cX9_faultOf 367 = .ok (.getfield 92, 3) := by decide +kernel
theorem dX9_faultOf_370 : decode cX9_faultOf 370 = .ok (.iconst (-1), 1) := by decide +kernel
theorem dX9_faultOf_371 : decode cX9_faultOf 371 = .ok (.iastore, 1) := by decide +kernel
theorem dX9_faultOf_372 : decode cX9_faultOf 372 = .ok (.aload_n 0, 1) := by decide +kernel
theorem dX9_faultOf_373 : decode cX9_faultOf 373 = .ok (.dup, 1) := by decide +kernel
theorem dX9_faultOf_374 : decode cX9_faultOf 374 = .ok (.getfield 92, 3) := by decide +kernel
theorem dX9_faultOf_377 : decode cX9_faultOf 377 = .ok (.iconst 1, 1) := by decide +kernel
theorem dX9_faultOf_378 : decode cX9_faultOf 378 = .ok (.iadd, 1) := by decide +kernel
theorem dX9_faultOf_379 : decode cX9_faultOf 379 = .ok (.putfield 92, 3) := by decide +kernel
theorem dX9_faultOf_382 : decode cX9_faultOf 382 = .ok (.goto 140, 3) := by decide +kernel
theorem dX9_faultOf_385 : decode cX9_faultOf 385 = .ok (.iload_n 1, 1) := by decide +kernel
theorem dX9_faultOf_386 : decode cX9_faultOf 386 = .ok (.iconst 3, 1) := by decide +kernel
theorem dX9_faultOf_387 : decode cX9_faultOf 387 = .ok (.if_icmp .ne 116, 3) := by decide +kernel
theorem dX9_faultOf_390 : decode cX9_faultOf 390 = .ok (.aload_n 0, 1) := by decide +kernel
theorem dX9_faultOf_391 : decode cX9_faultOf 391 = .ok (.getfield 92, 3) := by decide +kernel
theorem dX9_faultOf_394 : decode cX9_faultOf 394 = .ok (.iconst 1, 1) := by decide +kernel
theorem dX9_faultOf_395 : decode cX9_faultOf 395 = .ok (.isub, 1) := by decide +kernel
theorem dX9_faultOf_396 : decode cX9_faultOf 396 = .ok (.istore 5, 2) := by decide +kernel
theorem dX9_faultOf_398 : decode cX9_faultOf 398 = .ok (.aload_n 0, 1) := by decide +kernel
theorem dX9_faultOf_399 : decode cX9_faultOf 399 = .ok (.getfield 22, 3) := by decide +kernel
theorem dX9_faultOf_402 : decode cX9_faultOf 402 = .ok (.aload_n 0, 1) := by decide +kernel
theorem dX9_faultOf_403 : decode cX9_faultOf 403 = .ok (.getfield 31, 3) := by decide +kernel
theorem dX9_faultOf_406 : decode cX9_faultOf 406 = .ok (.iload 5, 2) := by decide +kernel
theorem dX9_faultOf_408 : decode cX9_faultOf 408 = .ok (.iaload, 1) := by decide +kernel
theorem dX9_faultOf_409 : decode cX9_faultOf 409 = .ok (.iaload, 1) := by decide +kernel
theorem dX9_faultOf_410 : decode cX9_faultOf 410 = .ok (.bipush 123, 2) := by decide +kernel
theorem dX9_faultOf_412 : decode cX9_faultOf 412 = .ok (.if_icmp .ne 7, 3) := by decide +kernel
theorem dX9_faultOf_415 : decode cX9_faultOf 415 = .ok (.iconst 1, 1) := by decide +kernel
theorem dX9_faultOf_416 : decode cX9_faultOf 416 = .ok (.goto 4, 3) := by decide +kernel
theorem dX9_faultOf_419 : decode cX9_faultOf 419 = .ok (.iconst 0, 1) := by decide +kernel
theorem dX9_faultOf_420 : decode cX9_faultOf 420 = .ok (.istore 6, 2) := by decide +kernel
theorem dX9_faultOf_422 : decode cX9_faultOf 422 = .ok (.iload_n 3, 1) := by decide +kernel
theorem dX9_faultOf_423 : decode cX9_faultOf 423 = .ok (.bipush 97, 2) := by decide +kernel
theorem dX9_faultOf_425 : decode cX9_faultOf 425 = .ok (.bipush 104, 2) := by decide +kernel
theorem dX9_faultOf_427 : decode cX9_faultOf 427 = .ok (.invokestatic 84, 3) := by decide +kernel
theorem dX9_faultOf_430 : decode cX9_faultOf 430 = .ok (.ifCond .eq 43, 3) := by decide +kernel
theorem dX9_faultOf_433 : decode cX9_faultOf 433 = .ok (.iload_n 3, 1) := by decide +kernel
theorem dX9_faultOf_434 : decode cX9_faultOf 434 = .ok (.bipush 97, 2) := by decide +kernel
theorem dX9_faultOf_436 : decode cX9_faultOf 436 = .ok (.isub, 1) := by decide +kernel
theorem dX9_faultOf_437 : decode cX9_faultOf 437 = .ok (.aload_n 0, 1) := by decide +kernel
theorem dX9_faultOf_438 : decode cX9_faultOf 438 = .ok (.getfield 37, 3) := by decide +kernel
theorem dX9_faultOf_441 : decode cX9_faultOf 441 = .ok (.iload 5, 2) := by decide +kernel
theorem dX9_faultOf_443 : decode cX9_faultOf 443 = .ok (.iaload, 1) := by decide +kernel
theorem dX9_faultOf_444 : decode cX9_faultOf 444 = .ok (.if_icmp .le 29, 3) := by decide +kernel
theorem dX9_faultOf_447 : decode cX9_faultOf 447 = .ok (.aload_n 0, 1) := by decide +kernel
theorem dX9_faultOf_448 : decode cX9_faultOf 448 = .ok (.getfield 92, 3) := by decide +kernel
theorem dX9_faultOf_451 : decode cX9_faultOf 451 = .ok (.bipush 12, 2) := by decide +kernel
theorem dX9_faultOf_453 : decode cX9_faultOf 453 = .ok (.if_icmp .gt 20, 3) := by decide +kernel
theorem dX9_faultOf_456 : decode cX9_faultOf 456 = .ok (.aload_n 0, 1) := by decide +kernel
theorem dX9_faultOf_457 : decode cX9_faultOf 457 = .ok (.getfield 37, 3) := by decide +kernel
