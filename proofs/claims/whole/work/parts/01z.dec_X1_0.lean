theorem dX1_joined_0 : decode cX1_joined 0 = .ok (.aload_n 0, 1) := by decide +kernel
theorem dX1_joined_1 : decode cX1_joined 1 = .ok (.getfield 15, 3) := by decide +kernel
theorem dX1_joined_4 : decode cX1_joined 4 = .ok (.invokevirtual 46, 3) := by decide +kernel
theorem dX1_joined_7 : decode cX1_joined 7 = .ok (.aload_n 0, 1) := by decide +kernel
theorem dX1_joined_8 : decode cX1_joined 8 = .ok (.aload_n 0, 1) := by decide +kernel
theorem dX1_joined_9 : decode cX1_joined 9 = .ok (.getfield 9, 3) := by decide +kernel
theorem dX1_joined_12 : decode cX1_joined 12 = .ok (.invokevirtual 51, 3) := by decide +kernel
theorem dX1_joined_15 : decode cX1_joined 15 = .ok (.putfield 39, 3) := by decide +kernel
theorem dX1_joined_18 : decode cX1_joined 18 = .ok (.aload_n 0, 1) := by decide +kernel
theorem dX1_joined_19 : decode cX1_joined 19 = .ok (.iconst 0, 1) := by decide +kernel
theorem dX1_joined_20 : decode cX1_joined 20 = .ok (.putfield 35, 3) := by decide +kernel
theorem dX1_joined_23 : decode cX1_joined 23 = .ok (.aload_n 0, 1) := by decide +kernel
theorem dX1_joined_24 : decode cX1_joined 24 = .ok (.iconst 0, 1) := by decide +kernel
theorem dX1_joined_25 : decode cX1_joined 25 = .ok (.putfield 42, 3) := by decide +kernel
theorem dX1_joined_28 : decode cX1_joined 28 = .ok (.aload_n 0, 1) := by decide +kernel
theorem dX1_joined_29 : decode cX1_joined 29 = .ok (.iload_n 1, 1) := by decide +kernel
theorem dX1_joined_30 : decode cX1_joined 30 = .ok (.iload_n 2, 1) := by decide +kernel
theorem dX1_joined_31 : decode cX1_joined 31 = .ok (.iload_n 3, 1) := by decide +kernel
theorem dX1_joined_32 : decode cX1_joined 32 = .ok (.invokevirtual 57, 3) := by decide +kernel
theorem dX1_joined_35 : decode cX1_joined 35 = .ok (.istore 4, 2) := by decide +kernel
theorem dX1_joined_37 : decode cX1_joined 37 = .ok (.sipush 540, 3) := by decide +kernel
theorem dX1_joined_40 : decode cX1_joined 40 = .ok (.istore 5, 2) := by decide +kernel
theorem dX1_joined_42 : decode cX1_joined 42 = .ok (.iconst 0, 1) := by decide +kernel
theorem dX1_joined_43 : decode cX1_joined 43 = .ok (.istore 6, 2) := by decide +kernel
theorem dX1_joined_45 : decode cX1_joined 45 = .ok (.iload 6, 2) := by decide +kernel
theorem dX1_joined_47 : decode cX1_joined 47 = .ok (.iload 5, 2) := by decide +kernel
theorem dX1_joined_49 : decode cX1_joined 49 = .ok (.if_icmp .ge 27, 3) := by decide +kernel
theorem dX1_joined_52 : decode cX1_joined 52 = .ok (.aload_n 0, 1) := by decide +kernel
theorem dX1_joined_53 : decode cX1_joined 53 = .ok (.getfield 35, 3) := by decide +kernel
theorem dX1_joined_56 : decode cX1_joined 56 = .ok (.ifCond .le 20, 3) := by decide +kernel
theorem dX1_joined_59 : decode cX1_joined 59 = .ok (.aload_n 0, 1) := by decide +kernel
theorem dX1_joined_60 : decode cX1_joined 60 = .ok (.getfield 42, 3) := by decide +kernel
theorem dX1_joined_63 : decode cX1_joined 63 = .ok (.ifCond .ne 13, 3) := by decide +kernel
theorem dX1_joined_66 : decode cX1_joined 66 = .ok (.aload_n 0, 1) := by decide +kernel
theorem dX1_joined_67 : decode cX1_joined 67 = .ok (.invokevirtual 61, 3) := by decide +kernel
theorem dX1_joined_70 : decode cX1_joined 70 = .ok (.iinc 6 1, 3) := by decide +kernel
theorem dX1_joined_73 : decode cX1_joined 73 = .ok (.goto (-28), 3) := by decide +kernel
theorem dX1_joined_76 : decode cX1_joined 76 = .ok (.aload_n 0, 1) := by decide +kernel
theorem dX1_joined_77 : decode cX1_joined 77 = .ok (.getfield 42, 3) := by decide +kernel
theorem dX1_joined_80 : decode cX1_joined 80 = .ok (.ifCond .eq 17, 3) := by decide +kernel
theorem dX1_joined_83 : decode cX1_joined 83 = .ok (.aload_n 0, 1) := by decide +kernel
theorem dX1_joined_84 : decode cX1_joined 84 = .ok (.getfield 9, 3) := by decide +kernel
theorem dX1_joined_87 : decode cX1_joined 87 = .ok (.aload_n 0, 1) := by decide +kernel
theorem dX1_joined_88 : decode cX1_joined 88 = .ok (.getfield 39, 3) := by decide +kernel
theorem dX1_joined_91 : decode cX1_joined 91 = .ok (.invokevirtual 64, 3) := by decide +kernel
theorem dX1_joined_94 : decode cX1_joined 94 = .ok (.bipush (-4), 2) := by decide +kernel
theorem dX1_joined_96 : decode cX1_joined 96 = .ok (.ireturn, 1) := by decide +kernel
theorem dX1_joined_97 : decode cX1_joined 97 = .ok (.iload 4, 2) := by decide +kernel
theorem dX1_joined_99 : decode cX1_joined 99 = .ok (.ireturn, 1) := by decide +kernel
theorem dX1_goOn_0 : decode cX1_goOn 0 = .ok (.aload_n 0, 1) := by decide +kernel
theorem dX1_goOn_1 : decode cX1_goOn 1 = .ok (.getfield 35, 3) := by decide +kernel
theorem dX1_goOn_4 : decode cX1_goOn 4 = .ok (.ifCond .le 26, 3) := by decide +kernel
theorem dX1_goOn_7 : decode cX1_goOn 7 = .ok (.aload_n 0, 1) := by decide +kernel
theorem dX1_goOn_8 : decode cX1_goOn 8 = .ok (.getfield 35, 3) := by decide +kernel
theorem dX1_goOn_11 : decode cX1_goOn 11 = .ok (.bipush 60, 2) := by decide +kernel
theorem dX1_goOn_13 : decode cX1_goOn 13 = .ok (.if_icmp .gt 17, 3) := by decide +kernel
theorem dX1_goOn_16 : decode cX1_goOn 16 = .ok (.aload_n 0, 1) := by decide +kernel
theorem dX1_goOn_17 : decode cX1_goOn 17 = .ok (.getfield 32, 3) := by decide +kernel
theorem dX1_goOn_20 : decode cX1_goOn 20 = .ok (.aload_n 0, 1) := by decide +kernel
theorem dX1_goOn_21 : decode cX1_goOn 21 = .ok (.getfield 35, 3) := by decide +kernel
theorem dX1_goOn_24 : decode cX1_goOn 24 = .ok (.iconst 1, 1) := by decide +kernel
theorem dX1_goOn_25 : decode cX1_goOn 25 = .ok (.isub, 1) := by decide +kernel
theorem dX1_goOn_26 : decode cX1_goOn 26 = .ok (.iaload, 1) := by decide +kernel
theorem dX1_goOn_27 : decode cX1_goOn 27 = .ok (.goto 5, 3) := by decide +kernel
theorem dX1_goOn_30 : decode cX1_goOn 30 = .ok (.bipush (-6), 2) := by decide +kernel
theorem dX1_goOn_32 : decode cX1_goOn 32 = .ok (.istore_n 1, 1) := by decide +kernel
theorem dX1_goOn_33 : decode cX1_goOn 33 = .ok (.iload_n 1, 1) := by decide +kernel
theorem dX1_goOn_34 : decode cX1_goOn 34 = .ok (.ifCond .lt 20, 3) := by decide +kernel
theorem dX1_goOn_37 : decode cX1_goOn 37 = .ok (.iload_n 1, 1) := by decide +kernel
theorem dX1_goOn_38 : decode cX1_goOn 38 = .ok (.bipush 60, 2) := by decide +kernel
theorem dX1_goOn_40 : decode cX1_goOn 40 = .ok (.if_icmp .ge 14, 3) := by decide +kernel
theorem dX1_goOn_43 : decode cX1_goOn 43 = .ok (.aload_n 0, 1) := by decide +kernel
theorem dX1_goOn_44 : decode cX1_goOn 44 = .ok (.getfield 29, 3) := by decide +kernel
theorem dX1_goOn_47 : decode cX1_goOn 47 = .ok (.iload_n 1, 1) := by decide +kernel
theorem dX1_goOn_48 : decode cX1_goOn 48 = .ok (.iaload, 1) := by decide +kernel
theorem dX1_goOn_49 : decode cX1_goOn 49 = .ok (.bipush 8, 2) := by decide +kernel
theorem dX1_goOn_51 : decode cX1_goOn 51 = .ok (.if_icmp .lt 14, 3) := by decide +kernel
theorem dX1_goOn_54 : decode cX1_goOn 54 = .ok (.aload_n 0, 1) := by decide +kernel
theorem dX1_goOn_55 : decode cX1_goOn 55 = .ok (.dup, 1) := by decide +kernel
theorem dX1_goOn_56 : decode cX1_goOn 56 = .ok (.getfield 35, 3) := by decide +kernel
theorem dX1_goOn_59 : decode cX1_goOn 59 = .ok (.iconst 1, 1) := by decide +kernel
theorem dX1_goOn_60 : decode cX1_goOn 60 = .ok (.isub, 1) := by decide +kernel
theorem dX1_goOn_61 : decode cX1_goOn 61 = .ok (.putfield 35, 3) := by decide +kernel
theorem dX1_goOn_64 : decode cX1_goOn 64 = .ok (.return_, 1) := by decide +kernel
theorem dX1_goOn_65 : decode cX1_goOn 65 = .ok (.aload_n 0, 1) := by decide +kernel
theorem dX1_goOn_66 : decode cX1_goOn 66 = .ok (.getfield 29, 3) := by decide +kernel
theorem dX1_goOn_69 : decode cX1_goOn 69 = .ok (.iload_n 1, 1) := by decide +kernel
theorem dX1_goOn_70 : decode cX1_goOn 70 = .ok (.iaload, 1) := by decide +kernel
theorem dX1_goOn_71 : decode cX1_goOn 71 = .ok (.istore_n 2, 1) := by decide +kernel
theorem dX1_goOn_72 : decode cX1_goOn 72 = .ok (.aload_n 0, 1) := by decide +kernel
theorem dX1_goOn_73 : decode cX1_goOn 73 = .ok (.getfield 29, 3) := by decide +kernel
theorem dX1_goOn_76 : decode cX1_goOn 76 = .ok (.iload_n 1, 1) := by decide +kernel
theorem dX1_goOn_77 : decode cX1_goOn 77 = .ok (.dup2, 1) := by decide +kernel
theorem dX1_goOn_78 : decode cX1_goOn 78 = .ok (.iaload, 1) := by decide +kernel
theorem dX1_goOn_79 : decode cX1_goOn 79 = .ok (.iconst 1, 1) := by decide +kernel
theorem dX1_goOn_80 : decode cX1_goOn 80 = .ok (.iadd, 1) := by decide +kernel
theorem dX1_goOn_81 : decode cX1_goOn 81 = .ok (.iastore, 1) := by decide +kernel
theorem dX1_goOn_82 : decode cX1_goOn 82 = .ok (.aload_n 0, 1) := by decide +kernel
theorem dX1_goOn_83 : decode cX1_goOn 83 = .ok (.iload_n 1, 1) := by decide +kernel
theorem dX1_goOn_84 : decode cX1_goOn 84 = .ok (.iload_n 2, 1) := by decide +kernel
theorem dX1_goOn_85 : decode cX1_goOn 85 = .ok (.invokevirtual 68, 3) := by decide +kernel
theorem dX1_goOn_88 : decode cX1_goOn 88 = .ok (.istore_n 3, 1) := by decide +kernel
theorem dX1_goOn_89 : decode cX1_goOn 89 = .ok (.iload_n 3, 1) := by decide +kernel
theorem dX1_goOn_90 : decode cX1_goOn 90 = .ok (.bipush (-6), 2) := by decide +kernel
theorem dX1_goOn_92 : decode cX1_goOn 92 = .ok (.if_icmp .eq 13, 3) := by decide +kernel
theorem dX1_goOn_95 : decode cX1_goOn 95 = .ok (.aload_n 0, 1) := by decide +kernel
theorem dX1_goOn_96 : decode cX1_goOn 96 = .ok (.getfield 9, 3) := by decide +kernel
theorem dX1_goOn_99 : decode cX1_goOn 99 = .ok (.iload_n 1, 1) := by decide +kernel
theorem dX1_goOn_100 : decode cX1_goOn 100 = .ok (.iload_n 2, 1) := by decide +kernel
theorem dX1_goOn_101 : decode cX1_goOn 101 = .ok (.iload_n 3, 1) := by decide +kernel
theorem dX1_goOn_102 : decode cX1_goOn 102 = .ok (.invokevirtual 72, 3) := by decide +kernel
theorem dX1_goOn_105 : decode cX1_goOn 105 = .ok (.return_, 1) := by decide +kernel
theorem dX1_partFor_0 : decode cX1_partFor 0 = .ok (.iload_n 1, 1) := by decide +kernel
theorem dX1_partFor_1 : decode cX1_partFor 1 = .ok (.ifCond .lt 23, 3) := by decide +kernel
theorem dX1_partFor_4 : decode cX1_partFor 4 = .ok (.iload_n 1, 1) := by decide +kernel
theorem dX1_partFor_5 : decode cX1_partFor 5 = .ok (.bipush 60, 2) := by decide +kernel
theorem dX1_partFor_7 : decode cX1_partFor 7 = .ok (.if_icmp .ge 17, 3) := by decide +kernel
theorem dX1_partFor_10 : decode cX1_partFor 10 = .ok (.aload_n 0, 1) := by decide +kernel
theorem dX1_partFor_11 : decode cX1_partFor 11 = .ok (.getfield 9, 3) := by decide +kernel
theorem dX1_partFor_14 : decode cX1_partFor 14 = .ok (.iload_n 1, 1) := by decide +kernel
theorem dX1_partFor_15 : decode cX1_partFor 15 = .ok (.invokevirtual 76, 3) := by decide +kernel
theorem dX1_partFor_18 : decode cX1_partFor 18 = .ok (.invokestatic 80, 3) := by decide +kernel
theorem dX1_partFor_21 : decode cX1_partFor 21 = .ok (.ifCond .ne 6, 3) := by decide +kernel
theorem dX1_partFor_24 : decode cX1_partFor 24 = .ok (.bipush (-6), 2) := by decide +kernel
theorem dX1_partFor_26 : decode cX1_partFor 26 = .ok (.ireturn, 1) := by decide +kernel
theorem dX1_partFor_27 : decode cX1_partFor 27 = .ok (.aload_n 0, 1) := by decide +kernel
theorem dX1_partFor_28 : decode cX1_partFor 28 = .ok (.getfield 9, 3) := by decide +kernel
theorem dX1_partFor_31 : decode cX1_partFor 31 = .ok (.aload_n 0, 1) := by decide +kernel
theorem dX1_partFor_32 : decode cX1_partFor 32 = .ok (.getfield 19, 3) := by decide +kernel
theorem dX1_partFor_35 : decode cX1_partFor 35 = .ok (.iload_n 1, 1) := by decide +kernel
theorem dX1_partFor_36 : decode cX1_partFor 36 = .ok (.iaload, 1) := by decide +kernel
theorem dX1_partFor_37 : decode cX1_partFor 37 = .ok (.iload_n 2, 1) := by decide +kernel
theorem dX1_partFor_38 : decode cX1_partFor 38 = .ok (.invokevirtual 84, 3) := by decide +kernel
theorem dX1_partFor_41 : decode cX1_partFor 41 = .ok (.istore_n 3, 1) := by decide +kernel
theorem dX1_partFor_42 : decode cX1_partFor 42 = .ok (.aload_n 0, 1) := by decide +kernel
theorem dX1_partFor_43 : decode cX1_partFor 43 = .ok (.getfield 9, 3) := by decide +kernel
theorem dX1_partFor_46 : decode cX1_partFor 46 = .ok (.aload_n 0, 1) := by decide +kernel
theorem dX1_partFor_47 : decode cX1_partFor 47 = .ok (.getfield 23, 3) := by decide +kernel
theorem dX1_partFor_50 : decode cX1_partFor 50 = .ok (.iload_n 1, 1) := by decide +kernel
theorem dX1_partFor_51 : decode cX1_partFor 51 = .ok (.iaload, 1) := by decide +kernel
theorem dX1_partFor_52 : decode cX1_partFor 52 = .ok (.iload_n 2, 1) := by decide +kernel
theorem dX1_partFor_53 : decode cX1_partFor 53 = .ok (.invokevirtual 84, 3) := by decide +kernel
theorem dX1_partFor_56 : decode cX1_partFor 56 = .ok (.istore 4, 2) := by decide +kernel
theorem dX1_partFor_58 : decode cX1_partFor 58 = .ok (.iload_n 3, 1) := by decide +kernel
theorem dX1_partFor_59 : decode cX1_partFor 59 = .ok (.bipush (-6), 2) := by decide +kernel
theorem dX1_partFor_61 : decode cX1_partFor 61 = .ok (.if_icmp .eq 65, 3) := by decide +kernel
theorem dX1_partFor_64 : decode cX1_partFor 64 = .ok (.iload 4, 2) := by decide +kernel
theorem dX1_partFor_66 : decode cX1_partFor 66 = .ok (.bipush (-6), 2) := by decide +kernel
theorem dX1_partFor_68 : decode cX1_partFor 68 = .ok (.if_icmp .eq 58, 3) := by decide +kernel
theorem dX1_partFor_71 : decode cX1_partFor 71 = .ok (.aload_n 0, 1) := by decide +kernel
theorem dX1_partFor_72 : decode cX1_partFor 72 = .ok (.getfield 9, 3) := by decide +kernel
theorem dX1_partFor_75 : decode cX1_partFor 75 = .ok (.iload_n 1, 1) := by decide +kernel
theorem dX1_partFor_76 : decode cX1_partFor 76 = .ok (.invokevirtual 76, 3) := by decide +kernel
theorem dX1_partFor_79 : decode cX1_partFor 79 = .ok (.bipush 62, 2) := by decide +kernel
theorem dX1_partFor_81 : decode cX1_partFor 81 = .ok (.if_icmp .ne 11, 3) := by decide +kernel
theorem dX1_partFor_84 : decode cX1_partFor 84 = .ok (.iload_n 2, 1) := by decide +kernel
theorem dX1_partFor_85 : decode cX1_partFor 85 = .ok (.ifCond .ne 7, 3) := by decide +kernel
theorem dX1_partFor_88 : decode cX1_partFor 88 = .ok (.iconst 1, 1) := by decide +kernel
theorem dX1_partFor_89 : decode cX1_partFor 89 = .ok (.goto 4, 3) := by decide +kernel
theorem dX1_partFor_92 : decode cX1_partFor 92 = .ok (.iconst 0, 1) := by decide +kernel
theorem dX1_partFor_93 : decode cX1_partFor 93 = .ok (.istore 5, 2) := by decide +kernel
theorem dX1_partFor_95 : decode cX1_partFor 95 = .ok (.aload_n 0, 1) := by decide +kernel
theorem dX1_partFor_96 : decode cX1_partFor 96 = .ok (.iload_n 3, 1) := by decide +kernel
theorem dX1_partFor_97 : decode cX1_partFor 97 = .ok (.iload 4, 2) := by decide +kernel
theorem dX1_partFor_99 : decode cX1_partFor 99 = .ok (.iload 5, 2) := by decide +kernel
theorem dX1_partFor_101 : decode cX1_partFor 101 = .ok (.ifCond .eq 15, 3) := by decide +kernel
theorem dX1_partFor_104 : decode cX1_partFor 104 = .ok (.aload_n 0, 1) := by decide +kernel
theorem dX1_partFor_105 : decode cX1_partFor 105 = .ok (.getfield 26, 3) := by decide +kernel
theorem dX1_partFor_108 : decode cX1_partFor 108 = .ok (.iload_n 1, 1) := by decide +kernel
theorem dX1_partFor_109 : decode cX1_partFor 109 = .ok (.iaload, 1) := by decide +kernel
theorem dX1_partFor_110 : decode cX1_partFor 110 = .ok (.invokestatic 87, 3) := by decide +kernel
theorem dX1_partFor_113 : decode cX1_partFor 113 = .ok (.goto 9, 3) := by decide +kernel
theorem dX1_partFor_116 : decode cX1_partFor 116 = .ok (.aload_n 0, 1) := by decide +kernel
theorem dX1_partFor_117 : decode cX1_partFor 117 = .ok (.getfield 26, 3) := by decide +kernel
theorem dX1_partFor_120 : decode cX1_partFor 120 = .ok (.iload_n 1, 1) := by decide +kernel
theorem dX1_partFor_121 : decode cX1_partFor 121 = .ok (.iaload, 1) := by decide +kernel
theorem dX1_partFor_122 : decode cX1_partFor 122 = .ok (.invokevirtual 57, 3) := by decide +kernel
theorem dX1_partFor_125 : decode cX1_partFor 125 = .ok (.ireturn, 1) := by decide +kernel
theorem dX1_partFor_126 : decode cX1_partFor 126 = .ok (.aload_n 0, 1) := by decide +kernel
theorem dX1_partFor_127 : decode cX1_partFor 127 = .ok (.getfield 9, 3) := by decide +kernel
theorem dX1_partFor_130 : decode cX1_partFor 130 = .ok (.iload_n 1, 1) := by decide +kernel
theorem dX1_partFor_131 : decode cX1_partFor 131 = .ok (.invokevirtual 76, 3) := by decide +kernel
theorem dX1_partFor_134 : decode cX1_partFor 134 = .ok (.aload_n 0, 1) := by decide +kernel
theorem dX1_partFor_135 : decode cX1_partFor 135 = .ok (.getfield 26, 3) := by decide +kernel
theorem dX1_partFor_138 : decode cX1_partFor 138 = .ok (.iload_n 1, 1) := by decide +kernel
theorem dX1_partFor_139 : decode cX1_partFor 139 = .ok (.iaload, 1) := by decide +kernel
theorem dX1_partFor_140 : decode cX1_partFor 140 = .ok (.invokestatic 90, 3) := by decide +kernel
theorem dX1_partFor_143 : decode cX1_partFor 143 = .ok (.ifCond .eq 12, 3) := by decide +kernel
theorem dX1_partFor_146 : decode cX1_partFor 146 = .ok (.iload_n 3, 1) := by decide +kernel
theorem dX1_partFor_147 : decode cX1_partFor 147 = .ok (.iload 4, 2) := by decide +kernel
theorem dX1_partFor_149 : decode cX1_partFor 149 = .ok (.invokestatic 94, 3) := by decide +kernel
theorem dX1_partFor_152 : decode cX1_partFor 152 = .ok (.goto 5, 3) := by decide +kernel
theorem dX1_partFor_155 : decode cX1_partFor 155 = .ok (.bipush (-6), 2) := by decide +kernel
theorem dX1_partFor_157 : decode cX1_partFor 157 = .ok (.ireturn, 1) := by decide +kernel
theorem dX1_nodeFor_0 : decode cX1_nodeFor 0 = .ok (.aload_n 0, 1) := by decide +kernel
theorem dX1_nodeFor_1 : decode cX1_nodeFor 1 = .ok (.getfield 15, 3) := by decide +kernel
theorem dX1_nodeFor_4 : decode cX1_nodeFor 4 = .ok (.iload_n 1, 1) := by decide +kernel
theorem dX1_nodeFor_5 : decode cX1_nodeFor 5 = .ok (.iload_n 2, 1) := by decide +kernel
theorem dX1_nodeFor_6 : decode cX1_nodeFor 6 = .ok (.invokevirtual 99, 3) := by decide +kernel
theorem dX1_nodeFor_9 : decode cX1_nodeFor 9 = .ok (.istore 4, 2) := by decide +kernel
theorem dX1_nodeFor_11 : decode cX1_nodeFor 11 = .ok (.aload_n 0, 1) := by decide +kernel
theorem dX1_nodeFor_12 : decode cX1_nodeFor 12 = .ok (.getfield 15, 3) := by decide +kernel
theorem dX1_nodeFor_15 : decode cX1_nodeFor 15 = .ok (.iload_n 2, 1) := by decide +kernel
theorem dX1_nodeFor_16 : decode cX1_nodeFor 16 = .ok (.iload_n 1, 1) := by decide +kernel
theorem dX1_nodeFor_17 : decode cX1_nodeFor 17 = .ok (.invokevirtual 99, 3) := by decide +kernel
theorem dX1_nodeFor_20 : decode cX1_nodeFor 20 = .ok (.istore 5, 2) := by decide +kernel
theorem dX1_nodeFor_22 : decode cX1_nodeFor 22 = .ok (.iload 4, 2) := by decide +kernel
theorem dX1_nodeFor_24 : decode cX1_nodeFor 24 = .ok (.ifCond .ne 8, 3) := by decide +kernel
theorem dX1_nodeFor_27 : decode cX1_nodeFor 27 = .ok (.iload 5, 2) := by decide +kernel
theorem dX1_nodeFor_29 : decode cX1_nodeFor 29 = .ok (.ifCond .eq 46, 3) := by decide +kernel
theorem dX1_nodeFor_32 : decode cX1_nodeFor 32 = .ok (.iload 4, 2) := by decide +kernel
theorem dX1_nodeFor_34 : decode cX1_nodeFor 34 = .ok (.ifCond .eq 8, 3) := by decide +kernel
theorem dX1_nodeFor_37 : decode cX1_nodeFor 37 = .ok (.iload 5, 2) := by decide +kernel
theorem dX1_nodeFor_39 : decode cX1_nodeFor 39 = .ok (.ifCond .ne 18, 3) := by decide +kernel
theorem dX1_nodeFor_42 : decode cX1_nodeFor 42 = .ok (.iload 4, 2) := by decide +kernel
theorem dX1_nodeFor_44 : decode cX1_nodeFor 44 = .ok (.iload_n 3, 1) := by decide +kernel
theorem dX1_nodeFor_45 : decode cX1_nodeFor 45 = .ok (.iconst 1, 1) := by decide +kernel
theorem dX1_nodeFor_46 : decode cX1_nodeFor 46 = .ok (.if_icmp .ne 7, 3) := by decide +kernel
theorem dX1_nodeFor_49 : decode cX1_nodeFor 49 = .ok (.iconst 1, 1) := by decide +kernel
theorem dX1_nodeFor_50 : decode cX1_nodeFor 50 = .ok (.goto 4, 3) := by decide +kernel
theorem dX1_nodeFor_53 : decode cX1_nodeFor 53 = .ok (.iconst 0, 1) := by decide +kernel
theorem dX1_nodeFor_54 : decode cX1_nodeFor 54 = .ok (.if_icmp .ne 7, 3) := by decide +kernel
theorem dX1_nodeFor_57 : decode cX1_nodeFor 57 = .ok (.iconst 1, 1) := by decide +kernel
theorem dX1_nodeFor_58 : decode cX1_nodeFor 58 = .ok (.goto 4, 3) := by decide +kernel
theorem dX1_nodeFor_61 : decode cX1_nodeFor 61 = .ok (.iconst 0, 1) := by decide +kernel
theorem dX1_nodeFor_62 : decode cX1_nodeFor 62 = .ok (.istore 6, 2) := by decide +kernel
theorem dX1_nodeFor_64 : decode cX1_nodeFor 64 = .ok (.iload 6, 2) := by decide +kernel
theorem dX1_nodeFor_66 : decode cX1_nodeFor 66 = .ok (.ifCond .eq 7, 3) := by decide +kernel
theorem dX1_nodeFor_69 : decode cX1_nodeFor 69 = .ok (.iload_n 1, 1) := by decide +kernel
theorem dX1_nodeFor_70 : decode cX1_nodeFor 70 = .ok (.goto 4, 3) := by decide +kernel
theorem dX1_nodeFor_73 : decode cX1_nodeFor 73 = .ok (.iload_n 2, 1) := by decide +kernel
theorem dX1_nodeFor_74 : decode cX1_nodeFor 74 = .ok (.ireturn, 1) := by decide +kernel
theorem dX1_nodeFor_75 : decode cX1_nodeFor 75 = .ok (.aload_n 0, 1) := by decide +kernel
theorem dX1_nodeFor_76 : decode cX1_nodeFor 76 = .ok (.iload_n 1, 1) := by decide +kernel
theorem dX1_nodeFor_77 : decode cX1_nodeFor 77 = .ok (.iload_n 2, 1) := by decide +kernel
theorem dX1_nodeFor_78 : decode cX1_nodeFor 78 = .ok (.iload_n 3, 1) := by decide +kernel
theorem dX1_nodeFor_79 : decode cX1_nodeFor 79 = .ok (.invokevirtual 102, 3) := by decide +kernel
theorem dX1_nodeFor_82 : decode cX1_nodeFor 82 = .ok (.istore 6, 2) := by decide +kernel
theorem dX1_nodeFor_84 : decode cX1_nodeFor 84 = .ok (.iload 6, 2) := by decide +kernel
theorem dX1_nodeFor_86 : decode cX1_nodeFor 86 = .ok (.bipush (-6), 2) := by decide +kernel
theorem dX1_nodeFor_88 : decode cX1_nodeFor 88 = .ok (.if_icmp .eq 8, 3) := by decide +kernel
theorem dX1_nodeFor_91 : decode cX1_nodeFor 91 = .ok (.iload 6, 2) := by decide +kernel
theorem dX1_nodeFor_93 : decode cX1_nodeFor 93 = .ok (.goto 10, 3) := by decide +kernel
theorem dX1_nodeFor_96 : decode cX1_nodeFor 96 = .ok (.aload_n 0, 1) := by decide +kernel
theorem dX1_nodeFor_97 : decode cX1_nodeFor 97 = .ok (.iload_n 1, 1) := by decide +kernel
theorem dX1_nodeFor_98 : decode cX1_nodeFor 98 = .ok (.iload_n 2, 1) := by decide +kernel
theorem dX1_nodeFor_99 : decode cX1_nodeFor 99 = .ok (.iload_n 3, 1) := by decide +kernel
theorem dX1_nodeFor_100 : decode cX1_nodeFor 100 = .ok (.invokevirtual 105, 3) := by decide +kernel
theorem dX1_nodeFor_103 : decode cX1_nodeFor 103 = .ok (.ireturn, 1) := by decide +kernel
theorem dX1_madeFor_0 : decode cX1_madeFor 0 = .ok (.aload_n 0, 1) := by decide +kernel
theorem dX1_madeFor_1 : decode cX1_madeFor 1 = .ok (.getfield 39, 3) := by decide +kernel
theorem dX1_madeFor_4 : decode cX1_madeFor 4 = .ok (.iconst 0, 1) := by decide +kernel
theorem dX1_madeFor_5 : decode cX1_madeFor 5 = .ok (.invokestatic 94, 3) := by decide +kernel
theorem dX1_madeFor_8 : decode cX1_madeFor 8 = .ok (.istore 4, 2) := by decide +kernel
theorem dX1_madeFor_10 : decode cX1_madeFor 10 = .ok (.iload 4, 2) := by decide +kernel
theorem dX1_madeFor_12 : decode cX1_madeFor 12 = .ok (.aload_n 0, 1) := by decide +kernel
theorem dX1_madeFor_13 : decode cX1_madeFor 13 = .ok (.getfield 9, 3) := by decide +kernel
theorem dX1_madeFor_16 : decode cX1_madeFor 16 = .ok (.invokevirtual 51, 3) := by decide +kernel
theorem dX1_madeFor_19 : decode cX1_madeFor 19 = .ok (.if_icmp .ge 52, 3) := by decide +kernel
theorem dX1_madeFor_22 : decode cX1_madeFor 22 = .ok (.iload 4, 2) := by decide +kernel
theorem dX1_madeFor_24 : decode cX1_madeFor 24 = .ok (.bipush 60, 2) := by decide +kernel
theorem dX1_madeFor_26 : decode cX1_madeFor 26 = .ok (.if_icmp .ge 45, 3) := by decide +kernel
theorem dX1_madeFor_29 : decode cX1_madeFor 29 = .ok (.aload_n 0, 1) := by decide +kernel
theorem dX1_madeFor_30 : decode cX1_madeFor 30 = .ok (.getfield 19, 3) := by decide +kernel
theorem dX1_madeFor_33 : decode cX1_madeFor 33 = .ok (.iload 4, 2) := by decide +kernel
theorem dX1_madeFor_35 : decode cX1_madeFor 35 = .ok (.iaload, 1) := by decide +kernel
theorem dX1_madeFor_36 : decode cX1_madeFor 36 = .ok (.iload_n 1, 1) := by decide +kernel
theorem dX1_madeFor_37 : decode cX1_madeFor 37 = .ok (.if_icmp .ne 28, 3) := by decide +kernel
theorem dX1_madeFor_40 : decode cX1_madeFor 40 = .ok (.aload_n 0, 1) := by decide +kernel
theorem dX1_madeFor_41 : decode cX1_madeFor 41 = .ok (.getfield 23, 3) := by decide +kernel
theorem dX1_madeFor_44 : decode cX1_madeFor 44 = .ok (.iload 4, 2) := by decide +kernel
theorem dX1_madeFor_46 : decode cX1_madeFor 46 = .ok (.iaload, 1) := by decide +kernel
theorem dX1_madeFor_47 : decode cX1_madeFor 47 = .ok (.iload_n 2, 1) := by decide +kernel
theorem dX1_madeFor_48 : decode cX1_madeFor 48 = .ok (.if_icmp .ne 17, 3) := by decide +kernel
theorem dX1_madeFor_51 : decode cX1_madeFor 51 = .ok (.aload_n 0, 1) := by decide +kernel
theorem dX1_madeFor_52 : decode cX1_madeFor 52 = .ok (.getfield 26, 3) := by decide +kernel
theorem dX1_madeFor_55 : decode cX1_madeFor 55 = .ok (.iload 4, 2) := by decide +kernel
theorem dX1_madeFor_57 : decode cX1_madeFor 57 = .ok (.iaload, 1) := by decide +kernel
theorem dX1_madeFor_58 : decode cX1_madeFor 58 = .ok (.iload_n 3, 1) := by decide +kernel
theorem dX1_madeFor_59 : decode cX1_madeFor 59 = .ok (.if_icmp .ne 6, 3) := by decide +kernel
theorem dX1_madeFor_62 : decode cX1_madeFor 62 = .ok (.iload 4, 2) := by decide +kernel
theorem dX1_madeFor_64 : decode cX1_madeFor 64 = .ok (.ireturn, 1) := by decide +kernel
theorem dX1_madeFor_65 : decode cX1_madeFor 65 = .ok (.iinc 4 1, 3) := by decide +kernel
theorem dX1_madeFor_68 : decode cX1_madeFor 68 = .ok (.goto (-58), 3) := by decide +kernel
theorem dX1_madeFor_71 : decode cX1_madeFor 71 = .ok (.bipush (-6), 2) := by decide +kernel
theorem dX1_madeFor_73 : decode cX1_madeFor 73 = .ok (.ireturn, 1) := by decide +kernel
theorem dX1_begin_0 : decode cX1_begin 0 = .ok (.aload_n 0, 1) := by decide +kernel
theorem dX1_begin_1 : decode cX1_begin 1 = .ok (.getfield 9, 3) := by decide +kernel
theorem dX1_begin_4 : decode cX1_begin 4 = .ok (.iload_n 1, 1) := by decide +kernel
theorem dX1_begin_5 : decode cX1_begin 5 = .ok (.invokevirtual 76, 3) := by decide +kernel
theorem dX1_begin_8 : decode cX1_begin 8 = .ok (.istore 4, 2) := by decide +kernel
theorem dX1_begin_10 : decode cX1_begin 10 = .ok (.iload 4, 2) := by decide +kernel
theorem dX1_begin_12 : decode cX1_begin 12 = .ok (.aload_n 0, 1) := by decide +kernel
theorem dX1_begin_13 : decode cX1_begin 13 = .ok (.getfield 9, 3) := by decide +kernel
theorem dX1_begin_16 : decode cX1_begin 16 = .ok (.iload_n 2, 1) := by decide +kernel
theorem dX1_begin_17 : decode cX1_begin 17 = .ok (.invokevirtual 76, 3) := by decide +kernel
theorem dX1_begin_20 : decode cX1_begin 20 = .ok (.if_icmp .eq 16, 3) := by decide +kernel
theorem dX1_begin_23 : decode cX1_begin 23 = .ok (.iload_n 3, 1) := by decide +kernel
theorem dX1_begin_24 : decode cX1_begin 24 = .ok (.ifCond .ne 8, 3) := by decide +kernel
theorem dX1_begin_27 : decode cX1_begin 27 = .ok (.bipush 46, 2) := by decide +kernel
theorem dX1_begin_29 : decode cX1_begin 29 = .ok (.goto 5, 3) := by decide +kernel
theorem dX1_begin_32 : decode cX1_begin 32 = .ok (.bipush 33, 2) := by decide +kernel
theorem dX1_begin_34 : decode cX1_begin 34 = .ok (.istore 4, 2) := by decide +kernel
theorem dX1_begin_36 : decode cX1_begin 36 = .ok (.aload_n 0, 1) := by decide +kernel
theorem dX1_begin_37 : decode cX1_begin 37 = .ok (.getfield 9, 3) := by decide +kernel
theorem dX1_begin_40 : decode cX1_begin 40 = .ok (.iload 4, 2) := by decide +kernel
theorem dX1_begin_42 : decode cX1_begin 42 = .ok (.invokevirtual 108, 3) := by decide +kernel
theorem dX1_begin_45 : decode cX1_begin 45 = .ok (.istore 5, 2) := by decide +kernel
theorem dX1_begin_47 : decode cX1_begin 47 = .ok (.iload 5, 2) := by decide +kernel
theorem dX1_begin_49 : decode cX1_begin 49 = .ok (.ifCond .lt 26, 3) := by decide +kernel
theorem dX1_begin_52 : decode cX1_begin 52 = .ok (.iload 5, 2) := by decide +kernel
theorem dX1_begin_54 : decode cX1_begin 54 = .ok (.bipush 60, 2) := by decide +kernel
theorem dX1_begin_56 : decode cX1_begin 56 = .ok (.if_icmp .ge 19, 3) := by decide +kernel
theorem dX1_begin_59 : decode cX1_begin 59 = .ok (.aload_n 0, 1) := by decide +kernel
theorem dX1_begin_60 : decode cX1_begin 60 = .ok (.getfield 35, 3) := by decide +kernel
theorem dX1_begin_63 : decode cX1_begin 63 = .ok (.ifCond .lt 12, 3) := by decide +kernel
theorem dX1_begin_66 : decode cX1_begin 66 = .ok (.aload_n 0, 1) := by decide +kernel
theorem dX1_begin_67 : decode cX1_begin 67 = .ok (.getfield 35, 3) := by decide +kernel
theorem dX1_begin_70 : decode cX1_begin 70 = .ok (.bipush 60, 2) := by decide +kernel
theorem dX1_begin_72 : decode cX1_begin 72 = .ok (.if_icmp .lt 11, 3) := by decide +kernel
theorem dX1_begin_75 : decode cX1_begin 75 = .ok (.aload_n 0, 1) := by decide +kernel
theorem dX1_begin_76 : decode cX1_begin 76 = .ok (.iconst 1, 1) := by decide +kernel
theorem dX1_begin_77 : decode cX1_begin 77 = .ok (.putfield 42, 3) := by decide +kernel
theorem dX1_begin_80 : decode cX1_begin 80 = .ok (.bipush (-6), 2) := by decide +kernel
theorem dX1_begin_82 : decode cX1_begin 82 = .ok (.ireturn, 1) := by decide +kernel
theorem dX1_begin_83 : decode cX1_begin 83 = .ok (.aload_n 0, 1) := by decide +kernel
theorem dX1_begin_84 : decode cX1_begin 84 = .ok (.getfield 19, 3) := by decide +kernel
theorem dX1_begin_87 : decode cX1_begin 87 = .ok (.iload 5, 2) := by decide +kernel
theorem dX1_begin_89 : decode cX1_begin 89 = .ok (.iload_n 1, 1) := by decide +kernel
theorem dX1_begin_90 : decode cX1_begin 90 = .ok (.iastore, 1) := by decide +kernel
theorem dX1_begin_91 : decode cX1_begin 91 = .ok (.aload_n 0, 1) := by decide +kernel
theorem dX1_begin_92 : decode cX1_begin 92 = .ok (.getfield 23, 3) := by decide +kernel
theorem dX1_begin_95 : decode cX1_begin 95 = .ok (.iload 5, 2) := by decide +kernel
theorem dX1_begin_97 : decode cX1_begin 97 = .ok (.iload_n 2, 1) := by decide +kernel
theorem dX1_begin_98 : decode cX1_begin 98 = .ok (.iastore, 1) := by decide +kernel
theorem dX1_begin_99 : decode cX1_begin 99 = .ok (.aload_n 0, 1) := by decide +kernel
theorem dX1_begin_100 : decode cX1_begin 100 = .ok (.getfield 26, 3) := by decide +kernel
theorem dX1_begin_103 : decode cX1_begin 103 = .ok (.iload 5, 2) := by decide +kernel
theorem dX1_begin_105 : decode cX1_begin 105 = .ok (.iload_n 3, 1) := by decide +kernel
theorem dX1_begin_106 : decode cX1_begin 106 = .ok (.iastore, 1) := by decide +kernel
theorem dX1_begin_107 : decode cX1_begin 107 = .ok (.aload_n 0, 1) := by decide +kernel
theorem dX1_begin_108 : decode cX1_begin 108 = .ok (.getfield 29, 3) := by decide +kernel
theorem dX1_begin_111 : decode cX1_begin 111 = .ok (.iload 5, 2) := by decide +kernel
theorem dX1_begin_113 : decode cX1_begin 113 = .ok (.iconst 0, 1) := by decide +kernel
theorem dX1_begin_114 : decode cX1_begin 114 = .ok (.iastore, 1) := by decide +kernel
theorem dX1_begin_115 : decode cX1_begin 115 = .ok (.aload_n 0, 1) := by decide +kernel
theorem dX1_begin_116 : decode cX1_begin 116 = .ok (.getfield 32, 3) := by decide +kernel
theorem dX1_begin_119 : decode cX1_begin 119 = .ok (.aload_n 0, 1) := by decide +kernel
theorem dX1_begin_120 : decode cX1_begin 120 = .ok (.getfield 35, 3) := by decide +kernel
theorem dX1_begin_123 : decode cX1_begin 123 = .ok (.iload 5, 2) := by decide +kernel
theorem dX1_begin_125 : decode cX1_begin 125 = .ok (.iastore, 1) := by decide +kernel
theorem dX1_begin_126 : decode cX1_begin 126 = .ok (.aload_n 0, 1) := by decide +kernel
theorem dX1_begin_127 : decode cX1_begin 127 = .ok (.dup, 1) := by decide +kernel
theorem dX1_begin_128 : decode cX1_begin 128 = .ok (.getfield 35, 3) := by decide +kernel
theorem dX1_begin_131 : decode cX1_begin 131 = .ok (.iconst 1, 1) := by decide +kernel
theorem dX1_begin_132 : decode cX1_begin 132 = .ok (.iadd, 1) := by decide +kernel
theorem dX1_begin_133 : decode cX1_begin 133 = .ok (.putfield 35, 3) := by decide +kernel
theorem dX1_begin_136 : decode cX1_begin 136 = .ok (.iload 5, 2) := by decide +kernel
theorem dX1_begin_138 : decode cX1_begin 138 = .ok (.ireturn, 1) := by decide +kernel
theorem dX1_turn_0 : decode cX1_turn 0 = .ok (.iload_n 0, 1) := by decide +kernel
theorem dX1_turn_1 : decode cX1_turn 1 = .ok (.ifCond .ne 7, 3) := by decide +kernel
theorem dX1_turn_4 : decode cX1_turn 4 = .ok (.iconst 1, 1) := by decide +kernel
theorem dX1_turn_5 : decode cX1_turn 5 = .ok (.goto 4, 3) := by decide +kernel
theorem dX1_turn_8 : decode cX1_turn 8 = .ok (.iconst 0, 1) := by decide +kernel
theorem dX1_turn_9 : decode cX1_turn 9 = .ok (.ireturn, 1) := by decide +kernel
theorem dX1_hasParts_0 : decode cX1_hasParts 0 = .ok (.iload_n 0, 1) := by decide +kernel
theorem dX1_hasParts_1 : decode cX1_hasParts 1 = .ok (.bipush 123, 2) := by decide +kernel
theorem dX1_hasParts_3 : decode cX1_hasParts 3 = .ok (.if_icmp .eq 21, 3) := by decide +kernel
theorem dX1_hasParts_6 : decode cX1_hasParts 6 = .ok (.iload_n 0, 1) := by decide +kernel
theorem dX1_hasParts_7 : decode cX1_hasParts 7 = .ok (.bipush 91, 2) := by decide +kernel
theorem dX1_hasParts_9 : decode cX1_hasParts 9 = .ok (.if_icmp .eq 15, 3) := by decide +kernel
theorem dX1_hasParts_12 : decode cX1_hasParts 12 = .ok (.iload_n 0, 1) := by decide +kernel
theorem dX1_hasParts_13 : decode cX1_hasParts 13 = .ok (.bipush 42, 2) := by decide +kernel
theorem dX1_hasParts_15 : decode cX1_hasParts 15 = .ok (.if_icmp .eq 9, 3) := by decide +kernel
theorem dX1_hasParts_18 : decode cX1_hasParts 18 = .ok (.iload_n 0, 1) := by decide +kernel
theorem dX1_hasParts_19 : decode cX1_hasParts 19 = .ok (.bipush 62, 2) := by decide +kernel
theorem dX1_hasParts_21 : decode cX1_hasParts 21 = .ok (.if_icmp .ne 7, 3) := by decide +kernel
theorem dX1_hasParts_24 : decode cX1_hasParts 24 = .ok (.iconst 1, 1) := by decide +kernel
theorem dX1_hasParts_25 : decode cX1_hasParts 25 = .ok (.goto 4, 3) := by decide +kernel
theorem dX1_hasParts_28 : decode cX1_hasParts 28 = .ok (.iconst 0, 1) := by decide +kernel
theorem dX1_hasParts_29 : decode cX1_hasParts 29 = .ok (.ireturn, 1) := by decide +kernel
theorem dX1_keepsAll_0 : decode cX1_keepsAll 0 = .ok (.iload_n 0, 1) := by decide +kernel
theorem dX1_keepsAll_1 : decode cX1_keepsAll 1 = .ok (.bipush 123, 2) := by decide +kernel
theorem dX1_keepsAll_3 : decode cX1_keepsAll 3 = .ok (.if_icmp .ne 8, 3) := by decide +kernel
theorem dX1_keepsAll_6 : decode cX1_keepsAll 6 = .ok (.iload_n 1, 1) := by decide +kernel
theorem dX1_keepsAll_7 : decode cX1_keepsAll 7 = .ok (.iconst 1, 1) := by decide +kernel
theorem dX1_keepsAll_8 : decode cX1_keepsAll 8 = .ok (.if_icmp .eq 13, 3) := by decide +kernel
theorem dX1_keepsAll_11 : decode cX1_keepsAll 11 = .ok (.iload_n 0, 1) := by decide +kernel
theorem dX1_keepsAll_12 : decode cX1_keepsAll 12 = .ok (.bipush 91, 2) := by decide +kernel
theorem dX1_keepsAll_14 : decode cX1_keepsAll 14 = .ok (.if_icmp .ne 11, 3) := by decide +kernel
theorem dX1_keepsAll_17 : decode cX1_keepsAll 17 = .ok (.iload_n 1, 1) := by decide +kernel
theorem dX1_keepsAll_18 : decode cX1_keepsAll 18 = .ok (.ifCond .ne 7, 3) := by decide +kernel
theorem dX1_keepsAll_21 : decode cX1_keepsAll 21 = .ok (.iconst 1, 1) := by decide +kernel
theorem dX1_keepsAll_22 : decode cX1_keepsAll 22 = .ok (.goto 4, 3) := by decide +kernel
theorem dX1_keepsAll_25 : decode cX1_keepsAll 25 = .ok (.iconst 0, 1) := by decide +kernel
theorem dX1_keepsAll_26 : decode cX1_keepsAll 26 = .ok (.ireturn, 1) := by decide +kernel
