theorem dX0_forget_0 : decode cX0_forget 0 = .ok (.aload_n 0, 1) := by decide +kernel
theorem dX0_forget_1 : decode cX0_forget 1 = .ok (.iconst 0, 1) := by decide +kernel
theorem dX0_forget_2 : decode cX0_forget 2 = .ok (.putfield 22, 3) := by decide +kernel
theorem dX0_forget_5 : decode cX0_forget 5 = .ok (.return_, 1) := by decide +kernel
theorem dX0_valuesOf_0 : decode cX0_valuesOf 0 = .ok (.aload_n 0, 1) := by decide +kernel
theorem dX0_valuesOf_1 : decode cX0_valuesOf 1 = .ok (.invokevirtual 26, 3) := by decide +kernel
theorem dX0_valuesOf_4 : decode cX0_valuesOf 4 = .ok (.aload_n 0, 1) := by decide +kernel
theorem dX0_valuesOf_5 : decode cX0_valuesOf 5 = .ok (.iload_n 1, 1) := by decide +kernel
theorem dX0_valuesOf_6 : decode cX0_valuesOf 6 = .ok (.iload_n 2, 1) := by decide +kernel
theorem dX0_valuesOf_7 : decode cX0_valuesOf 7 = .ok (.invokevirtual 29, 3) := by decide +kernel
theorem dX0_valuesOf_10 : decode cX0_valuesOf 10 = .ok (.l2i, 1) := by decide +kernel
theorem dX0_valuesOf_11 : decode cX0_valuesOf 11 = .ok (.ireturn, 1) := by decide +kernel
theorem dX0_catchUp_0 : decode cX0_catchUp 0 = .ok (.aload_n 0, 1) := by decide +kernel
theorem dX0_catchUp_1 : decode cX0_catchUp 1 = .ok (.getfield 9, 3) := by decide +kernel
theorem dX0_catchUp_4 : decode cX0_catchUp 4 = .ok (.invokevirtual 33, 3) := by decide +kernel
theorem dX0_catchUp_7 : decode cX0_catchUp 7 = .ok (.bipush 60, 2) := by decide +kernel
theorem dX0_catchUp_9 : decode cX0_catchUp 9 = .ok (.invokestatic 39, 3) := by decide +kernel
theorem dX0_catchUp_12 : decode cX0_catchUp 12 = .ok (.istore_n 1, 1) := by decide +kernel
theorem dX0_catchUp_13 : decode cX0_catchUp 13 = .ok (.aload_n 0, 1) := by decide +kernel
theorem dX0_catchUp_14 : decode cX0_catchUp 14 = .ok (.getfield 22, 3) := by decide +kernel
theorem dX0_catchUp_17 : decode cX0_catchUp 17 = .ok (.ifCond .lt 11, 3) := by decide +kernel
theorem dX0_catchUp_20 : decode cX0_catchUp 20 = .ok (.aload_n 0, 1) := by decide +kernel
theorem dX0_catchUp_21 : decode cX0_catchUp 21 = .ok (.getfield 22, 3) := by decide +kernel
theorem dX0_catchUp_24 : decode cX0_catchUp 24 = .ok (.iload_n 1, 1) := by decide +kernel
theorem dX0_catchUp_25 : decode cX0_catchUp 25 = .ok (.if_icmp .lt 4, 3) := by decide +kernel
theorem dX0_catchUp_28 : decode cX0_catchUp 28 = .ok (.return_, 1) := by decide +kernel
theorem dX0_catchUp_29 : decode cX0_catchUp 29 = .ok (.iconst 1, 1) := by decide +kernel
theorem dX0_catchUp_30 : decode cX0_catchUp 30 = .ok (.istore_n 2, 1) := by decide +kernel
theorem dX0_catchUp_31 : decode cX0_catchUp 31 = .ok (.iload_n 2, 1) := by decide +kernel
theorem dX0_catchUp_32 : decode cX0_catchUp 32 = .ok (.bipush 12, 2) := by decide +kernel
theorem dX0_catchUp_34 : decode cX0_catchUp 34 = .ok (.if_icmp .gt 42, 3) := by decide +kernel
theorem dX0_catchUp_37 : decode cX0_catchUp 37 = .ok (.aload_n 0, 1) := by decide +kernel
theorem dX0_catchUp_38 : decode cX0_catchUp 38 = .ok (.getfield 22, 3) := by decide +kernel
theorem dX0_catchUp_41 : decode cX0_catchUp 41 = .ok (.istore_n 3, 1) := by decide +kernel
theorem dX0_catchUp_42 : decode cX0_catchUp 42 = .ok (.iload_n 3, 1) := by decide +kernel
theorem dX0_catchUp_43 : decode cX0_catchUp 43 = .ok (.iload_n 1, 1) := by decide +kernel
theorem dX0_catchUp_44 : decode cX0_catchUp 44 = .ok (.if_icmp .ge 26, 3) := by decide +kernel
theorem dX0_catchUp_47 : decode cX0_catchUp 47 = .ok (.aload_n 0, 1) := by decide +kernel
theorem dX0_catchUp_48 : decode cX0_catchUp 48 = .ok (.getfield 15, 3) := by decide +kernel
theorem dX0_catchUp_51 : decode cX0_catchUp 51 = .ok (.iload_n 3, 1) := by decide +kernel
theorem dX0_catchUp_52 : decode cX0_catchUp 52 = .ok (.bipush 13, 2) := by decide +kernel
theorem dX0_catchUp_54 : decode cX0_catchUp 54 = .ok (.imul, 1) := by decide +kernel
theorem dX0_catchUp_55 : decode cX0_catchUp 55 = .ok (.iload_n 2, 1) := by decide +kernel
theorem dX0_catchUp_56 : decode cX0_catchUp 56 = .ok (.iadd, 1) := by decide +kernel
theorem dX0_catchUp_57 : decode cX0_catchUp 57 = .ok (.aload_n 0, 1) := by decide +kernel
theorem dX0_catchUp_58 : decode cX0_catchUp 58 = .ok (.iload_n 3, 1) := by decide +kernel
theorem dX0_catchUp_59 : decode cX0_catchUp 59 = .ok (.iload_n 2, 1) := by decide +kernel
theorem dX0_catchUp_60 : decode cX0_catchUp 60 = .ok (.invokevirtual 45, 3) := by decide +kernel
theorem dX0_catchUp_63 : decode cX0_catchUp 63 = .ok (.lastore, 1) := by decide +kernel
theorem dX0_catchUp_64 : decode cX0_catchUp 64 = .ok (.iinc 3 1, 3) := by decide +kernel
theorem dX0_catchUp_67 : decode cX0_catchUp 67 = .ok (.goto (-25), 3) := by decide +kernel
theorem dX0_catchUp_70 : decode cX0_catchUp 70 = .ok (.iinc 2 1, 3) := by decide +kernel
theorem dX0_catchUp_73 : decode cX0_catchUp 73 = .ok (.goto (-42), 3) := by decide +kernel
theorem dX0_catchUp_76 : decode cX0_catchUp 76 = .ok (.aload_n 0, 1) := by decide +kernel
theorem dX0_catchUp_77 : decode cX0_catchUp 77 = .ok (.iload_n 1, 1) := by decide +kernel
theorem dX0_catchUp_78 : decode cX0_catchUp 78 = .ok (.putfield 22, 3) := by decide +kernel
theorem dX0_catchUp_81 : decode cX0_catchUp 81 = .ok (.return_, 1) := by decide +kernel
theorem dX0_foundOf_0 : decode cX0_foundOf 0 = .ok (.iload_n 1, 1) := by decide +kernel
theorem dX0_foundOf_1 : decode cX0_foundOf 1 = .ok (.ifCond .lt 24, 3) := by decide +kernel
theorem dX0_foundOf_4 : decode cX0_foundOf 4 = .ok (.iload_n 1, 1) := by decide +kernel
theorem dX0_foundOf_5 : decode cX0_foundOf 5 = .ok (.bipush 60, 2) := by decide +kernel
theorem dX0_foundOf_7 : decode cX0_foundOf 7 = .ok (.if_icmp .ge 18, 3) := by decide +kernel
theorem dX0_foundOf_10 : decode cX0_foundOf 10 = .ok (.iload_n 2, 1) := by decide +kernel
theorem dX0_foundOf_11 : decode cX0_foundOf 11 = .ok (.iconst 1, 1) := by decide +kernel
theorem dX0_foundOf_12 : decode cX0_foundOf 12 = .ok (.if_icmp .lt 13, 3) := by decide +kernel
theorem dX0_foundOf_15 : decode cX0_foundOf 15 = .ok (.iload_n 2, 1) := by decide +kernel
theorem dX0_foundOf_16 : decode cX0_foundOf 16 = .ok (.bipush 12, 2) := by decide +kernel
theorem dX0_foundOf_18 : decode cX0_foundOf 18 = .ok (.if_icmp .gt 7, 3) := by decide +kernel
theorem dX0_foundOf_21 : decode cX0_foundOf 21 = .ok (.iconst 1, 1) := by decide +kernel
theorem dX0_foundOf_22 : decode cX0_foundOf 22 = .ok (.goto 4, 3) := by decide +kernel
theorem dX0_foundOf_25 : decode cX0_foundOf 25 = .ok (.iconst 0, 1) := by decide +kernel
theorem dX0_foundOf_26 : decode cX0_foundOf 26 = .ok (.istore_n 3, 1) := by decide +kernel
theorem dX0_foundOf_27 : decode cX0_foundOf 27 = .ok (.iload_n 3, 1) := by decide +kernel
theorem dX0_foundOf_28 : decode cX0_foundOf 28 = .ok (.ifCond .eq 17, 3) := by decide +kernel
theorem dX0_foundOf_31 : decode cX0_foundOf 31 = .ok (.aload_n 0, 1) := by decide +kernel
theorem dX0_foundOf_32 : decode cX0_foundOf 32 = .ok (.getfield 15, 3) := by decide +kernel
theorem dX0_foundOf_35 : decode cX0_foundOf 35 = .ok (.iload_n 1, 1) := by decide +kernel
theorem dX0_foundOf_36 : decode cX0_foundOf 36 = .ok (.bipush 13, 2) := by decide +kernel
theorem dX0_foundOf_38 : decode cX0_foundOf 38 = .ok (.imul, 1) := by decide +kernel
theorem dX0_foundOf_39 : decode cX0_foundOf 39 = .ok (.iload_n 2, 1) := by decide +kernel
theorem dX0_foundOf_40 : decode cX0_foundOf 40 = .ok (.iadd, 1) := by decide +kernel
theorem dX0_foundOf_41 : decode cX0_foundOf 41 = .ok (.laload, 1) := by decide +kernel
theorem dX0_foundOf_42 : decode cX0_foundOf 42 = .ok (.goto 4, 3) := by decide +kernel
theorem dX0_foundOf_45 : decode cX0_foundOf 45 = .ok (.lconst 0, 1) := by decide +kernel
theorem dX0_foundOf_46 : decode cX0_foundOf 46 = .ok (.lreturn, 1) := by decide +kernel
theorem dX0_valuesBySmaller_0 : decode cX0_valuesBySmaller 0 = .ok (.aload_n 0, 1) := by decide +kernel
theorem dX0_valuesBySmaller_1 : decode cX0_valuesBySmaller 1 = .ok (.getfield 9, 3) := by decide +kernel
theorem dX0_valuesBySmaller_4 : decode cX0_valuesBySmaller 4 = .ok (.iload_n 1, 1) := by decide +kernel
theorem dX0_valuesBySmaller_5 : decode cX0_valuesBySmaller 5 = .ok (.invokevirtual 48, 3) := by decide +kernel
theorem dX0_valuesBySmaller_8 : decode cX0_valuesBySmaller 8 = .ok (.lookupswitch 124 #[(42, 117), (91, 108), (110, 60), (115, 86), (116, 73), (123, 99)], 60) := by decide +kernel
theorem dX0_valuesBySmaller_68 : decode cX0_valuesBySmaller 68 = .ok (.iload_n 2, 1) := by decide +kernel
theorem dX0_valuesBySmaller_69 : decode cX0_valuesBySmaller 69 = .ok (.iconst 1, 1) := by decide +kernel
theorem dX0_valuesBySmaller_70 : decode cX0_valuesBySmaller 70 = .ok (.if_icmp .ne 9, 3) := by decide +kernel
theorem dX0_valuesBySmaller_73 : decode cX0_valuesBySmaller 73 = .ok (.ldc2_w 52, 3) := by decide +kernel
theorem dX0_valuesBySmaller_76 : decode cX0_valuesBySmaller 76 = .ok (.goto 4, 3) := by decide +kernel
theorem dX0_valuesBySmaller_79 : decode cX0_valuesBySmaller 79 = .ok (.lconst 0, 1) := by decide +kernel
theorem dX0_valuesBySmaller_80 : decode cX0_valuesBySmaller 80 = .ok (.lreturn, 1) := by decide +kernel
theorem dX0_valuesBySmaller_81 : decode cX0_valuesBySmaller 81 = .ok (.iload_n 2, 1) := by decide +kernel
theorem dX0_valuesBySmaller_82 : decode cX0_valuesBySmaller 82 = .ok (.iconst 1, 1) := by decide +kernel
theorem dX0_valuesBySmaller_83 : decode cX0_valuesBySmaller 83 = .ok (.if_icmp .ne 9, 3) := by decide +kernel
theorem dX0_valuesBySmaller_86 : decode cX0_valuesBySmaller 86 = .ok (.ldc2_w 54, 3) := by decide +kernel
theorem dX0_valuesBySmaller_89 : decode cX0_valuesBySmaller 89 = .ok (.goto 4, 3) := by decide +kernel
theorem dX0_valuesBySmaller_92 : decode cX0_valuesBySmaller 92 = .ok (.lconst 0, 1) := by decide +kernel
theorem dX0_valuesBySmaller_93 : decode cX0_valuesBySmaller 93 = .ok (.lreturn, 1) := by decide +kernel
theorem dX0_valuesBySmaller_94 : decode cX0_valuesBySmaller 94 = .ok (.iload_n 2, 1) := by decide +kernel
theorem dX0_valuesBySmaller_95 : decode cX0_valuesBySmaller 95 = .ok (.iconst 1, 1) := by decide +kernel
theorem dX0_valuesBySmaller_96 : decode cX0_valuesBySmaller 96 = .ok (.if_icmp .ne 9, 3) := by decide +kernel
theorem dX0_valuesBySmaller_99 : decode cX0_valuesBySmaller 99 = .ok (.ldc2_w 56, 3) := by decide +kernel
theorem dX0_valuesBySmaller_102 : decode cX0_valuesBySmaller 102 = .ok (.goto 4, 3) := by decide +kernel
theorem dX0_valuesBySmaller_105 : decode cX0_valuesBySmaller 105 = .ok (.lconst 0, 1) := by decide +kernel
theorem dX0_valuesBySmaller_106 : decode cX0_valuesBySmaller 106 = .ok (.lreturn, 1) := by decide +kernel
theorem dX0_valuesBySmaller_107 : decode cX0_valuesBySmaller 107 = .ok (.aload_n 0, 1) := by decide +kernel
theorem dX0_valuesBySmaller_108 : decode cX0_valuesBySmaller 108 = .ok (.iload_n 1, 1) := by decide +kernel
theorem dX0_valuesBySmaller_109 : decode cX0_valuesBySmaller 109 = .ok (.iload_n 2, 1) := by decide +kernel
theorem dX0_valuesBySmaller_110 : decode cX0_valuesBySmaller 110 = .ok (.iconst 1, 1) := by decide +kernel
theorem dX0_valuesBySmaller_111 : decode cX0_valuesBySmaller 111 = .ok (.isub, 1) := by decide +kernel
theorem dX0_valuesBySmaller_112 : decode cX0_valuesBySmaller 112 = .ok (.invokevirtual 58, 3) := by decide +kernel
theorem dX0_valuesBySmaller_115 : decode cX0_valuesBySmaller 115 = .ok (.lreturn, 1) := by decide +kernel
theorem dX0_valuesBySmaller_116 : decode cX0_valuesBySmaller 116 = .ok (.aload_n 0, 1) := by decide +kernel
theorem dX0_valuesBySmaller_117 : decode cX0_valuesBySmaller 117 = .ok (.iload_n 1, 1) := by decide +kernel
theorem dX0_valuesBySmaller_118 : decode cX0_valuesBySmaller 118 = .ok (.iload_n 2, 1) := by decide +kernel
theorem dX0_valuesBySmaller_119 : decode cX0_valuesBySmaller 119 = .ok (.iconst 1, 1) := by decide +kernel
theorem dX0_valuesBySmaller_120 : decode cX0_valuesBySmaller 120 = .ok (.isub, 1) := by decide +kernel
theorem dX0_valuesBySmaller_121 : decode cX0_valuesBySmaller 121 = .ok (.invokevirtual 61, 3) := by decide +kernel
theorem dX0_valuesBySmaller_124 : decode cX0_valuesBySmaller 124 = .ok (.lreturn, 1) := by decide +kernel
theorem dX0_valuesBySmaller_125 : decode cX0_valuesBySmaller 125 = .ok (.aload_n 0, 1) := by decide +kernel
theorem dX0_valuesBySmaller_126 : decode cX0_valuesBySmaller 126 = .ok (.iload_n 1, 1) := by decide +kernel
theorem dX0_valuesBySmaller_127 : decode cX0_valuesBySmaller 127 = .ok (.iload_n 2, 1) := by decide +kernel
theorem dX0_valuesBySmaller_128 : decode cX0_valuesBySmaller 128 = .ok (.invokevirtual 64, 3) := by decide +kernel
theorem dX0_valuesBySmaller_131 : decode cX0_valuesBySmaller 131 = .ok (.lreturn, 1) := by decide +kernel
theorem dX0_valuesBySmaller_132 : decode cX0_valuesBySmaller 132 = .ok (.lconst 0, 1) := by decide +kernel
theorem dX0_valuesBySmaller_133 : decode cX0_valuesBySmaller 133 = .ok (.lreturn, 1) := by decide +kernel
theorem dX0_recordsOf_0 : decode cX0_recordsOf 0 = .ok (.iload_n 2, 1) := by decide +kernel
theorem dX0_recordsOf_1 : decode cX0_recordsOf 1 = .ok (.ifCond .lt 9, 3) := by decide +kernel
theorem dX0_recordsOf_4 : decode cX0_recordsOf 4 = .ok (.iload_n 2, 1) := by decide +kernel
theorem dX0_recordsOf_5 : decode cX0_recordsOf 5 = .ok (.bipush 12, 2) := by decide +kernel
theorem dX0_recordsOf_7 : decode cX0_recordsOf 7 = .ok (.if_icmp .le 5, 3) := by decide +kernel
theorem dX0_recordsOf_10 : decode cX0_recordsOf 10 = .ok (.lconst 0, 1) := by decide +kernel
theorem dX0_recordsOf_11 : decode cX0_recordsOf 11 = .ok (.lreturn, 1) := by decide +kernel
theorem dX0_recordsOf_12 : decode cX0_recordsOf 12 = .ok (.aload_n 0, 1) := by decide +kernel
theorem dX0_recordsOf_13 : decode cX0_recordsOf 13 = .ok (.getfield 19, 3) := by decide +kernel
theorem dX0_recordsOf_16 : decode cX0_recordsOf 16 = .ok (.lconst 0, 1) := by decide +kernel
theorem dX0_recordsOf_17 : decode cX0_recordsOf 17 = .ok (.invokestatic 67, 3) := by decide +kernel
theorem dX0_recordsOf_20 : decode cX0_recordsOf 20 = .ok (.aload_n 0, 1) := by decide +kernel
theorem dX0_recordsOf_21 : decode cX0_recordsOf 21 = .ok (.getfield 19, 3) := by decide +kernel
theorem dX0_recordsOf_24 : decode cX0_recordsOf 24 = .ok (.iconst 0, 1) := by decide +kernel
theorem dX0_recordsOf_25 : decode cX0_recordsOf 25 = .ok (.lconst 1, 1) := by decide +kernel
theorem dX0_recordsOf_26 : decode cX0_recordsOf 26 = .ok (.lastore, 1) := by decide +kernel
theorem dX0_recordsOf_27 : decode cX0_recordsOf 27 = .ok (.iconst 0, 1) := by decide +kernel
theorem dX0_recordsOf_28 : decode cX0_recordsOf 28 = .ok (.istore_n 3, 1) := by decide +kernel
theorem dX0_recordsOf_29 : decode cX0_recordsOf 29 = .ok (.iload_n 3, 1) := by decide +kernel
theorem dX0_recordsOf_30 : decode cX0_recordsOf 30 = .ok (.bipush 8, 2) := by decide +kernel
theorem dX0_recordsOf_32 : decode cX0_recordsOf 32 = .ok (.if_icmp .ge 34, 3) := by decide +kernel
theorem dX0_recordsOf_35 : decode cX0_recordsOf 35 = .ok (.aload_n 0, 1) := by decide +kernel
theorem dX0_recordsOf_36 : decode cX0_recordsOf 36 = .ok (.getfield 9, 3) := by decide +kernel
theorem dX0_recordsOf_39 : decode cX0_recordsOf 39 = .ok (.iload_n 1, 1) := by decide +kernel
theorem dX0_recordsOf_40 : decode cX0_recordsOf 40 = .ok (.iload_n 3, 1) := by decide +kernel
theorem dX0_recordsOf_41 : decode cX0_recordsOf 41 = .ok (.invokevirtual 73, 3) := by decide +kernel
theorem dX0_recordsOf_44 : decode cX0_recordsOf 44 = .ok (.istore 4, 2) := by decide +kernel
theorem dX0_recordsOf_46 : decode cX0_recordsOf 46 = .ok (.iload 4, 2) := by decide +kernel
theorem dX0_recordsOf_48 : decode cX0_recordsOf 48 = .ok (.bipush (-6), 2) := by decide +kernel
theorem dX0_recordsOf_50 : decode cX0_recordsOf 50 = .ok (.if_icmp .eq 10, 3) := by decide +kernel
theorem dX0_recordsOf_53 : decode cX0_recordsOf 53 = .ok (.aload_n 0, 1) := by decide +kernel
theorem dX0_recordsOf_54 : decode cX0_recordsOf 54 = .ok (.iload 4, 2) := by decide +kernel
theorem dX0_recordsOf_56 : decode cX0_recordsOf 56 = .ok (.iload_n 2, 1) := by decide +kernel
theorem dX0_recordsOf_57 : decode cX0_recordsOf 57 = .ok (.invokevirtual 76, 3) := by decide +kernel
theorem dX0_recordsOf_60 : decode cX0_recordsOf 60 = .ok (.iinc 3 1, 3) := by decide +kernel
theorem dX0_recordsOf_63 : decode cX0_recordsOf 63 = .ok (.goto (-34), 3) := by decide +kernel
theorem dX0_recordsOf_66 : decode cX0_recordsOf 66 = .ok (.aload_n 0, 1) := by decide +kernel
theorem dX0_recordsOf_67 : decode cX0_recordsOf 67 = .ok (.getfield 19, 3) := by decide +kernel
theorem dX0_recordsOf_70 : decode cX0_recordsOf 70 = .ok (.iload_n 2, 1) := by decide +kernel
theorem dX0_recordsOf_71 : decode cX0_recordsOf 71 = .ok (.laload, 1) := by decide +kernel
theorem dX0_recordsOf_72 : decode cX0_recordsOf 72 = .ok (.lreturn, 1) := by decide +kernel
theorem dX0_addLetter_0 : decode cX0_addLetter 0 = .ok (.iload_n 2, 1) := by decide +kernel
theorem dX0_addLetter_1 : decode cX0_addLetter 1 = .ok (.bipush 12, 2) := by decide +kernel
theorem dX0_addLetter_3 : decode cX0_addLetter 3 = .ok (.invokestatic 39, 3) := by decide +kernel
theorem dX0_addLetter_6 : decode cX0_addLetter 6 = .ok (.istore_n 3, 1) := by decide +kernel
theorem dX0_addLetter_7 : decode cX0_addLetter 7 = .ok (.iload_n 3, 1) := by decide +kernel
theorem dX0_addLetter_8 : decode cX0_addLetter 8 = .ok (.ifCond .lt 63, 3) := by decide +kernel
theorem dX0_addLetter_11 : decode cX0_addLetter 11 = .ok (.lconst 0, 1) := by decide +kernel
theorem dX0_addLetter_12 : decode cX0_addLetter 12 = .ok (.lstore 4, 2) := by decide +kernel
theorem dX0_addLetter_14 : decode cX0_addLetter 14 = .ok (.iconst 1, 1) := by decide +kernel
theorem dX0_addLetter_15 : decode cX0_addLetter 15 = .ok (.istore 6, 2) := by decide +kernel
theorem dX0_addLetter_17 : decode cX0_addLetter 17 = .ok (.iload 6, 2) := by decide +kernel
theorem dX0_addLetter_19 : decode cX0_addLetter 19 = .ok (.iload_n 3, 1) := by decide +kernel
theorem dX0_addLetter_20 : decode cX0_addLetter 20 = .ok (.if_icmp .gt 37, 3) := by decide +kernel
theorem dX0_addLetter_23 : decode cX0_addLetter 23 = .ok (.ldc2_w 80, 3) := by decide +kernel
theorem dX0_addLetter_26 : decode cX0_addLetter 26 = .ok (.lload 4, 2) := by decide +kernel
theorem dX0_addLetter_28 : decode cX0_addLetter 28 = .ok (.aload_n 0, 1) := by decide +kernel
theorem dX0_addLetter_29 : decode cX0_addLetter 29 = .ok (.getfield 19, 3) := by decide +kernel
theorem dX0_addLetter_32 : decode cX0_addLetter 32 = .ok (.iload_n 3, 1) := by decide +kernel
theorem dX0_addLetter_33 : decode cX0_addLetter 33 = .ok (.iload 6, 2) := by decide +kernel
theorem dX0_addLetter_35 : decode cX0_addLetter 35 = .ok (.isub, 1) := by decide +kernel
theorem dX0_addLetter_36 : decode cX0_addLetter 36 = .ok (.laload, 1) := by decide +kernel
theorem dX0_addLetter_37 : decode cX0_addLetter 37 = .ok (.aload_n 0, 1) := by decide +kernel
theorem dX0_addLetter_38 : decode cX0_addLetter 38 = .ok (.iload_n 1, 1) := by decide +kernel
theorem dX0_addLetter_39 : decode cX0_addLetter 39 = .ok (.iload 6, 2) := by decide +kernel
theorem dX0_addLetter_41 : decode cX0_addLetter 41 = .ok (.invokevirtual 29, 3) := by decide +kernel
theorem dX0_addLetter_44 : decode cX0_addLetter 44 = .ok (.lmul, 1) := by decide +kernel
theorem dX0_addLetter_45 : decode cX0_addLetter 45 = .ok (.ladd, 1) := by decide +kernel
theorem dX0_addLetter_46 : decode cX0_addLetter 46 = .ok (.invokestatic 82, 3) := by decide +kernel
theorem dX0_addLetter_49 : decode cX0_addLetter 49 = .ok (.lstore 4, 2) := by decide +kernel
theorem dX0_addLetter_51 : decode cX0_addLetter 51 = .ok (.iinc 6 1, 3) := by decide +kernel
theorem dX0_addLetter_54 : decode cX0_addLetter 54 = .ok (.goto (-37), 3) := by decide +kernel
theorem dX0_addLetter_57 : decode cX0_addLetter 57 = .ok (.aload_n 0, 1) := by decide +kernel
theorem dX0_addLetter_58 : decode cX0_addLetter 58 = .ok (.getfield 19, 3) := by decide +kernel
theorem dX0_addLetter_61 : decode cX0_addLetter 61 = .ok (.iload_n 3, 1) := by decide +kernel
theorem dX0_addLetter_62 : decode cX0_addLetter 62 = .ok (.lload 4, 2) := by decide +kernel
theorem dX0_addLetter_64 : decode cX0_addLetter 64 = .ok (.lastore, 1) := by decide +kernel
theorem dX0_addLetter_65 : decode cX0_addLetter 65 = .ok (.iinc 3 (-1), 3) := by decide +kernel
theorem dX0_addLetter_68 : decode cX0_addLetter 68 = .ok (.goto (-61), 3) := by decide +kernel
theorem dX0_addLetter_71 : decode cX0_addLetter 71 = .ok (.return_, 1) := by decide +kernel
theorem dX0_choicesOf_0 : decode cX0_choicesOf 0 = .ok (.lconst 0, 1) := by decide +kernel
theorem dX0_choicesOf_1 : decode cX0_choicesOf 1 = .ok (.lstore_n 3, 1) := by decide +kernel
theorem dX0_choicesOf_2 : decode cX0_choicesOf 2 = .ok (.iconst 0, 1) := by decide +kernel
theorem dX0_choicesOf_3 : decode cX0_choicesOf 3 = .ok (.istore 5, 2) := by decide +kernel
theorem dX0_choicesOf_5 : decode cX0_choicesOf 5 = .ok (.iload 5, 2) := by decide +kernel
theorem dX0_choicesOf_7 : decode cX0_choicesOf 7 = .ok (.bipush 8, 2) := by decide +kernel
theorem dX0_choicesOf_9 : decode cX0_choicesOf 9 = .ok (.if_icmp .ge 33, 3) := by decide +kernel
theorem dX0_choicesOf_12 : decode cX0_choicesOf 12 = .ok (.ldc2_w 80, 3) := by decide +kernel
theorem dX0_choicesOf_15 : decode cX0_choicesOf 15 = .ok (.lload_n 3, 1) := by decide +kernel
theorem dX0_choicesOf_16 : decode cX0_choicesOf 16 = .ok (.aload_n 0, 1) := by decide +kernel
theorem dX0_choicesOf_17 : decode cX0_choicesOf 17 = .ok (.aload_n 0, 1) := by decide +kernel
theorem dX0_choicesOf_18 : decode cX0_choicesOf 18 = .ok (.getfield 9, 3) := by decide +kernel
theorem dX0_choicesOf_21 : decode cX0_choicesOf 21 = .ok (.iload_n 1, 1) := by decide +kernel
theorem dX0_choicesOf_22 : decode cX0_choicesOf 22 = .ok (.iload 5, 2) := by decide +kernel
theorem dX0_choicesOf_24 : decode cX0_choicesOf 24 = .ok (.invokevirtual 73, 3) := by decide +kernel
theorem dX0_choicesOf_27 : decode cX0_choicesOf 27 = .ok (.iload_n 2, 1) := by decide +kernel
theorem dX0_choicesOf_28 : decode cX0_choicesOf 28 = .ok (.invokevirtual 29, 3) := by decide +kernel
theorem dX0_choicesOf_31 : decode cX0_choicesOf 31 = .ok (.ladd, 1) := by decide +kernel
theorem dX0_choicesOf_32 : decode cX0_choicesOf 32 = .ok (.invokestatic 82, 3) := by decide +kernel
theorem dX0_choicesOf_35 : decode cX0_choicesOf 35 = .ok (.lstore_n 3, 1) := by decide +kernel
theorem dX0_choicesOf_36 : decode cX0_choicesOf 36 = .ok (.iinc 5 1, 3) := by decide +kernel
theorem dX0_choicesOf_39 : decode cX0_choicesOf 39 = .ok (.goto (-34), 3) := by decide +kernel
theorem dX0_choicesOf_42 : decode cX0_choicesOf 42 = .ok (.lload_n 3, 1) := by decide +kernel
theorem dX0_choicesOf_43 : decode cX0_choicesOf 43 = .ok (.lreturn, 1) := by decide +kernel
theorem dX0_listsOf_0 : decode cX0_listsOf 0 = .ok (.iload_n 2, 1) := by decide +kernel
theorem dX0_listsOf_1 : decode cX0_listsOf 1 = .ok (.iconst 1, 1) := by decide +kernel
theorem dX0_listsOf_2 : decode cX0_listsOf 2 = .ok (.if_icmp .ne 5, 3) := by decide +kernel
theorem dX0_listsOf_5 : decode cX0_listsOf 5 = .ok (.lconst 1, 1) := by decide +kernel
theorem dX0_listsOf_6 : decode cX0_listsOf 6 = .ok (.lreturn, 1) := by decide +kernel
theorem dX0_listsOf_7 : decode cX0_listsOf 7 = .ok (.aload_n 0, 1) := by decide +kernel
theorem dX0_listsOf_8 : decode cX0_listsOf 8 = .ok (.getfield 9, 3) := by decide +kernel
theorem dX0_listsOf_11 : decode cX0_listsOf 11 = .ok (.iload_n 1, 1) := by decide +kernel
theorem dX0_listsOf_12 : decode cX0_listsOf 12 = .ok (.iconst 0, 1) := by decide +kernel
theorem dX0_listsOf_13 : decode cX0_listsOf 13 = .ok (.invokevirtual 73, 3) := by decide +kernel
theorem dX0_listsOf_16 : decode cX0_listsOf 16 = .ok (.istore_n 3, 1) := by decide +kernel
theorem dX0_listsOf_17 : decode cX0_listsOf 17 = .ok (.lconst 0, 1) := by decide +kernel
theorem dX0_listsOf_18 : decode cX0_listsOf 18 = .ok (.lstore 4, 2) := by decide +kernel
theorem dX0_listsOf_20 : decode cX0_listsOf 20 = .ok (.iconst 1, 1) := by decide +kernel
theorem dX0_listsOf_21 : decode cX0_listsOf 21 = .ok (.istore 6, 2) := by decide +kernel
theorem dX0_listsOf_23 : decode cX0_listsOf 23 = .ok (.iload 6, 2) := by decide +kernel
theorem dX0_listsOf_25 : decode cX0_listsOf 25 = .ok (.iload_n 2, 1) := by decide +kernel
theorem dX0_listsOf_26 : decode cX0_listsOf 26 = .ok (.if_icmp .ge 37, 3) := by decide +kernel
theorem dX0_listsOf_29 : decode cX0_listsOf 29 = .ok (.ldc2_w 80, 3) := by decide +kernel
theorem dX0_listsOf_32 : decode cX0_listsOf 32 = .ok (.lload 4, 2) := by decide +kernel
theorem dX0_listsOf_34 : decode cX0_listsOf 34 = .ok (.aload_n 0, 1) := by decide +kernel
theorem dX0_listsOf_35 : decode cX0_listsOf 35 = .ok (.iload_n 3, 1) := by decide +kernel
theorem dX0_listsOf_36 : decode cX0_listsOf 36 = .ok (.iload 6, 2) := by decide +kernel
theorem dX0_listsOf_38 : decode cX0_listsOf 38 = .ok (.invokevirtual 29, 3) := by decide +kernel
theorem dX0_listsOf_41 : decode cX0_listsOf 41 = .ok (.aload_n 0, 1) := by decide +kernel
theorem dX0_listsOf_42 : decode cX0_listsOf 42 = .ok (.iload_n 1, 1) := by decide +kernel
theorem dX0_listsOf_43 : decode cX0_listsOf 43 = .ok (.iload_n 2, 1) := by decide +kernel
theorem dX0_listsOf_44 : decode cX0_listsOf 44 = .ok (.iload 6, 2) := by decide +kernel
theorem dX0_listsOf_46 : decode cX0_listsOf 46 = .ok (.isub, 1) := by decide +kernel
theorem dX0_listsOf_47 : decode cX0_listsOf 47 = .ok (.invokevirtual 29, 3) := by decide +kernel
theorem dX0_listsOf_50 : decode cX0_listsOf 50 = .ok (.lmul, 1) := by decide +kernel
theorem dX0_listsOf_51 : decode cX0_listsOf 51 = .ok (.ladd, 1) := by decide +kernel
theorem dX0_listsOf_52 : decode cX0_listsOf 52 = .ok (.invokestatic 82, 3) := by decide +kernel
theorem dX0_listsOf_55 : decode cX0_listsOf 55 = .ok (.lstore 4, 2) := by decide +kernel
theorem dX0_listsOf_57 : decode cX0_listsOf 57 = .ok (.iinc 6 1, 3) := by decide +kernel
theorem dX0_listsOf_60 : decode cX0_listsOf 60 = .ok (.goto (-37), 3) := by decide +kernel
theorem dX0_listsOf_63 : decode cX0_listsOf 63 = .ok (.lload 4, 2) := by decide +kernel
theorem dX0_listsOf_65 : decode cX0_listsOf 65 = .ok (.lreturn, 1) := by decide +kernel
