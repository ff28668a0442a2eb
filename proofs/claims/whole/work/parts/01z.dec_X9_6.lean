theorem dX9_fits_474 : decode cX9_fits 474 = .ok (.bipush 36, 2) := by decide +kernel
theorem dX9_fits_476 : decode cX9_fits 476 = .ok (.if_icmp .ne 7, 3) := by decide +kernel
theorem dX9_fits_479 : decode cX9_fits 479 = .ok (.iconst 2, 1) := by decide +kernel
theorem dX9_fits_480 : decode cX9_fits 480 = .ok (.goto 4, 3) := by decide +kernel
theorem dX9_fits_483 : decode cX9_fits 483 = .ok (.iconst 1, 1) := by decide +kernel
theorem dX9_fits_484 : decode cX9_fits 484 = .ok (.iadd, 1) := by decide +kernel
theorem dX9_fits_485 : decode cX9_fits 485 = .ok (.istore_n 3, 1) := by decide +kernel
theorem dX9_fits_486 : decode cX9_fits 486 = .ok (.aload_n 0, 1) := by decide +kernel
theorem dX9_fits_487 : decode cX9_fits 487 = .ok (.getfield 172, 3) := by decide +kernel
theorem dX9_fits_490 : decode cX9_fits 490 = .ok (.ifCond .le 27, 3) := by decide +kernel
theorem dX9_fits_493 : decode cX9_fits 493 = .ok (.aload_n 0, 1) := by decide +kernel
theorem dX9_fits_494 : decode cX9_fits 494 = .ok (.getfield 59, 3) := by decide +kernel
theorem dX9_fits_497 : decode cX9_fits 497 = .ok (.aload_n 0, 1) := by decide +kernel
theorem dX9_fits_498 : decode cX9_fits 498 = .ok (.getfield 172, 3) := by decide +kernel
theorem dX9_fits_501 : decode cX9_fits 501 = .ok (.iconst 1, 1) := by decide +kernel
theorem dX9_fits_502 : decode cX9_fits 502 = .ok (.isub, 1) := by decide +kernel
theorem dX9_fits_503 : decode cX9_fits 503 = .ok (.iaload, 1) := by decide +kernel
theorem dX9_fits_504 : decode cX9_fits 504 = .ok (.bipush 40, 2) := by decide +kernel
theorem dX9_fits_506 : decode cX9_fits 506 = .ok (.if_icmp .ne 11, 3) := by decide +kernel
theorem dX9_fits_509 : decode cX9_fits 509 = .ok (.aload_n 0, 1) := by decide +kernel
theorem dX9_fits_510 : decode cX9_fits 510 = .ok (.iconst 0, 1) := by decide +kernel
theorem dX9_fits_511 : decode cX9_fits 511 = .ok (.invokevirtual 178, 3) := by decide +kernel
theorem dX9_fits_514 : decode cX9_fits 514 = .ok (.goto 5, 3) := by decide +kernel
theorem dX9_fits_517 : decode cX9_fits 517 = .ok (.ldc 137, 2) := by decide +kernel
theorem dX9_fits_519 : decode cX9_fits 519 = .ok (.istore_n 2, 1) := by decide +kernel
theorem dX9_fits_520 : decode cX9_fits 520 = .ok (.goto (-491), 3) := by decide +kernel
theorem dX9_fits_523 : decode cX9_fits 523 = .ok (.bipush (-6), 2) := by decide +kernel
theorem dX9_fits_525 : decode cX9_fits 525 = .ok (.ireturn, 1) := by decide +kernel
theorem dX9_begin_0 : decode cX9_begin 0 = .ok (.aload_n 0, 1) := by decide +kernel
theorem dX9_begin_1 : decode cX9_begin 1 = .ok (.getfield 59, 3) := by decide +kernel
theorem dX9_begin_4 : decode cX9_begin 4 = .ok (.aload_n 0, 1) := by decide +kernel
theorem dX9_begin_5 : decode cX9_begin 5 = .ok (.getfield 172, 3) := by decide +kernel
theorem dX9_begin_8 : decode cX9_begin 8 = .ok (.iload_n 1, 1) := by decide +kernel
theorem dX9_begin_9 : decode cX9_begin 9 = .ok (.iastore, 1) := by decide +kernel
theorem dX9_begin_10 : decode cX9_begin 10 = .ok (.aload_n 0, 1) := by decide +kernel
theorem dX9_begin_11 : decode cX9_begin 11 = .ok (.getfield 65, 3) := by decide +kernel
theorem dX9_begin_14 : decode cX9_begin 14 = .ok (.aload_n 0, 1) := by decide +kernel
theorem dX9_begin_15 : decode cX9_begin 15 = .ok (.getfield 172, 3) := by decide +kernel
theorem dX9_begin_18 : decode cX9_begin 18 = .ok (.iload_n 2, 1) := by decide +kernel
theorem dX9_begin_19 : decode cX9_begin 19 = .ok (.iastore, 1) := by decide +kernel
theorem dX9_begin_20 : decode cX9_begin 20 = .ok (.aload_n 0, 1) := by decide +kernel
theorem dX9_begin_21 : decode cX9_begin 21 = .ok (.getfield 68, 3) := by decide +kernel
theorem dX9_begin_24 : decode cX9_begin 24 = .ok (.aload_n 0, 1) := by decide +kernel
theorem dX9_begin_25 : decode cX9_begin 25 = .ok (.getfield 172, 3) := by decide +kernel
theorem dX9_begin_28 : decode cX9_begin 28 = .ok (.iconst 0, 1) := by decide +kernel
theorem dX9_begin_29 : decode cX9_begin 29 = .ok (.iastore, 1) := by decide +kernel
theorem dX9_begin_30 : decode cX9_begin 30 = .ok (.aload_n 0, 1) := by decide +kernel
theorem dX9_begin_31 : decode cX9_begin 31 = .ok (.dup, 1) := by decide +kernel
theorem dX9_begin_32 : decode cX9_begin 32 = .ok (.getfield 172, 3) := by decide +kernel
theorem dX9_begin_35 : decode cX9_begin 35 = .ok (.iconst 1, 1) := by decide +kernel
theorem dX9_begin_36 : decode cX9_begin 36 = .ok (.iadd, 1) := by decide +kernel
theorem dX9_begin_37 : decode cX9_begin 37 = .ok (.putfield 172, 3) := by decide +kernel
theorem dX9_begin_40 : decode cX9_begin 40 = .ok (.return_, 1) := by decide +kernel
theorem dX9_held_0 : decode cX9_held 0 = .ok (.lload_n 0, 1) := by decide +kernel
theorem dX9_held_1 : decode cX9_held 1 = .ok (.ldc2_w 185, 3) := by decide +kernel
theorem dX9_held_4 : decode cX9_held 4 = .ok (.lcmp, 1) := by decide +kernel
theorem dX9_held_5 : decode cX9_held 5 = .ok (.ifCond .le 9, 3) := by decide +kernel
theorem dX9_held_8 : decode cX9_held 8 = .ok (.ldc2_w 185, 3) := by decide +kernel
theorem dX9_held_11 : decode cX9_held 11 = .ok (.goto 4, 3) := by decide +kernel
theorem dX9_held_14 : decode cX9_held 14 = .ok (.lload_n 0, 1) := by decide +kernel
theorem dX9_held_15 : decode cX9_held 15 = .ok (.lreturn, 1) := by decide +kernel
theorem dX9_recordCount_0 : decode cX9_recordCount 0 = .ok (.iconst 0, 1) := by decide +kernel
theorem dX9_recordCount_1 : decode cX9_recordCount 1 = .ok (.istore_n 3, 1) := by decide +kernel
theorem dX9_recordCount_2 : decode cX9_recordCount 2 = .ok (.iload_n 3, 1) := by decide +kernel
theorem dX9_recordCount_3 : decode cX9_recordCount 3 = .ok (.bipush 13, 2) := by decide +kernel
theorem dX9_recordCount_5 : decode cX9_recordCount 5 = .ok (.if_icmp .ge 25, 3) := by decide +kernel
theorem dX9_recordCount_8 : decode cX9_recordCount 8 = .ok (.aload_n 0, 1) := by decide +kernel
theorem dX9_recordCount_9 : decode cX9_recordCount 9 = .ok (.getfield 75, 3) := by decide +kernel
theorem dX9_recordCount_12 : decode cX9_recordCount 12 = .ok (.iload_n 3, 1) := by decide +kernel
theorem dX9_recordCount_13 : decode cX9_recordCount 13 = .ok (.iload_n 3, 1) := by decide +kernel
theorem dX9_recordCount_14 : decode cX9_recordCount 14 = .ok (.iconst 1, 1) := by decide +kernel
theorem dX9_recordCount_15 : decode cX9_recordCount 15 = .ok (.if_icmp .ne 7, 3) := by decide +kernel
theorem dX9_recordCount_18 : decode cX9_recordCount 18 = .ok (.lconst 1, 1) := by decide +kernel
theorem dX9_recordCount_19 : decode cX9_recordCount 19 = .ok (.goto 4, 3) := by decide +kernel
theorem dX9_recordCount_22 : decode cX9_recordCount 22 = .ok (.lconst 0, 1) := by decide +kernel
theorem dX9_recordCount_23 : decode cX9_recordCount 23 = .ok (.lastore, 1) := by decide +kernel
theorem dX9_recordCount_24 : decode cX9_recordCount 24 = .ok (.iinc 3 1, 3) := by decide +kernel
theorem dX9_recordCount_27 : decode cX9_recordCount 27 = .ok (.goto (-25), 3) := by decide +kernel
theorem dX9_recordCount_30 : decode cX9_recordCount 30 = .ok (.iconst 0, 1) := by decide +kernel
theorem dX9_recordCount_31 : decode cX9_recordCount 31 = .ok (.istore_n 3, 1) := by decide +kernel
theorem dX9_recordCount_32 : decode cX9_recordCount 32 = .ok (.iload_n 3, 1) := by decide +kernel
theorem dX9_recordCount_33 : decode cX9_recordCount 33 = .ok (.bipush 8, 2) := by decide +kernel
theorem dX9_recordCount_35 : decode cX9_recordCount 35 = .ok (.if_icmp .ge 140, 3) := by decide +kernel
theorem dX9_recordCount_38 : decode cX9_recordCount 38 = .ok (.aload_n 0, 1) := by decide +kernel
theorem dX9_recordCount_39 : decode cX9_recordCount 39 = .ok (.getfield 16, 3) := by decide +kernel
theorem dX9_recordCount_42 : decode cX9_recordCount 42 = .ok (.bipush 8, 2) := by decide +kernel
theorem dX9_recordCount_44 : decode cX9_recordCount 44 = .ok (.iload_n 1, 1) := by decide +kernel
theorem dX9_recordCount_45 : decode cX9_recordCount 45 = .ok (.imul, 1) := by decide +kernel
theorem dX9_recordCount_46 : decode cX9_recordCount 46 = .ok (.iload_n 3, 1) := by decide +kernel
theorem dX9_recordCount_47 : decode cX9_recordCount 47 = .ok (.iadd, 1) := by decide +kernel
theorem dX9_recordCount_48 : decode cX9_recordCount 48 = .ok (.iaload, 1) := by decide +kernel
theorem dX9_recordCount_49 : decode cX9_recordCount 49 = .ok (.istore 4, 2) := by decide +kernel
theorem dX9_recordCount_51 : decode cX9_recordCount 51 = .ok (.iload 4, 2) := by decide +kernel
theorem dX9_recordCount_53 : decode cX9_recordCount 53 = .ok (.ifCond .lt 116, 3) := by decide +kernel
theorem dX9_recordCount_56 : decode cX9_recordCount 56 = .ok (.iconst 0, 1) := by decide +kernel
theorem dX9_recordCount_57 : decode cX9_recordCount 57 = .ok (.istore 5, 2) := by decide +kernel
theorem dX9_recordCount_59 : decode cX9_recordCount 59 = .ok (.iload 5, 2) := by decide +kernel
theorem dX9_recordCount_61 : decode cX9_recordCount 61 = .ok (.iload_n 2, 1) := by decide +kernel
theorem dX9_recordCount_62 : decode cX9_recordCount 62 = .ok (.if_icmp .gt 78, 3) := by decide +kernel
theorem dX9_recordCount_65 : decode cX9_recordCount 65 = .ok (.aload_n 0, 1) := by decide +kernel
theorem dX9_recordCount_66 : decode cX9_recordCount 66 = .ok (.getfield 78, 3) := by decide +kernel
theorem dX9_recordCount_69 : decode cX9_recordCount 69 = .ok (.iload 5, 2) := by decide +kernel
theorem dX9_recordCount_71 : decode cX9_recordCount 71 = .ok (.lconst 0, 1) := by decide +kernel
theorem dX9_recordCount_72 : decode cX9_recordCount 72 = .ok (.lastore, 1) := by decide +kernel
theorem dX9_recordCount_73 : decode cX9_recordCount 73 = .ok (.iconst 1, 1) := by decide +kernel
theorem dX9_recordCount_74 : decode cX9_recordCount 74 = .ok (.istore 6, 2) := by decide +kernel
theorem dX9_recordCount_76 : decode cX9_recordCount 76 = .ok (.iload 6, 2) := by decide +kernel
theorem dX9_recordCount_78 : decode cX9_recordCount 78 = .ok (.iload 5, 2) := by decide +kernel
theorem dX9_recordCount_80 : decode cX9_recordCount 80 = .ok (.if_icmp .ge 54, 3) := by decide +kernel
theorem dX9_recordCount_83 : decode cX9_recordCount 83 = .ok (.aload_n 0, 1) := by decide +kernel
theorem dX9_recordCount_84 : decode cX9_recordCount 84 = .ok (.getfield 78, 3) := by decide +kernel
theorem dX9_recordCount_87 : decode cX9_recordCount 87 = .ok (.iload 5, 2) := by decide +kernel
theorem dX9_recordCount_89 : decode cX9_recordCount 89 = .ok (.aload_n 0, 1) := by decide +kernel
theorem dX9_recordCount_90 : decode cX9_recordCount 90 = .ok (.getfield 78, 3) := by decide +kernel
theorem dX9_recordCount_93 : decode cX9_recordCount 93 = .ok (.iload 5, 2) := by decide +kernel
theorem dX9_recordCount_95 : decode cX9_recordCount 95 = .ok (.laload, 1) := by decide +kernel
theorem dX9_recordCount_96 : decode cX9_recordCount 96 = .ok (.aload_n 0, 1) := by decide +kernel
theorem dX9_recordCount_97 : decode cX9_recordCount 97 = .ok (.getfield 75, 3) := by decide +kernel
theorem dX9_recordCount_100 : decode cX9_recordCount 100 = .ok (.iload 5, 2) := by decide +kernel
theorem dX9_recordCount_102 : decode cX9_recordCount 102 = .ok (.iload 6, 2) := by decide +kernel
theorem dX9_recordCount_104 : decode cX9_recordCount 104 = .ok (.isub, 1) := by decide +kernel
theorem dX9_recordCount_105 : decode cX9_recordCount 105 = .ok (.laload, 1) := by decide +kernel
theorem dX9_recordCount_106 : decode cX9_recordCount 106 = .ok (.aload_n 0, 1) := by decide +kernel
theorem dX9_recordCount_107 : decode cX9_recordCount 107 = .ok (.getfield 71, 3) := by decide +kernel
theorem dX9_recordCount_110 : decode cX9_recordCount 110 = .ok (.bipush 13, 2) := by decide +kernel
theorem dX9_recordCount_112 : decode cX9_recordCount 112 = .ok (.iload 4, 2) := by decide +kernel
theorem dX9_recordCount_114 : decode cX9_recordCount 114 = .ok (.imul, 1) := by decide +kernel
theorem dX9_recordCount_115 : decode cX9_recordCount 115 = .ok (.iload 6, 2) := by decide +kernel
theorem dX9_recordCount_117 : decode cX9_recordCount 117 = .ok (.iadd, 1) := by decide +kernel
theorem dX9_recordCount_118 : decode cX9_recordCount 118 = .ok (.laload, 1) := by decide +kernel
theorem dX9_recordCount_119 : decode cX9_recordCount 119 = .ok (.lmul, 1) := by decide +kernel
theorem dX9_recordCount_120 : decode cX9_recordCount 120 = .ok (.invokestatic 187, 3) := by decide +kernel
theorem dX9_recordCount_123 : decode cX9_recordCount 123 = .ok (.ladd, 1) := by decide +kernel
theorem dX9_recordCount_124 : decode cX9_recordCount 124 = .ok (.invokestatic 187, 3) := by decide +kernel
theorem dX9_recordCount_127 : decode cX9_recordCount 127 = .ok (.lastore, 1) := by decide +kernel
theorem dX9_recordCount_128 : decode cX9_recordCount 128 = .ok (.iinc 6 1, 3) := by decide +kernel
theorem dX9_recordCount_131 : decode cX9_recordCount 131 = .ok (.goto (-55), 3) := by decide +kernel
theorem dX9_recordCount_134 : decode cX9_recordCount 134 = .ok (.iinc 5 1, 3) := by decide +kernel
theorem dX9_recordCount_137 : decode cX9_recordCount 137 = .ok (.goto (-78), 3) := by decide +kernel
theorem dX9_recordCount_140 : decode cX9_recordCount 140 = .ok (.iconst 0, 1) := by decide +kernel
theorem dX9_recordCount_141 : decode cX9_recordCount 141 = .ok (.istore 5, 2) := by decide +kernel
theorem dX9_recordCount_143 : decode cX9_recordCount 143 = .ok (.iload 5, 2) := by decide +kernel
theorem dX9_recordCount_145 : decode cX9_recordCount 145 = .ok (.iload_n 2, 1) := by decide +kernel
theorem dX9_recordCount_146 : decode cX9_recordCount 146 = .ok (.if_icmp .gt 23, 3) := by decide +kernel
theorem dX9_recordCount_149 : decode cX9_recordCount 149 = .ok (.aload_n 0, 1) := by decide +kernel
theorem dX9_recordCount_150 : decode cX9_recordCount 150 = .ok (.getfield 75, 3) := by decide +kernel
theorem dX9_recordCount_153 : decode cX9_recordCount 153 = .ok (.iload 5, 2) := by decide +kernel
theorem dX9_recordCount_155 : decode cX9_recordCount 155 = .ok (.aload_n 0, 1) := by decide +kernel
theorem dX9_recordCount_156 : decode cX9_recordCount 156 = .ok (.getfield 78, 3) := by decide +kernel
theorem dX9_recordCount_159 : decode cX9_recordCount 159 = .ok (.iload 5, 2) := by decide +kernel
theorem dX9_recordCount_161 : decode cX9_recordCount 161 = .ok (.laload, 1) := by decide +kernel
theorem dX9_recordCount_162 : decode cX9_recordCount 162 = .ok (.lastore, 1) := by decide +kernel
theorem dX9_recordCount_163 : decode cX9_recordCount 163 = .ok (.iinc 5 1, 3) := by decide +kernel
theorem dX9_recordCount_166 : decode cX9_recordCount 166 = .ok (.goto (-23), 3) := by decide +kernel
theorem dX9_recordCount_169 : decode cX9_recordCount 169 = .ok (.iinc 3 1, 3) := by decide +kernel
theorem dX9_recordCount_172 : decode cX9_recordCount 172 = .ok (.goto (-140), 3) := by decide +kernel
theorem dX9_recordCount_175 : decode cX9_recordCount 175 = .ok (.aload_n 0, 1) := by decide +kernel
theorem dX9_recordCount_176 : decode cX9_recordCount 176 = .ok (.getfield 75, 3) := by decide +kernel
theorem dX9_recordCount_179 : decode cX9_recordCount 179 = .ok (.iload_n 2, 1) := by decide +kernel
theorem dX9_recordCount_180 : decode cX9_recordCount 180 = .ok (.laload, 1) := by decide +kernel
theorem dX9_recordCount_181 : decode cX9_recordCount 181 = .ok (.lreturn, 1) := by decide +kernel
theorem dX9_listCount_0 : decode cX9_listCount 0 = .ok (.aload_n 0, 1) := by decide +kernel
theorem dX9_listCount_1 : decode cX9_listCount 1 = .ok (.getfield 16, 3) := by decide +kernel
theorem dX9_listCount_4 : decode cX9_listCount 4 = .ok (.bipush 8, 2) := by decide +kernel
theorem dX9_listCount_6 : decode cX9_listCount 6 = .ok (.iload_n 1, 1) := by decide +kernel
theorem dX9_listCount_7 : decode cX9_listCount 7 = .ok (.imul, 1) := by decide +kernel
theorem dX9_listCount_8 : decode cX9_listCount 8 = .ok (.iaload, 1) := by decide +kernel
theorem dX9_listCount_9 : decode cX9_listCount 9 = .ok (.istore_n 3, 1) := by decide +kernel
theorem dX9_listCount_10 : decode cX9_listCount 10 = .ok (.aload_n 0, 1) := by decide +kernel
theorem dX9_listCount_11 : decode cX9_listCount 11 = .ok (.getfield 75, 3) := by decide +kernel
theorem dX9_listCount_14 : decode cX9_listCount 14 = .ok (.iconst 0, 1) := by decide +kernel
theorem dX9_listCount_15 : decode cX9_listCount 15 = .ok (.lconst 1, 1) := by decide +kernel
theorem dX9_listCount_16 : decode cX9_listCount 16 = .ok (.lastore, 1) := by decide +kernel
theorem dX9_listCount_17 : decode cX9_listCount 17 = .ok (.iconst 1, 1) := by decide +kernel
theorem dX9_listCount_18 : decode cX9_listCount 18 = .ok (.istore 4, 2) := by decide +kernel
theorem dX9_listCount_20 : decode cX9_listCount 20 = .ok (.iload 4, 2) := by decide +kernel
theorem dX9_listCount_22 : decode cX9_listCount 22 = .ok (.iload_n 2, 1) := by decide +kernel
theorem dX9_listCount_23 : decode cX9_listCount 23 = .ok (.if_icmp .ge 77, 3) := by decide +kernel
theorem dX9_listCount_26 : decode cX9_listCount 26 = .ok (.aload_n 0, 1) := by decide +kernel
theorem dX9_listCount_27 : decode cX9_listCount 27 = .ok (.getfield 75, 3) := by decide +kernel
theorem dX9_listCount_30 : decode cX9_listCount 30 = .ok (.iload 4, 2) := by decide +kernel
theorem dX9_listCount_32 : decode cX9_listCount 32 = .ok (.lconst 0, 1) := by decide +kernel
theorem dX9_listCount_33 : decode cX9_listCount 33 = .ok (.lastore, 1) := by decide +kernel
theorem dX9_listCount_34 : decode cX9_listCount 34 = .ok (.iconst 1, 1) := by decide +kernel
theorem dX9_listCount_35 : decode cX9_listCount 35 = .ok (.istore 5, 2) := by decide +kernel
theorem dX9_listCount_37 : decode cX9_listCount 37 = .ok (.iload 5, 2) := by decide +kernel
theorem dX9_listCount_39 : decode cX9_listCount 39 = .ok (.iload 4, 2) := by decide +kernel
theorem dX9_listCount_41 : decode cX9_listCount 41 = .ok (.if_icmp .gt 53, 3) := by decide +kernel
theorem dX9_listCount_44 : decode cX9_listCount 44 = .ok (.aload_n 0, 1) := by decide +kernel
theorem dX9_listCount_45 : decode cX9_listCount 45 = .ok (.getfield 75, 3) := by decide +kernel
theorem dX9_listCount_48 : decode cX9_listCount 48 = .ok (.iload 4, 2) := by decide +kernel
theorem dX9_listCount_50 : decode cX9_listCount 50 = .ok (.aload_n 0, 1) := by decide +kernel
theorem dX9_listCount_51 : decode cX9_listCount 51 = .ok (.getfield 75, 3) := by decide +kernel
theorem dX9_listCount_54 : decode cX9_listCount 54 = .ok (.iload 4, 2) := by decide +kernel
theorem dX9_listCount_56 : decode cX9_listCount 56 = .ok (.laload, 1) := by decide +kernel
theorem dX9_listCount_57 : decode cX9_listCount 57 = .ok (.aload_n 0, 1) := by decide +kernel
theorem dX9_listCount_58 : decode cX9_listCount 58 = .ok (.getfield 75, 3) := by decide +kernel
theorem dX9_listCount_61 : decode cX9_listCount 61 = .ok (.iload 4, 2) := by decide +kernel
theorem dX9_listCount_63 : decode cX9_listCount 63 = .ok (.iload 5, 2) := by decide +kernel
theorem dX9_listCount_65 : decode cX9_listCount 65 = .ok (.isub, 1) := by decide +kernel
theorem dX9_listCount_66 : decode cX9_listCount 66 = .ok (.laload, 1) := by decide +kernel
theorem dX9_listCount_67 : decode cX9_listCount 67 = .ok (.aload_n 0, 1) := by decide +kernel
theorem dX9_listCount_68 : decode cX9_listCount 68 = .ok (.getfield 71, 3) := by decide +kernel
theorem dX9_listCount_71 : decode cX9_listCount 71 = .ok (.bipush 13, 2) := by decide +kernel
theorem dX9_listCount_73 : decode cX9_listCount 73 = .ok (.iload_n 3, 1) := by decide +kernel
theorem dX9_listCount_74 : decode cX9_listCount 74 = .ok (.imul, 1) := by decide +kernel
theorem dX9_listCount_75 : decode cX9_listCount 75 = .ok (.iload 5, 2) := by decide +kernel
theorem dX9_listCount_77 : decode cX9_listCount 77 = .ok (.iadd, 1) := by decide +kernel
theorem dX9_listCount_78 : decode cX9_listCount 78 = .ok (.laload, 1) := by decide +kernel
theorem dX9_listCount_79 : decode cX9_listCount 79 = .ok (.lmul, 1) := by decide +kernel
theorem dX9_listCount_80 : decode cX9_listCount 80 = .ok (.invokestatic 187, 3) := by decide +kernel
theorem dX9_listCount_83 : decode cX9_listCount 83 = .ok (.ladd, 1) := by decide +kernel
theorem dX9_listCount_84 : decode cX9_listCount 84 = .ok (.invokestatic 187, 3) := by decide +kernel
theorem dX9_listCount_87 : decode cX9_listCount 87 = .ok (.lastore, 1) := by decide +kernel
theorem dX9_listCount_88 : decode cX9_listCount 88 = .ok (.iinc 5 1, 3) := by decide +kernel
theorem dX9_listCount_91 : decode cX9_listCount 91 = .ok (.goto (-54), 3) := by decide +kernel
theorem dX9_listCount_94 : decode cX9_listCount 94 = .ok (.iinc 4 1, 3) := by decide +kernel
theorem dX9_listCount_97 : decode cX9_listCount 97 = .ok (.goto (-77), 3) := by decide +kernel
theorem dX9_listCount_100 : decode cX9_listCount 100 = .ok (.aload_n 0, 1) := by decide +kernel
theorem dX9_listCount_101 : decode cX9_listCount 101 = .ok (.getfield 75, 3) := by decide +kernel
theorem dX9_listCount_104 : decode cX9_listCount 104 = .ok (.iload_n 2, 1) := by decide +kernel
theorem dX9_listCount_105 : decode cX9_listCount 105 = .ok (.iconst 1, 1) := by decide +kernel
theorem dX9_listCount_106 : decode cX9_listCount 106 = .ok (.isub, 1) := by decide +kernel
theorem dX9_listCount_107 : decode cX9_listCount 107 = .ok (.laload, 1) := by decide +kernel
theorem dX9_listCount_108 : decode cX9_listCount 108 = .ok (.lreturn, 1) := by decide +kernel
theorem dX9_choiceCount_0 : decode cX9_choiceCount 0 = .ok (.lconst 0, 1) := by decide +kernel
theorem dX9_choiceCount_1 : decode cX9_choiceCount 1 = .ok (.lstore_n 3, 1) := by decide +kernel
theorem dX9_choiceCount_2 : decode cX9_choiceCount 2 = .ok (.iconst 0, 1) := by decide +kernel
theorem dX9_choiceCount_3 : decode cX9_choiceCount 3 = .ok (.istore 5, 2) := by decide +kernel
theorem dX9_choiceCount_5 : decode cX9_choiceCount 5 = .ok (.iload 5, 2) := by decide +kernel
theorem dX9_choiceCount_7 : decode cX9_choiceCount 7 = .ok (.bipush 8, 2) := by decide +kernel
theorem dX9_choiceCount_9 : decode cX9_choiceCount 9 = .ok (.if_icmp .ge 55, 3) := by decide +kernel
theorem dX9_choiceCount_12 : decode cX9_choiceCount 12 = .ok (.lload_n 3, 1) := by decide +kernel
theorem dX9_choiceCount_13 : decode cX9_choiceCount 13 = .ok (.aload_n 0, 1) := by decide +kernel
theorem dX9_choiceCount_14 : decode cX9_choiceCount 14 = .ok (.getfield 16, 3) := by decide +kernel
theorem dX9_choiceCount_17 : decode cX9_choiceCount 17 = .ok (.bipush 8, 2) := by decide +kernel
theorem dX9_choiceCount_19 : decode cX9_choiceCount 19 = .ok (.iload_n 1, 1) := by decide +kernel
theorem dX9_choiceCount_20 : decode cX9_choiceCount 20 = .ok (.imul, 1) := by decide +kernel
theorem dX9_choiceCount_21 : decode cX9_choiceCount 21 = .ok (.iload 5, 2) := by decide +kernel
theorem dX9_choiceCount_23 : decode cX9_choiceCount 23 = .ok (.iadd, 1) := by decide +kernel
theorem dX9_choiceCount_24 : decode cX9_choiceCount 24 = .ok (.iaload, 1) := by decide +kernel
theorem dX9_choiceCount_25 : decode cX9_choiceCount 25 = .ok (.ifCond .lt 30, 3) := by decide +kernel
theorem dX9_choiceCount_28 : decode cX9_choiceCount 28 = .ok (.aload_n 0, 1) := by decide +kernel
theorem dX9_choiceCount_29 : decode cX9_choiceCount 29 = .ok (.getfield 71, 3) := by decide +kernel
theorem dX9_choiceCount_32 : decode cX9_choiceCount 32 = .ok (.bipush 13, 2) := by decide +kernel
theorem dX9_choiceCount_34 : decode cX9_choiceCount 34 = .ok (.aload_n 0, 1) := by decide +kernel
theorem dX9_choiceCount_35 : decode cX9_choiceCount 35 = .ok (.getfield 16, 3) := by decide +kernel
theorem dX9_choiceCount_38 : decode cX9_choiceCount 38 = .ok (.bipush 8, 2) := by decide +kernel
theorem dX9_choiceCount_40 : decode cX9_choiceCount 40 = .ok (.iload_n 1, 1) := by decide +kernel
theorem dX9_choiceCount_41 : decode cX9_choiceCount 41 = .ok (.imul, 1) := by decide +kernel
theorem dX9_choiceCount_42 : decode cX9_choiceCount 42 = .ok (.iload 5, 2) := by decide +kernel
theorem dX9_choiceCount_44 : decode cX9_choiceCount 44 = .ok (.iadd, 1) := by decide +kernel
theorem dX9_choiceCount_45 : decode cX9_choiceCount 45 = .ok (.iaload, 1) := by decide +kernel
theorem dX9_choiceCount_46 : decode cX9_choiceCount 46 = .ok (.imul, 1) := by decide +kernel
theorem dX9_choiceCount_47 : decode cX9_choiceCount 47 = .ok (.iload_n 2, 1) := by decide +kernel
theorem dX9_choiceCount_48 : decode cX9_choiceCount 48 = .ok (.iadd, 1) := by decide +kernel
theorem dX9_choiceCount_49 : decode cX9_choiceCount 49 = .ok (.iconst 1, 1) := by decide +kernel
theorem dX9_choiceCount_50 : decode cX9_choiceCount 50 = .ok (.isub, 1) := by decide +kernel
theorem dX9_choiceCount_51 : decode cX9_choiceCount 51 = .ok (.laload, 1) := by decide +kernel
theorem dX9_choiceCount_52 : decode cX9_choiceCount 52 = .ok (.goto 4, 3) := by decide +kernel
theorem dX9_choiceCount_55 : decode cX9_choiceCount 55 = .ok (.lconst 0, 1) := by decide +kernel
theorem dX9_choiceCount_56 : decode cX9_choiceCount 56 = .ok (.ladd, 1) := by decide +kernel
theorem dX9_choiceCount_57 : decode cX9_choiceCount 57 = .ok (.lstore_n 3, 1) := by decide +kernel
theorem dX9_choiceCount_58 : decode cX9_choiceCount 58 = .ok (.iinc 5 1, 3) := by decide +kernel
theorem dX9_choiceCount_61 : decode cX9_choiceCount 61 = .ok (.goto (-56), 3) := by decide +kernel
theorem dX9_choiceCount_64 : decode cX9_choiceCount 64 = .ok (.lload_n 3, 1) := by decide +kernel
theorem dX9_choiceCount_65 : decode cX9_choiceCount 65 = .ok (.invokestatic 187, 3) := by decide +kernel
theorem dX9_choiceCount_68 : decode cX9_choiceCount 68 = .ok (.lreturn, 1) := by decide +kernel
theorem dX9_count_0 : decode cX9_count 0 = .ok (.aload_n 0, 1) := by decide +kernel
theorem dX9_count_1 : decode cX9_count 1 = .ok (.iload_n 1, 1) := by decide +kernel
theorem dX9_count_2 : decode cX9_count 2 = .ok (.invokevirtual 123, 3) := by decide +kernel
theorem dX9_count_5 : decode cX9_count 5 = .ok (.ifCond .ne 5, 3) := by decide +kernel
theorem dX9_count_8 : decode cX9_count 8 = .ok (.iconst (-1), 1) := by decide +kernel
theorem dX9_count_9 : decode cX9_count 9 = .ok (.ireturn, 1) := by decide +kernel
theorem dX9_count_10 : decode cX9_count 10 = .ok (.iload_n 2, 1) := by decide +kernel
theorem dX9_count_11 : decode cX9_count 11 = .ok (.iconst 1, 1) := by decide +kernel
theorem dX9_count_12 : decode cX9_count 12 = .ok (.bipush 12, 2) := by decide +kernel
theorem dX9_count_14 : decode cX9_count 14 = .ok (.invokestatic 84, 3) := by decide +kernel
theorem dX9_count_17 : decode cX9_count 17 = .ok (.ifCond .ne 6, 3) := by decide +kernel
theorem dX9_count_20 : decode cX9_count 20 = .ok (.bipush (-2), 2) := by decide +kernel
theorem dX9_count_22 : decode cX9_count 22 = .ok (.ireturn, 1) := by decide +kernel
theorem dX9_count_23 : decode cX9_count 23 = .ok (.iconst 0, 1) := by decide +kernel
theorem dX9_count_24 : decode cX9_count 24 = .ok (.istore_n 3, 1) := by decide +kernel
theorem dX9_count_25 : decode cX9_count 25 = .ok (.iload_n 3, 1) := by decide +kernel
theorem dX9_count_26 : decode cX9_count 26 = .ok (.sipush 780, 3) := by decide +kernel
theorem dX9_count_29 : decode cX9_count 29 = .ok (.if_icmp .ge 16, 3) := by decide +kernel
theorem dX9_count_32 : decode cX9_count 32 = .ok (.aload_n 0, 1) := by decide +kernel
theorem dX9_count_33 : decode cX9_count 33 = .ok (.getfield 71, 3) := by decide +kernel
theorem dX9_count_36 : decode cX9_count 36 = .ok (.iload_n 3, 1) := by decide +kernel
theorem dX9_count_37 : decode cX9_count 37 = .ok (.lconst 0, 1) := by decide +kernel
theorem dX9_count_38 : decode cX9_count 38 = .ok (.lastore, 1) := by decide +kernel
theorem dX9_count_39 : decode cX9_count 39 = .ok (.iinc 3 1, 3) := by decide +kernel
theorem dX9_count_42 : decode cX9_count 42 = .ok (.goto (-17), 3) := by decide +kernel
theorem dX9_count_45 : decode cX9_count 45 = .ok (.iconst 1, 1) := by decide +kernel
theorem dX9_count_46 : decode cX9_count 46 = .ok (.istore_n 3, 1) := by decide +kernel
theorem dX9_count_47 : decode cX9_count 47 = .ok (.iload_n 3, 1) := by decide +kernel
theorem dX9_count_48 : decode cX9_count 48 = .ok (.iload_n 2, 1) := by decide +kernel
theorem dX9_count_49 : decode cX9_count 49 = .ok (.if_icmp .gt 152, 3) := by decide +kernel
theorem dX9_count_52 : decode cX9_count 52 = .ok (.iconst 0, 1) := by decide +kernel
theorem dX9_count_53 : decode cX9_count 53 = .ok (.istore 4, 2) := by decide +kernel
theorem dX9_count_55 : decode cX9_count 55 = .ok (.iload 4, 2) := by decide +kernel
theorem dX9_count_57 : decode cX9_count 57 = .ok (.aload_n 0, 1) := by decide +kernel
theorem dX9_count_58 : decode cX9_count 58 = .ok (.getfield 116, 3) := by decide +kernel
theorem dX9_count_61 : decode cX9_count 61 = .ok (.if_icmp .ge 134, 3) := by decide +kernel
theorem dX9_count_64 : decode cX9_count 64 = .ok (.aload_n 0, 1) := by decide +kernel
theorem dX9_count_65 : decode cX9_count 65 = .ok (.getfield 13, 3) := by decide +kernel
theorem dX9_count_68 : decode cX9_count 68 = .ok (.iload 4, 2) := by decide +kernel
theorem dX9_count_70 : decode cX9_count 70 = .ok (.iaload, 1) := by decide +kernel
theorem dX9_count_71 : decode cX9_count 71 = .ok (.istore 5, 2) := by decide +kernel
theorem dX9_count_73 : decode cX9_count 73 = .ok (.iload 5, 2) := by decide +kernel
theorem dX9_count_75 : decode cX9_count 75 = .ok (.bipush 110, 2) := by decide +kernel
theorem dX9_count_77 : decode cX9_count 77 = .ok (.if_icmp .ne 9, 3) := by decide +kernel
theorem dX9_count_80 : decode cX9_count 80 = .ok (.ldc2_w 190, 3) := by decide +kernel
theorem dX9_count_83 : decode cX9_count 83 = .ok (.goto 30, 3) := by decide +kernel
theorem dX9_count_86 : decode cX9_count 86 = .ok (.iload 5, 2) := by decide +kernel
theorem dX9_count_88 : decode cX9_count 88 = .ok (.bipush 116, 2) := by decide +kernel
theorem dX9_count_90 : decode cX9_count 90 = .ok (.if_icmp .ne 9, 3) := by decide +kernel
theorem dX9_count_93 : decode cX9_count 93 = .ok (.ldc2_w 192, 3) := by decide +kernel
theorem dX9_count_96 : decode cX9_count 96 = .ok (.goto 17, 3) := by decide +kernel
theorem dX9_count_99 : decode cX9_count 99 = .ok (.iload 5, 2) := by decide +kernel
theorem dX9_count_101 : decode cX9_count 101 = .ok (.bipush 115, 2) := by decide +kernel
theorem dX9_count_103 : decode cX9_count 103 = .ok (.if_icmp .ne 9, 3) := by decide +kernel
theorem dX9_count_106 : decode cX9_count 106 = .ok (.ldc2_w 194, 3) := by decide +kernel
theorem dX9_count_109 : decode cX9_count 109 = .ok (.goto 4, 3) := by decide +kernel
theorem dX9_count_112 : decode cX9_count 112 = .ok (.lconst 0, 1) := by decide +kernel
theorem dX9_count_113 : decode cX9_count 113 = .ok (.lstore 6, 2) := by decide +kernel
theorem dX9_count_115 : decode cX9_count 115 = .ok (.aload_n 0, 1) := by decide +kernel
theorem dX9_count_116 : decode cX9_count 116 = .ok (.getfield 71, 3) := by decide +kernel
theorem dX9_count_119 : decode cX9_count 119 = .ok (.bipush 13, 2) := by decide +kernel
theorem dX9_count_121 : decode cX9_count 121 = .ok (.iload 4, 2) := by decide +kernel
theorem dX9_count_123 : decode cX9_count 123 = .ok (.imul, 1) := by decide +kernel
theorem dX9_count_124 : decode cX9_count 124 = .ok (.iload_n 3, 1) := by decide +kernel
theorem dX9_count_125 : decode cX9_count 125 = .ok (.iadd, 1) := by decide +kernel
theorem dX9_count_126 : decode cX9_count 126 = .ok (.iload 5, 2) := by decide +kernel
theorem dX9_count_128 : decode cX9_count 128 = .ok (.bipush 123, 2) := by decide +kernel
theorem dX9_count_130 : decode cX9_count 130 = .ok (.if_icmp .ne 13, 3) := by decide +kernel
theorem dX9_count_133 : decode cX9_count 133 = .ok (.aload_n 0, 1) := by decide +kernel
theorem dX9_count_134 : decode cX9_count 134 = .ok (.iload 4, 2) := by decide +kernel
theorem dX9_count_136 : decode cX9_count 136 = .ok (.iload_n 3, 1) := by decide +kernel
theorem dX9_count_137 : decode cX9_count 137 = .ok (.invokevirtual 196, 3) := by decide +kernel
theorem dX9_count_140 : decode cX9_count 140 = .ok (.goto 48, 3) := by decide +kernel
theorem dX9_count_143 : decode cX9_count 143 = .ok (.iload 5, 2) := by decide +kernel
theorem dX9_count_145 : decode cX9_count 145 = .ok (.bipush 91, 2) := by decide +kernel
theorem dX9_count_147 : decode cX9_count 147 = .ok (.if_icmp .ne 13, 3) := by decide +kernel
theorem dX9_count_150 : decode cX9_count 150 = .ok (.aload_n 0, 1) := by decide +kernel
theorem dX9_count_151 : decode cX9_count 151 = .ok (.iload 4, 2) := by decide +kernel
theorem dX9_count_153 : decode cX9_count 153 = .ok (.iload_n 3, 1) := by decide +kernel
theorem dX9_count_154 : decode cX9_count 154 = .ok (.invokevirtual 200, 3) := by decide +kernel
theorem dX9_count_157 : decode cX9_count 157 = .ok (.goto 31, 3) := by decide +kernel
theorem dX9_count_160 : decode cX9_count 160 = .ok (.iload 5, 2) := by decide +kernel
theorem dX9_count_162 : decode cX9_count 162 = .ok (.bipush 42, 2) := by decide +kernel
theorem dX9_count_164 : decode cX9_count 164 = .ok (.if_icmp .ne 13, 3) := by decide +kernel
theorem dX9_count_167 : decode cX9_count 167 = .ok (.aload_n 0, 1) := by decide +kernel
theorem dX9_count_168 : decode cX9_count 168 = .ok (.iload 4, 2) := by decide +kernel
theorem dX9_count_170 : decode cX9_count 170 = .ok (.iload_n 3, 1) := by decide +kernel
theorem dX9_count_171 : decode cX9_count 171 = .ok (.invokevirtual 203, 3) := by decide +kernel
theorem dX9_count_174 : decode cX9_count 174 = .ok (.goto 14, 3) := by decide +kernel
theorem dX9_count_177 : decode cX9_count 177 = .ok (.iload_n 3, 1) := by decide +kernel
theorem dX9_count_178 : decode cX9_count 178 = .ok (.iconst 1, 1) := by decide +kernel
theorem dX9_count_179 : decode cX9_count 179 = .ok (.if_icmp .ne 8, 3) := by decide +kernel
theorem dX9_count_182 : decode cX9_count 182 = .ok (.lload 6, 2) := by decide +kernel
theorem dX9_count_184 : decode cX9_count 184 = .ok (.goto 4, 3) := by decide +kernel
theorem dX9_count_187 : decode cX9_count 187 = .ok (.lconst 0, 1) := by decide +kernel
theorem dX9_count_188 : decode cX9_count 188 = .ok (.lastore, 1) := by decide +kernel
theorem dX9_count_189 : decode cX9_count 189 = .ok (.iinc 4 1, 3) := by decide +kernel
theorem dX9_count_192 : decode cX9_count 192 = .ok (.goto (-137), 3) := by decide +kernel
theorem dX9_count_195 : decode cX9_count 195 = .ok (.iinc 3 1, 3) := by decide +kernel
theorem dX9_count_198 : decode cX9_count 198 = .ok (.goto (-151), 3) := by decide +kernel
theorem dX9_count_201 : decode cX9_count 201 = .ok (.aload_n 0, 1) := by decide +kernel
theorem dX9_count_202 : decode cX9_count 202 = .ok (.getfield 71, 3) := by decide +kernel
theorem dX9_count_205 : decode cX9_count 205 = .ok (.bipush 13, 2) := by decide +kernel
theorem dX9_count_207 : decode cX9_count 207 = .ok (.iload_n 1, 1) := by decide +kernel
theorem dX9_count_208 : decode cX9_count 208 = .ok (.imul, 1) := by decide +kernel
theorem dX9_count_209 : decode cX9_count 209 = .ok (.iload_n 2, 1) := by decide +kernel
theorem dX9_count_210 : decode cX9_count 210 = .ok (.iadd, 1) := by decide +kernel
theorem dX9_count_211 : decode cX9_count 211 = .ok (.laload, 1) := by decide +kernel
theorem dX9_count_212 : decode cX9_count 212 = .ok (.l2i, 1) := by decide +kernel
theorem dX9_count_213 : decode cX9_count 213 = .ok (.ireturn, 1) := by decide +kernel
theorem dX9_layLeast_0 : decode cX9_layLeast 0 = .ok (.iconst 0, 1) := by decide +kernel
theorem dX9_layLeast_1 : decode cX9_layLeast 1 = .ok (.istore_n 1, 1) := by decide +kernel
theorem dX9_layLeast_2 : decode cX9_layLeast 2 = .ok (.iload_n 1, 1) := by decide +kernel
theorem dX9_layLeast_3 : decode cX9_layLeast 3 = .ok (.aload_n 0, 1) := by decide +kernel
theorem dX9_layLeast_4 : decode cX9_layLeast 4 = .ok (.getfield 116, 3) := by decide +kernel
theorem dX9_layLeast_7 : decode cX9_layLeast 7 = .ok (.if_icmp .ge 17, 3) := by decide +kernel
theorem dX9_layLeast_10 : decode cX9_layLeast 10 = .ok (.aload_n 0, 1) := by decide +kernel
theorem dX9_layLeast_11 : decode cX9_layLeast 11 = .ok (.getfield 81, 3) := by decide +kernel
theorem dX9_layLeast_14 : decode cX9_layLeast 14 = .ok (.iload_n 1, 1) := by decide +kernel
theorem dX9_layLeast_15 : decode cX9_layLeast 15 = .ok (.ldc 137, 2) := by decide +kernel
theorem dX9_layLeast_17 : decode cX9_layLeast 17 = .ok (.iastore, 1) := by decide +kernel
theorem dX9_layLeast_18 : decode cX9_layLeast 18 = .ok (.iinc 1 1, 3) := by decide +kernel
theorem dX9_layLeast_21 : decode cX9_layLeast 21 = .ok (.goto (-19), 3) := by decide +kernel
theorem dX9_layLeast_24 : decode cX9_layLeast 24 = .ok (.iconst 1, 1) := by decide +kernel
theorem dX9_layLeast_25 : decode cX9_layLeast 25 = .ok (.istore_n 1, 1) := by decide +kernel
theorem dX9_layLeast_26 : decode cX9_layLeast 26 = .ok (.iload_n 1, 1) := by decide +kernel
theorem dX9_layLeast_27 : decode cX9_layLeast 27 = .ok (.ifCond .eq 197, 3) := by decide +kernel
theorem dX9_layLeast_30 : decode cX9_layLeast 30 = .ok (.iconst 0, 1) := by decide +kernel
theorem dX9_layLeast_31 : decode cX9_layLeast 31 = .ok (.istore_n 1, 1) := by decide +kernel
theorem dX9_layLeast_32 : decode cX9_layLeast 32 = .ok (.iconst 0, 1) := by decide +kernel
theorem dX9_layLeast_33 : decode cX9_layLeast 33 = .ok (.istore_n 2, 1) := by decide +kernel
theorem dX9_layLeast_34 : decode cX9_layLeast 34 = .ok (.iload_n 2, 1) := by decide +kernel
