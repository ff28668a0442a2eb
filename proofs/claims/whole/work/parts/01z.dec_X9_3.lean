theorem dX9_follow_88 : decode cX9_follow 88 = .ok (.isub, 1) := by decide +kernel
theorem dX9_follow_89 : decode cX9_follow 89 = .ok (.if_icmp .eq 9, 3) := by decide +kernel
theorem dX9_follow_92 : decode cX9_follow 92 = .ok (.iinc 8 1, 3) := by decide +kernel
theorem dX9_follow_95 : decode cX9_follow 95 = .ok (.goto (-45), 3) := by decide +kernel
theorem dX9_follow_98 : decode cX9_follow 98 = .ok (.iload 5, 2) := by decide +kernel
theorem dX9_follow_100 : decode cX9_follow 100 = .ok (.iload_n 3, 1) := by decide +kernel
theorem dX9_follow_101 : decode cX9_follow 101 = .ok (.if_icmp .ne 8, 3) := by decide +kernel
theorem dX9_follow_104 : decode cX9_follow 104 = .ok (.iload 8, 2) := by decide +kernel
theorem dX9_follow_106 : decode cX9_follow 106 = .ok (.goto 5, 3) := by decide +kernel
theorem dX9_follow_109 : decode cX9_follow 109 = .ok (.iload 4, 2) := by decide +kernel
theorem dX9_follow_111 : decode cX9_follow 111 = .ok (.istore 4, 2) := by decide +kernel
theorem dX9_follow_113 : decode cX9_follow 113 = .ok (.iinc 5 1, 3) := by decide +kernel
theorem dX9_follow_116 : decode cX9_follow 116 = .ok (.aload_n 0, 1) := by decide +kernel
theorem dX9_follow_117 : decode cX9_follow 117 = .ok (.aload_n 0, 1) := by decide +kernel
theorem dX9_follow_118 : decode cX9_follow 118 = .ok (.iload 6, 2) := by decide +kernel
theorem dX9_follow_120 : decode cX9_follow 120 = .ok (.iload 7, 2) := by decide +kernel
theorem dX9_follow_122 : decode cX9_follow 122 = .ok (.iload 8, 2) := by decide +kernel
theorem dX9_follow_124 : decode cX9_follow 124 = .ok (.invokevirtual 138, 3) := by decide +kernel
theorem dX9_follow_127 : decode cX9_follow 127 = .ok (.putfield 148, 3) := by decide +kernel
theorem dX9_follow_130 : decode cX9_follow 130 = .ok (.goto (-113), 3) := by decide +kernel
theorem dX9_follow_133 : decode cX9_follow 133 = .ok (.iload 4, 2) := by decide +kernel
theorem dX9_follow_135 : decode cX9_follow 135 = .ok (.ireturn, 1) := by decide +kernel
theorem dX9_way_0 : decode cX9_way 0 = .ok (.aload_n 0, 1) := by decide +kernel
theorem dX9_way_1 : decode cX9_way 1 = .ok (.iload_n 1, 1) := by decide +kernel
theorem dX9_way_2 : decode cX9_way 2 = .ok (.iload_n 2, 1) := by decide +kernel
theorem dX9_way_3 : decode cX9_way 3 = .ok (.invokevirtual 142, 3) := by decide +kernel
theorem dX9_way_6 : decode cX9_way 6 = .ok (.ifCond .ne 5, 3) := by decide +kernel
theorem dX9_way_9 : decode cX9_way 9 = .ok (.iconst (-1), 1) := by decide +kernel
theorem dX9_way_10 : decode cX9_way 10 = .ok (.ireturn, 1) := by decide +kernel
theorem dX9_way_11 : decode cX9_way 11 = .ok (.aload_n 0, 1) := by decide +kernel
theorem dX9_way_12 : decode cX9_way 12 = .ok (.invokevirtual 145, 3) := by decide +kernel
theorem dX9_way_15 : decode cX9_way 15 = .ok (.aload_n 0, 1) := by decide +kernel
theorem dX9_way_16 : decode cX9_way 16 = .ok (.getfield 40, 3) := by decide +kernel
theorem dX9_way_19 : decode cX9_way 19 = .ok (.bipush 60, 2) := by decide +kernel
theorem dX9_way_21 : decode cX9_way 21 = .ok (.iload_n 1, 1) := by decide +kernel
theorem dX9_way_22 : decode cX9_way 22 = .ok (.imul, 1) := by decide +kernel
theorem dX9_way_23 : decode cX9_way 23 = .ok (.iload_n 2, 1) := by decide +kernel
theorem dX9_way_24 : decode cX9_way 24 = .ok (.iadd, 1) := by decide +kernel
theorem dX9_way_25 : decode cX9_way 25 = .ok (.baload, 1) := by decide +kernel
theorem dX9_way_26 : decode cX9_way 26 = .ok (.ifCond .eq 6, 3) := by decide +kernel
theorem dX9_way_29 : decode cX9_way 29 = .ok (.bipush (-6), 2) := by decide +kernel
theorem dX9_way_31 : decode cX9_way 31 = .ok (.ireturn, 1) := by decide +kernel
theorem dX9_way_32 : decode cX9_way 32 = .ok (.iload_n 3, 1) := by decide +kernel
theorem dX9_way_33 : decode cX9_way 33 = .ok (.iconst (-1), 1) := by decide +kernel
theorem dX9_way_34 : decode cX9_way 34 = .ok (.if_icmp .ne 17, 3) := by decide +kernel
theorem dX9_way_37 : decode cX9_way 37 = .ok (.aload_n 0, 1) := by decide +kernel
theorem dX9_way_38 : decode cX9_way 38 = .ok (.getfield 44, 3) := by decide +kernel
theorem dX9_way_41 : decode cX9_way 41 = .ok (.bipush 60, 2) := by decide +kernel
theorem dX9_way_43 : decode cX9_way 43 = .ok (.iload_n 1, 1) := by decide +kernel
theorem dX9_way_44 : decode cX9_way 44 = .ok (.imul, 1) := by decide +kernel
theorem dX9_way_45 : decode cX9_way 45 = .ok (.iload_n 2, 1) := by decide +kernel
theorem dX9_way_46 : decode cX9_way 46 = .ok (.iadd, 1) := by decide +kernel
theorem dX9_way_47 : decode cX9_way 47 = .ok (.iaload, 1) := by decide +kernel
theorem dX9_way_48 : decode cX9_way 48 = .ok (.goto 10, 3) := by decide +kernel
theorem dX9_way_51 : decode cX9_way 51 = .ok (.aload_n 0, 1) := by decide +kernel
theorem dX9_way_52 : decode cX9_way 52 = .ok (.iload_n 1, 1) := by decide +kernel
theorem dX9_way_53 : decode cX9_way 53 = .ok (.iload_n 2, 1) := by decide +kernel
theorem dX9_way_54 : decode cX9_way 54 = .ok (.iload_n 3, 1) := by decide +kernel
theorem dX9_way_55 : decode cX9_way 55 = .ok (.invokevirtual 151, 3) := by decide +kernel
theorem dX9_way_58 : decode cX9_way 58 = .ok (.ireturn, 1) := by decide +kernel
theorem dX9_end_0 : decode cX9_end 0 = .ok (.aload_n 0, 1) := by decide +kernel
theorem dX9_end_1 : decode cX9_end 1 = .ok (.iload_n 1, 1) := by decide +kernel
theorem dX9_end_2 : decode cX9_end 2 = .ok (.iload_n 2, 1) := by decide +kernel
theorem dX9_end_3 : decode cX9_end 3 = .ok (.invokevirtual 142, 3) := by decide +kernel
theorem dX9_end_6 : decode cX9_end 6 = .ok (.ifCond .ne 5, 3) := by decide +kernel
theorem dX9_end_9 : decode cX9_end 9 = .ok (.iconst (-1), 1) := by decide +kernel
theorem dX9_end_10 : decode cX9_end 10 = .ok (.ireturn, 1) := by decide +kernel
theorem dX9_end_11 : decode cX9_end 11 = .ok (.aload_n 0, 1) := by decide +kernel
theorem dX9_end_12 : decode cX9_end 12 = .ok (.invokevirtual 145, 3) := by decide +kernel
theorem dX9_end_15 : decode cX9_end 15 = .ok (.aload_n 0, 1) := by decide +kernel
theorem dX9_end_16 : decode cX9_end 16 = .ok (.getfield 40, 3) := by decide +kernel
theorem dX9_end_19 : decode cX9_end 19 = .ok (.bipush 60, 2) := by decide +kernel
theorem dX9_end_21 : decode cX9_end 21 = .ok (.iload_n 1, 1) := by decide +kernel
theorem dX9_end_22 : decode cX9_end 22 = .ok (.imul, 1) := by decide +kernel
theorem dX9_end_23 : decode cX9_end 23 = .ok (.iload_n 2, 1) := by decide +kernel
theorem dX9_end_24 : decode cX9_end 24 = .ok (.iadd, 1) := by decide +kernel
theorem dX9_end_25 : decode cX9_end 25 = .ok (.baload, 1) := by decide +kernel
theorem dX9_end_26 : decode cX9_end 26 = .ok (.ifCond .eq 6, 3) := by decide +kernel
theorem dX9_end_29 : decode cX9_end 29 = .ok (.bipush (-6), 2) := by decide +kernel
theorem dX9_end_31 : decode cX9_end 31 = .ok (.ireturn, 1) := by decide +kernel
theorem dX9_end_32 : decode cX9_end 32 = .ok (.aload_n 0, 1) := by decide +kernel
theorem dX9_end_33 : decode cX9_end 33 = .ok (.iload_n 1, 1) := by decide +kernel
theorem dX9_end_34 : decode cX9_end 34 = .ok (.iload_n 2, 1) := by decide +kernel
theorem dX9_end_35 : decode cX9_end 35 = .ok (.bipush (-6), 2) := by decide +kernel
theorem dX9_end_37 : decode cX9_end 37 = .ok (.invokevirtual 151, 3) := by decide +kernel
theorem dX9_end_40 : decode cX9_end 40 = .ok (.pop, 1) := by decide +kernel
theorem dX9_end_41 : decode cX9_end 41 = .ok (.bipush 100, 2) := by decide +kernel
theorem dX9_end_43 : decode cX9_end 43 = .ok (.aload_n 0, 1) := by decide +kernel
theorem dX9_end_44 : decode cX9_end 44 = .ok (.getfield 148, 3) := by decide +kernel
theorem dX9_end_47 : decode cX9_end 47 = .ok (.bipush 60, 2) := by decide +kernel
theorem dX9_end_49 : decode cX9_end 49 = .ok (.idiv, 1) := by decide +kernel
theorem dX9_end_50 : decode cX9_end 50 = .ok (.imul, 1) := by decide +kernel
theorem dX9_end_51 : decode cX9_end 51 = .ok (.aload_n 0, 1) := by decide +kernel
theorem dX9_end_52 : decode cX9_end 52 = .ok (.getfield 148, 3) := by decide +kernel
theorem dX9_end_55 : decode cX9_end 55 = .ok (.bipush 60, 2) := by decide +kernel
theorem dX9_end_57 : decode cX9_end 57 = .ok (.irem, 1) := by decide +kernel
theorem dX9_end_58 : decode cX9_end 58 = .ok (.iadd, 1) := by decide +kernel
theorem dX9_end_59 : decode cX9_end 59 = .ok (.ireturn, 1) := by decide +kernel
theorem dX9_areAlike_0 : decode cX9_areAlike 0 = .ok (.aload_n 0, 1) := by decide +kernel
theorem dX9_areAlike_1 : decode cX9_areAlike 1 = .ok (.getfield 40, 3) := by decide +kernel
theorem dX9_areAlike_4 : decode cX9_areAlike 4 = .ok (.bipush 60, 2) := by decide +kernel
theorem dX9_areAlike_6 : decode cX9_areAlike 6 = .ok (.iload_n 1, 1) := by decide +kernel
theorem dX9_areAlike_7 : decode cX9_areAlike 7 = .ok (.imul, 1) := by decide +kernel
theorem dX9_areAlike_8 : decode cX9_areAlike 8 = .ok (.iload_n 2, 1) := by decide +kernel
theorem dX9_areAlike_9 : decode cX9_areAlike 9 = .ok (.iadd, 1) := by decide +kernel
theorem dX9_areAlike_10 : decode cX9_areAlike 10 = .ok (.baload, 1) := by decide +kernel
theorem dX9_areAlike_11 : decode cX9_areAlike 11 = .ok (.ifCond .eq 21, 3) := by decide +kernel
theorem dX9_areAlike_14 : decode cX9_areAlike 14 = .ok (.aload_n 0, 1) := by decide +kernel
theorem dX9_areAlike_15 : decode cX9_areAlike 15 = .ok (.getfield 40, 3) := by decide +kernel
theorem dX9_areAlike_18 : decode cX9_areAlike 18 = .ok (.bipush 60, 2) := by decide +kernel
theorem dX9_areAlike_20 : decode cX9_areAlike 20 = .ok (.iload_n 2, 1) := by decide +kernel
theorem dX9_areAlike_21 : decode cX9_areAlike 21 = .ok (.imul, 1) := by decide +kernel
theorem dX9_areAlike_22 : decode cX9_areAlike 22 = .ok (.iload_n 1, 1) := by decide +kernel
theorem dX9_areAlike_23 : decode cX9_areAlike 23 = .ok (.iadd, 1) := by decide +kernel
theorem dX9_areAlike_24 : decode cX9_areAlike 24 = .ok (.baload, 1) := by decide +kernel
theorem dX9_areAlike_25 : decode cX9_areAlike 25 = .ok (.ifCond .eq 7, 3) := by decide +kernel
theorem dX9_areAlike_28 : decode cX9_areAlike 28 = .ok (.iconst 1, 1) := by decide +kernel
theorem dX9_areAlike_29 : decode cX9_areAlike 29 = .ok (.goto 4, 3) := by decide +kernel
theorem dX9_areAlike_32 : decode cX9_areAlike 32 = .ok (.iconst 0, 1) := by decide +kernel
theorem dX9_areAlike_33 : decode cX9_areAlike 33 = .ok (.ireturn, 1) := by decide +kernel
theorem dX9_alike_0 : decode cX9_alike 0 = .ok (.aload_n 0, 1) := by decide +kernel
theorem dX9_alike_1 : decode cX9_alike 1 = .ok (.iload_n 1, 1) := by decide +kernel
theorem dX9_alike_2 : decode cX9_alike 2 = .ok (.iload_n 2, 1) := by decide +kernel
theorem dX9_alike_3 : decode cX9_alike 3 = .ok (.invokevirtual 142, 3) := by decide +kernel
theorem dX9_alike_6 : decode cX9_alike 6 = .ok (.ifCond .ne 5, 3) := by decide +kernel
theorem dX9_alike_9 : decode cX9_alike 9 = .ok (.iconst (-1), 1) := by decide +kernel
theorem dX9_alike_10 : decode cX9_alike 10 = .ok (.ireturn, 1) := by decide +kernel
theorem dX9_alike_11 : decode cX9_alike 11 = .ok (.aload_n 0, 1) := by decide +kernel
theorem dX9_alike_12 : decode cX9_alike 12 = .ok (.invokevirtual 145, 3) := by decide +kernel
theorem dX9_alike_15 : decode cX9_alike 15 = .ok (.aload_n 0, 1) := by decide +kernel
theorem dX9_alike_16 : decode cX9_alike 16 = .ok (.iload_n 1, 1) := by decide +kernel
theorem dX9_alike_17 : decode cX9_alike 17 = .ok (.iload_n 2, 1) := by decide +kernel
theorem dX9_alike_18 : decode cX9_alike 18 = .ok (.invokevirtual 154, 3) := by decide +kernel
theorem dX9_alike_21 : decode cX9_alike 21 = .ok (.ifCond .eq 7, 3) := by decide +kernel
theorem dX9_alike_24 : decode cX9_alike 24 = .ok (.iconst 1, 1) := by decide +kernel
theorem dX9_alike_25 : decode cX9_alike 25 = .ok (.goto 4, 3) := by decide +kernel
theorem dX9_alike_28 : decode cX9_alike 28 = .ok (.iconst 0, 1) := by decide +kernel
theorem dX9_alike_29 : decode cX9_alike 29 = .ok (.ireturn, 1) := by decide +kernel
theorem dX9_pieces_0 : decode cX9_pieces 0 = .ok (.aload_n 0, 1) := by decide +kernel
theorem dX9_pieces_1 : decode cX9_pieces 1 = .ok (.iload_n 1, 1) := by decide +kernel
theorem dX9_pieces_2 : decode cX9_pieces 2 = .ok (.invokevirtual 123, 3) := by decide +kernel
theorem dX9_pieces_5 : decode cX9_pieces 5 = .ok (.ifCond .ne 5, 3) := by decide +kernel
theorem dX9_pieces_8 : decode cX9_pieces 8 = .ok (.iconst (-1), 1) := by decide +kernel
theorem dX9_pieces_9 : decode cX9_pieces 9 = .ok (.ireturn, 1) := by decide +kernel
theorem dX9_pieces_10 : decode cX9_pieces 10 = .ok (.aload_n 0, 1) := by decide +kernel
theorem dX9_pieces_11 : decode cX9_pieces 11 = .ok (.invokevirtual 145, 3) := by decide +kernel
theorem dX9_pieces_14 : decode cX9_pieces 14 = .ok (.iconst 0, 1) := by decide +kernel
theorem dX9_pieces_15 : decode cX9_pieces 15 = .ok (.istore_n 2, 1) := by decide +kernel
theorem dX9_pieces_16 : decode cX9_pieces 16 = .ok (.iload_n 2, 1) := by decide +kernel
theorem dX9_pieces_17 : decode cX9_pieces 17 = .ok (.aload_n 0, 1) := by decide +kernel
theorem dX9_pieces_18 : decode cX9_pieces 18 = .ok (.getfield 116, 3) := by decide +kernel
theorem dX9_pieces_21 : decode cX9_pieces 21 = .ok (.if_icmp .ge 25, 3) := by decide +kernel
theorem dX9_pieces_24 : decode cX9_pieces 24 = .ok (.aload_n 0, 1) := by decide +kernel
theorem dX9_pieces_25 : decode cX9_pieces 25 = .ok (.getfield 47, 3) := by decide +kernel
theorem dX9_pieces_28 : decode cX9_pieces 28 = .ok (.iload_n 2, 1) := by decide +kernel
theorem dX9_pieces_29 : decode cX9_pieces 29 = .ok (.iload_n 2, 1) := by decide +kernel
theorem dX9_pieces_30 : decode cX9_pieces 30 = .ok (.iload_n 1, 1) := by decide +kernel
theorem dX9_pieces_31 : decode cX9_pieces 31 = .ok (.if_icmp .ne 7, 3) := by decide +kernel
theorem dX9_pieces_34 : decode cX9_pieces 34 = .ok (.iconst 1, 1) := by decide +kernel
theorem dX9_pieces_35 : decode cX9_pieces 35 = .ok (.goto 4, 3) := by decide +kernel
theorem dX9_pieces_38 : decode cX9_pieces 38 = .ok (.iconst 0, 1) := by decide +kernel
theorem dX9_pieces_39 : decode cX9_pieces 39 = .ok (.bastore, 1) := by decide +kernel
theorem dX9_pieces_40 : decode cX9_pieces 40 = .ok (.iinc 2 1, 3) := by decide +kernel
theorem dX9_pieces_43 : decode cX9_pieces 43 = .ok (.goto (-27), 3) := by decide +kernel
theorem dX9_pieces_46 : decode cX9_pieces 46 = .ok (.iconst 0, 1) := by decide +kernel
theorem dX9_pieces_47 : decode cX9_pieces 47 = .ok (.istore_n 2, 1) := by decide +kernel
theorem dX9_pieces_48 : decode cX9_pieces 48 = .ok (.iload_n 2, 1) := by decide +kernel
theorem dX9_pieces_49 : decode cX9_pieces 49 = .ok (.aload_n 0, 1) := by decide +kernel
theorem dX9_pieces_50 : decode cX9_pieces 50 = .ok (.getfield 116, 3) := by decide +kernel
theorem dX9_pieces_53 : decode cX9_pieces 53 = .ok (.if_icmp .ge 83, 3) := by decide +kernel
theorem dX9_pieces_56 : decode cX9_pieces 56 = .ok (.iconst 0, 1) := by decide +kernel
theorem dX9_pieces_57 : decode cX9_pieces 57 = .ok (.istore_n 3, 1) := by decide +kernel
theorem dX9_pieces_58 : decode cX9_pieces 58 = .ok (.iload_n 3, 1) := by decide +kernel
theorem dX9_pieces_59 : decode cX9_pieces 59 = .ok (.aload_n 0, 1) := by decide +kernel
theorem dX9_pieces_60 : decode cX9_pieces 60 = .ok (.getfield 116, 3) := by decide +kernel
theorem dX9_pieces_63 : decode cX9_pieces 63 = .ok (.if_icmp .ge 67, 3) := by decide +kernel
theorem dX9_pieces_66 : decode cX9_pieces 66 = .ok (.iconst 0, 1) := by decide +kernel
theorem dX9_pieces_67 : decode cX9_pieces 67 = .ok (.istore 4, 2) := by decide +kernel
theorem dX9_pieces_69 : decode cX9_pieces 69 = .ok (.iload 4, 2) := by decide +kernel
theorem dX9_pieces_71 : decode cX9_pieces 71 = .ok (.bipush 8, 2) := by decide +kernel
theorem dX9_pieces_73 : decode cX9_pieces 73 = .ok (.if_icmp .ge 51, 3) := by decide +kernel
theorem dX9_pieces_76 : decode cX9_pieces 76 = .ok (.aload_n 0, 1) := by decide +kernel
theorem dX9_pieces_77 : decode cX9_pieces 77 = .ok (.getfield 47, 3) := by decide +kernel
theorem dX9_pieces_80 : decode cX9_pieces 80 = .ok (.iload_n 3, 1) := by decide +kernel
theorem dX9_pieces_81 : decode cX9_pieces 81 = .ok (.baload, 1) := by decide +kernel
theorem dX9_pieces_82 : decode cX9_pieces 82 = .ok (.ifCond .eq 42, 3) := by decide +kernel
theorem dX9_pieces_85 : decode cX9_pieces 85 = .ok (.aload_n 0, 1) := by decide +kernel
theorem dX9_pieces_86 : decode cX9_pieces 86 = .ok (.getfield 16, 3) := by decide +kernel
theorem dX9_pieces_89 : decode cX9_pieces 89 = .ok (.bipush 8, 2) := by decide +kernel
theorem dX9_pieces_91 : decode cX9_pieces 91 = .ok (.iload_n 3, 1) := by decide +kernel
theorem dX9_pieces_92 : decode cX9_pieces 92 = .ok (.imul, 1) := by decide +kernel
theorem dX9_pieces_93 : decode cX9_pieces 93 = .ok (.iload 4, 2) := by decide +kernel
theorem dX9_pieces_95 : decode cX9_pieces 95 = .ok (.iadd, 1) := by decide +kernel
theorem dX9_pieces_96 : decode cX9_pieces 96 = .ok (.iaload, 1) := by decide +kernel
theorem dX9_pieces_97 : decode cX9_pieces 97 = .ok (.ifCond .lt 21, 3) := by decide +kernel
theorem dX9_pieces_100 : decode cX9_pieces 100 = .ok (.aload_n 0, 1) := by decide +kernel
theorem dX9_pieces_101 : decode cX9_pieces 101 = .ok (.getfield 47, 3) := by decide +kernel
theorem dX9_pieces_104 : decode cX9_pieces 104 = .ok (.aload_n 0, 1) := by decide +kernel
theorem dX9_pieces_105 : decode cX9_pieces 105 = .ok (.getfield 16, 3) := by decide +kernel
theorem dX9_pieces_108 : decode cX9_pieces 108 = .ok (.bipush 8, 2) := by decide +kernel
theorem dX9_pieces_110 : decode cX9_pieces 110 = .ok (.iload_n 3, 1) := by decide +kernel
theorem dX9_pieces_111 : decode cX9_pieces 111 = .ok (.imul, 1) := by decide +kernel
theorem dX9_pieces_112 : decode cX9_pieces 112 = .ok (.iload 4, 2) := by decide +kernel
theorem dX9_pieces_114 : decode cX9_pieces 114 = .ok (.iadd, 1) := by decide +kernel
theorem dX9_pieces_115 : decode cX9_pieces 115 = .ok (.iaload, 1) := by decide +kernel
theorem dX9_pieces_116 : decode cX9_pieces 116 = .ok (.iconst 1, 1) := by decide +kernel
theorem dX9_pieces_117 : decode cX9_pieces 117 = .ok (.bastore, 1) := by decide +kernel
theorem dX9_pieces_118 : decode cX9_pieces 118 = .ok (.iinc 4 1, 3) := by decide +kernel
theorem dX9_pieces_121 : decode cX9_pieces 121 = .ok (.goto (-52), 3) := by decide +kernel
theorem dX9_pieces_124 : decode cX9_pieces 124 = .ok (.iinc 3 1, 3) := by decide +kernel
theorem dX9_pieces_127 : decode cX9_pieces 127 = .ok (.goto (-69), 3) := by decide +kernel
theorem dX9_pieces_130 : decode cX9_pieces 130 = .ok (.iinc 2 1, 3) := by decide +kernel
theorem dX9_pieces_133 : decode cX9_pieces 133 = .ok (.goto (-85), 3) := by decide +kernel
theorem dX9_pieces_136 : decode cX9_pieces 136 = .ok (.iconst 0, 1) := by decide +kernel
theorem dX9_pieces_137 : decode cX9_pieces 137 = .ok (.istore_n 2, 1) := by decide +kernel
theorem dX9_pieces_138 : decode cX9_pieces 138 = .ok (.iconst 0, 1) := by decide +kernel
theorem dX9_pieces_139 : decode cX9_pieces 139 = .ok (.istore_n 3, 1) := by decide +kernel
theorem dX9_pieces_140 : decode cX9_pieces 140 = .ok (.iload_n 3, 1) := by decide +kernel
theorem dX9_pieces_141 : decode cX9_pieces 141 = .ok (.aload_n 0, 1) := by decide +kernel
theorem dX9_pieces_142 : decode cX9_pieces 142 = .ok (.getfield 116, 3) := by decide +kernel
theorem dX9_pieces_145 : decode cX9_pieces 145 = .ok (.if_icmp .ge 77, 3) := by decide +kernel
theorem dX9_pieces_148 : decode cX9_pieces 148 = .ok (.aload_n 0, 1) := by decide +kernel
theorem dX9_pieces_149 : decode cX9_pieces 149 = .ok (.getfield 47, 3) := by decide +kernel
theorem dX9_pieces_152 : decode cX9_pieces 152 = .ok (.iload_n 3, 1) := by decide +kernel
theorem dX9_pieces_153 : decode cX9_pieces 153 = .ok (.baload, 1) := by decide +kernel
theorem dX9_pieces_154 : decode cX9_pieces 154 = .ok (.istore 4, 2) := by decide +kernel
theorem dX9_pieces_156 : decode cX9_pieces 156 = .ok (.iconst 0, 1) := by decide +kernel
theorem dX9_pieces_157 : decode cX9_pieces 157 = .ok (.istore 5, 2) := by decide +kernel
theorem dX9_pieces_159 : decode cX9_pieces 159 = .ok (.iload 5, 2) := by decide +kernel
theorem dX9_pieces_161 : decode cX9_pieces 161 = .ok (.iload_n 3, 1) := by decide +kernel
theorem dX9_pieces_162 : decode cX9_pieces 162 = .ok (.if_icmp .ge 41, 3) := by decide +kernel
theorem dX9_pieces_165 : decode cX9_pieces 165 = .ok (.iload 4, 2) := by decide +kernel
theorem dX9_pieces_167 : decode cX9_pieces 167 = .ok (.ifCond .eq 36, 3) := by decide +kernel
theorem dX9_pieces_170 : decode cX9_pieces 170 = .ok (.aload_n 0, 1) := by decide +kernel
theorem dX9_pieces_171 : decode cX9_pieces 171 = .ok (.getfield 47, 3) := by decide +kernel
theorem dX9_pieces_174 : decode cX9_pieces 174 = .ok (.iload 5, 2) := by decide +kernel
theorem dX9_pieces_176 : decode cX9_pieces 176 = .ok (.baload, 1) := by decide +kernel
theorem dX9_pieces_177 : decode cX9_pieces 177 = .ok (.ifCond .eq 13, 3) := by decide +kernel
theorem dX9_pieces_180 : decode cX9_pieces 180 = .ok (.aload_n 0, 1) := by decide +kernel
theorem dX9_pieces_181 : decode cX9_pieces 181 = .ok (.iload 5, 2) := by decide +kernel
theorem dX9_pieces_183 : decode cX9_pieces 183 = .ok (.iload_n 3, 1) := by decide +kernel
theorem dX9_pieces_184 : decode cX9_pieces 184 = .ok (.invokevirtual 154, 3) := by decide +kernel
theorem dX9_pieces_187 : decode cX9_pieces 187 = .ok (.ifCond .ne 7, 3) := by decide +kernel
theorem dX9_pieces_190 : decode cX9_pieces 190 = .ok (.iconst 1, 1) := by decide +kernel
theorem dX9_pieces_191 : decode cX9_pieces 191 = .ok (.goto 4, 3) := by decide +kernel
theorem dX9_pieces_194 : decode cX9_pieces 194 = .ok (.iconst 0, 1) := by decide +kernel
theorem dX9_pieces_195 : decode cX9_pieces 195 = .ok (.istore 4, 2) := by decide +kernel
theorem dX9_pieces_197 : decode cX9_pieces 197 = .ok (.iinc 5 1, 3) := by decide +kernel
theorem dX9_pieces_200 : decode cX9_pieces 200 = .ok (.goto (-41), 3) := by decide +kernel
theorem dX9_pieces_203 : decode cX9_pieces 203 = .ok (.iload_n 2, 1) := by decide +kernel
theorem dX9_pieces_204 : decode cX9_pieces 204 = .ok (.iload 4, 2) := by decide +kernel
theorem dX9_pieces_206 : decode cX9_pieces 206 = .ok (.ifCond .eq 7, 3) := by decide +kernel
theorem dX9_pieces_209 : decode cX9_pieces 209 = .ok (.iconst 1, 1) := by decide +kernel
theorem dX9_pieces_210 : decode cX9_pieces 210 = .ok (.goto 4, 3) := by decide +kernel
theorem dX9_pieces_213 : decode cX9_pieces 213 = .ok (.iconst 0, 1) := by decide +kernel
theorem dX9_pieces_214 : decode cX9_pieces 214 = .ok (.iadd, 1) := by decide +kernel
theorem dX9_pieces_215 : decode cX9_pieces 215 = .ok (.istore_n 2, 1) := by decide +kernel
theorem dX9_pieces_216 : decode cX9_pieces 216 = .ok (.iinc 3 1, 3) := by decide +kernel
theorem dX9_pieces_219 : decode cX9_pieces 219 = .ok (.goto (-79), 3) := by decide +kernel
theorem dX9_pieces_222 : decode cX9_pieces 222 = .ok (.iload_n 2, 1) := by decide +kernel
theorem dX9_pieces_223 : decode cX9_pieces 223 = .ok (.ireturn, 1) := by decide +kernel
theorem dX9_plain_0 : decode cX9_plain 0 = .ok (.aload_n 0, 1) := by decide +kernel
theorem dX9_plain_1 : decode cX9_plain 1 = .ok (.getfield 40, 3) := by decide +kernel
theorem dX9_plain_4 : decode cX9_plain 4 = .ok (.bipush 60, 2) := by decide +kernel
theorem dX9_plain_6 : decode cX9_plain 6 = .ok (.iload_n 1, 1) := by decide +kernel
theorem dX9_plain_7 : decode cX9_plain 7 = .ok (.imul, 1) := by decide +kernel
theorem dX9_plain_8 : decode cX9_plain 8 = .ok (.iload_n 2, 1) := by decide +kernel
theorem dX9_plain_9 : decode cX9_plain 9 = .ok (.iadd, 1) := by decide +kernel
theorem dX9_plain_10 : decode cX9_plain 10 = .ok (.baload, 1) := by decide +kernel
theorem dX9_plain_11 : decode cX9_plain 11 = .ok (.istore 4, 2) := by decide +kernel
theorem dX9_plain_13 : decode cX9_plain 13 = .ok (.aload_n 0, 1) := by decide +kernel
theorem dX9_plain_14 : decode cX9_plain 14 = .ok (.getfield 40, 3) := by decide +kernel
theorem dX9_plain_17 : decode cX9_plain 17 = .ok (.bipush 60, 2) := by decide +kernel
theorem dX9_plain_19 : decode cX9_plain 19 = .ok (.iload_n 2, 1) := by decide +kernel
theorem dX9_plain_20 : decode cX9_plain 20 = .ok (.imul, 1) := by decide +kernel
theorem dX9_plain_21 : decode cX9_plain 21 = .ok (.iload_n 1, 1) := by decide +kernel
theorem dX9_plain_22 : decode cX9_plain 22 = .ok (.iadd, 1) := by decide +kernel
theorem dX9_plain_23 : decode cX9_plain 23 = .ok (.baload, 1) := by decide +kernel
theorem dX9_plain_24 : decode cX9_plain 24 = .ok (.istore 5, 2) := by decide +kernel
theorem dX9_plain_26 : decode cX9_plain 26 = .ok (.iload 4, 2) := by decide +kernel
theorem dX9_plain_28 : decode cX9_plain 28 = .ok (.ifCond .eq 12, 3) := by decide +kernel
theorem dX9_plain_31 : decode cX9_plain 31 = .ok (.iload 5, 2) := by decide +kernel
theorem dX9_plain_33 : decode cX9_plain 33 = .ok (.ifCond .eq 7, 3) := by decide +kernel
theorem dX9_plain_36 : decode cX9_plain 36 = .ok (.iload_n 1, 1) := by decide +kernel
theorem dX9_plain_37 : decode cX9_plain 37 = .ok (.goto 39, 3) := by decide +kernel
theorem dX9_plain_40 : decode cX9_plain 40 = .ok (.iload 4, 2) := by decide +kernel
theorem dX9_plain_42 : decode cX9_plain 42 = .ok (.ifCond .eq 15, 3) := by decide +kernel
theorem dX9_plain_45 : decode cX9_plain 45 = .ok (.iload_n 3, 1) := by decide +kernel
theorem dX9_plain_46 : decode cX9_plain 46 = .ok (.ifCond .ne 7, 3) := by decide +kernel
theorem dX9_plain_49 : decode cX9_plain 49 = .ok (.iload_n 2, 1) := by decide +kernel
theorem dX9_plain_50 : decode cX9_plain 50 = .ok (.goto 26, 3) := by decide +kernel
theorem dX9_plain_53 : decode cX9_plain 53 = .ok (.iload_n 1, 1) := by decide +kernel
theorem dX9_plain_54 : decode cX9_plain 54 = .ok (.goto 22, 3) := by decide +kernel
theorem dX9_plain_57 : decode cX9_plain 57 = .ok (.iload 5, 2) := by decide +kernel
theorem dX9_plain_59 : decode cX9_plain 59 = .ok (.ifCond .eq 15, 3) := by decide +kernel
theorem dX9_plain_62 : decode cX9_plain 62 = .ok (.iload_n 3, 1) := by decide +kernel
theorem dX9_plain_63 : decode cX9_plain 63 = .ok (.ifCond .ne 7, 3) := by decide +kernel
theorem dX9_plain_66 : decode cX9_plain 66 = .ok (.iload_n 1, 1) := by decide +kernel
theorem dX9_plain_67 : decode cX9_plain 67 = .ok (.goto 9, 3) := by decide +kernel
theorem dX9_plain_70 : decode cX9_plain 70 = .ok (.iload_n 2, 1) := by decide +kernel
theorem dX9_plain_71 : decode cX9_plain 71 = .ok (.goto 5, 3) := by decide +kernel
theorem dX9_plain_74 : decode cX9_plain 74 = .ok (.bipush (-6), 2) := by decide +kernel
theorem dX9_plain_76 : decode cX9_plain 76 = .ok (.ireturn, 1) := by decide +kernel
theorem dX9_waitFor_0 : decode cX9_waitFor 0 = .ok (.aload_n 0, 1) := by decide +kernel
theorem dX9_waitFor_1 : decode cX9_waitFor 1 = .ok (.getfield 53, 3) := by decide +kernel
theorem dX9_waitFor_4 : decode cX9_waitFor 4 = .ok (.aload_n 0, 1) := by decide +kernel
theorem dX9_waitFor_5 : decode cX9_waitFor 5 = .ok (.getfield 157, 3) := by decide +kernel
theorem dX9_waitFor_8 : decode cX9_waitFor 8 = .ok (.iconst 2, 1) := by decide +kernel
theorem dX9_waitFor_9 : decode cX9_waitFor 9 = .ok (.bipush 60, 2) := by decide +kernel
theorem dX9_waitFor_11 : decode cX9_waitFor 11 = .ok (.iload_n 1, 1) := by decide +kernel
theorem dX9_waitFor_12 : decode cX9_waitFor 12 = .ok (.imul, 1) := by decide +kernel
theorem dX9_waitFor_13 : decode cX9_waitFor 13 = .ok (.iload_n 2, 1) := by decide +kernel
theorem dX9_waitFor_14 : decode cX9_waitFor 14 = .ok (.iadd, 1) := by decide +kernel
theorem dX9_waitFor_15 : decode cX9_waitFor 15 = .ok (.imul, 1) := by decide +kernel
theorem dX9_waitFor_16 : decode cX9_waitFor 16 = .ok (.iload_n 3, 1) := by decide +kernel
theorem dX9_waitFor_17 : decode cX9_waitFor 17 = .ok (.iadd, 1) := by decide +kernel
theorem dX9_waitFor_18 : decode cX9_waitFor 18 = .ok (.iastore, 1) := by decide +kernel
theorem dX9_waitFor_19 : decode cX9_waitFor 19 = .ok (.aload_n 0, 1) := by decide +kernel
theorem dX9_waitFor_20 : decode cX9_waitFor 20 = .ok (.getfield 56, 3) := by decide +kernel
theorem dX9_waitFor_23 : decode cX9_waitFor 23 = .ok (.aload_n 0, 1) := by decide +kernel
theorem dX9_waitFor_24 : decode cX9_waitFor 24 = .ok (.getfield 157, 3) := by decide +kernel
theorem dX9_waitFor_27 : decode cX9_waitFor 27 = .ok (.iload 4, 2) := by decide +kernel
theorem dX9_waitFor_29 : decode cX9_waitFor 29 = .ok (.iastore, 1) := by decide +kernel
theorem dX9_waitFor_30 : decode cX9_waitFor 30 = .ok (.aload_n 0, 1) := by decide +kernel
theorem dX9_waitFor_31 : decode cX9_waitFor 31 = .ok (.dup, 1) := by decide +kernel
theorem dX9_waitFor_32 : decode cX9_waitFor 32 = .ok (.getfield 157, 3) := by decide +kernel
theorem dX9_waitFor_35 : decode cX9_waitFor 35 = .ok (.iconst 1, 1) := by decide +kernel
theorem dX9_waitFor_36 : decode cX9_waitFor 36 = .ok (.iadd, 1) := by decide +kernel
theorem dX9_waitFor_37 : decode cX9_waitFor 37 = .ok (.putfield 157, 3) := by decide +kernel
theorem dX9_waitFor_40 : decode cX9_waitFor 40 = .ok (.return_, 1) := by decide +kernel
theorem dX9_shape_0 : decode cX9_shape 0 = .ok (.aload_n 0, 1) := by decide +kernel
theorem dX9_shape_1 : decode cX9_shape 1 = .ok (.getfield 13, 3) := by decide +kernel
theorem dX9_shape_4 : decode cX9_shape 4 = .ok (.iload_n 1, 1) := by decide +kernel
theorem dX9_shape_5 : decode cX9_shape 5 = .ok (.iaload, 1) := by decide +kernel
theorem dX9_shape_6 : decode cX9_shape 6 = .ok (.aload_n 0, 1) := by decide +kernel
theorem dX9_shape_7 : decode cX9_shape 7 = .ok (.getfield 13, 3) := by decide +kernel
theorem dX9_shape_10 : decode cX9_shape 10 = .ok (.iload_n 2, 1) := by decide +kernel
theorem dX9_shape_11 : decode cX9_shape 11 = .ok (.iaload, 1) := by decide +kernel
theorem dX9_shape_12 : decode cX9_shape 12 = .ok (.if_icmp .ne 12, 3) := by decide +kernel
theorem dX9_shape_15 : decode cX9_shape 15 = .ok (.aload_n 0, 1) := by decide +kernel
theorem dX9_shape_16 : decode cX9_shape 16 = .ok (.getfield 13, 3) := by decide +kernel
theorem dX9_shape_19 : decode cX9_shape 19 = .ok (.iload_n 1, 1) := by decide +kernel
theorem dX9_shape_20 : decode cX9_shape 20 = .ok (.iaload, 1) := by decide +kernel
theorem dX9_shape_21 : decode cX9_shape 21 = .ok (.goto 4, 3) := by decide +kernel
theorem dX9_shape_24 : decode cX9_shape 24 = .ok (.iconst 0, 1) := by decide +kernel
theorem dX9_shape_25 : decode cX9_shape 25 = .ok (.istore 5, 2) := by decide +kernel
theorem dX9_shape_27 : decode cX9_shape 27 = .ok (.iload 5, 2) := by decide +kernel
theorem dX9_shape_29 : decode cX9_shape 29 = .ok (.bipush 123, 2) := by decide +kernel
theorem dX9_shape_31 : decode cX9_shape 31 = .ok (.if_icmp .eq 24, 3) := by decide +kernel
theorem dX9_shape_34 : decode cX9_shape 34 = .ok (.iload 5, 2) := by decide +kernel
theorem dX9_shape_36 : decode cX9_shape 36 = .ok (.bipush 91, 2) := by decide +kernel
theorem dX9_shape_38 : decode cX9_shape 38 = .ok (.if_icmp .eq 17, 3) := by decide +kernel
theorem dX9_shape_41 : decode cX9_shape 41 = .ok (.iload 5, 2) := by decide +kernel
theorem dX9_shape_43 : decode cX9_shape 43 = .ok (.bipush 42, 2) := by decide +kernel
theorem dX9_shape_45 : decode cX9_shape 45 = .ok (.if_icmp .eq 10, 3) := by decide +kernel
theorem dX9_shape_48 : decode cX9_shape 48 = .ok (.iload 5, 2) := by decide +kernel
theorem dX9_shape_50 : decode cX9_shape 50 = .ok (.bipush 62, 2) := by decide +kernel
theorem dX9_shape_52 : decode cX9_shape 52 = .ok (.if_icmp .ne 7, 3) := by decide +kernel
theorem dX9_shape_55 : decode cX9_shape 55 = .ok (.iconst 1, 1) := by decide +kernel
theorem dX9_shape_56 : decode cX9_shape 56 = .ok (.goto 4, 3) := by decide +kernel
theorem dX9_shape_59 : decode cX9_shape 59 = .ok (.iconst 0, 1) := by decide +kernel
theorem dX9_shape_60 : decode cX9_shape 60 = .ok (.istore 6, 2) := by decide +kernel
theorem dX9_shape_62 : decode cX9_shape 62 = .ok (.aload_n 0, 1) := by decide +kernel
theorem dX9_shape_63 : decode cX9_shape 63 = .ok (.getfield 13, 3) := by decide +kernel
theorem dX9_shape_66 : decode cX9_shape 66 = .ok (.iload 4, 2) := by decide +kernel
theorem dX9_shape_68 : decode cX9_shape 68 = .ok (.iload 6, 2) := by decide +kernel
theorem dX9_shape_70 : decode cX9_shape 70 = .ok (.ifCond .eq 8, 3) := by decide +kernel
theorem dX9_shape_73 : decode cX9_shape 73 = .ok (.iload 5, 2) := by decide +kernel
theorem dX9_shape_75 : decode cX9_shape 75 = .ok (.goto 14, 3) := by decide +kernel
theorem dX9_shape_78 : decode cX9_shape 78 = .ok (.iload_n 3, 1) := by decide +kernel
theorem dX9_shape_79 : decode cX9_shape 79 = .ok (.ifCond .ne 8, 3) := by decide +kernel
theorem dX9_shape_82 : decode cX9_shape 82 = .ok (.bipush 46, 2) := by decide +kernel
theorem dX9_shape_84 : decode cX9_shape 84 = .ok (.goto 5, 3) := by decide +kernel
theorem dX9_shape_87 : decode cX9_shape 87 = .ok (.bipush 33, 2) := by decide +kernel
theorem dX9_shape_89 : decode cX9_shape 89 = .ok (.iastore, 1) := by decide +kernel
theorem dX9_shape_90 : decode cX9_shape 90 = .ok (.iconst 0, 1) := by decide +kernel
theorem dX9_shape_91 : decode cX9_shape 91 = .ok (.istore 7, 2) := by decide +kernel
theorem dX9_shape_93 : decode cX9_shape 93 = .ok (.iload 7, 2) := by decide +kernel
theorem dX9_shape_95 : decode cX9_shape 95 = .ok (.bipush 8, 2) := by decide +kernel
theorem dX9_shape_97 : decode cX9_shape 97 = .ok (.if_icmp .ge 24, 3) := by decide +kernel
theorem dX9_shape_100 : decode cX9_shape 100 = .ok (.aload_n 0, 1) := by decide +kernel
theorem dX9_shape_101 : decode cX9_shape 101 = .ok (.getfield 16, 3) := by decide +kernel
theorem dX9_shape_104 : decode cX9_shape 104 = .ok (.bipush 8, 2) := by decide +kernel
theorem dX9_shape_106 : decode cX9_shape 106 = .ok (.iload 4, 2) := by decide +kernel
theorem dX9_shape_108 : decode cX9_shape 108 = .ok (.imul, 1) := by decide +kernel
theorem dX9_shape_109 : decode cX9_shape 109 = .ok (.iload 7, 2) := by decide +kernel
theorem dX9_shape_111 : decode cX9_shape 111 = .ok (.iadd, 1) := by decide +kernel
theorem dX9_shape_112 : decode cX9_shape 112 = .ok (.bipush (-6), 2) := by decide +kernel
theorem dX9_shape_114 : decode cX9_shape 114 = .ok (.iastore, 1) := by decide +kernel
theorem dX9_shape_115 : decode cX9_shape 115 = .ok (.iinc 7 1, 3) := by decide +kernel
theorem dX9_shape_118 : decode cX9_shape 118 = .ok (.goto (-25), 3) := by decide +kernel
theorem dX9_shape_121 : decode cX9_shape 121 = .ok (.iload 5, 2) := by decide +kernel
theorem dX9_shape_123 : decode cX9_shape 123 = .ok (.bipush 42, 2) := by decide +kernel
theorem dX9_shape_125 : decode cX9_shape 125 = .ok (.if_icmp .ne 34, 3) := by decide +kernel
theorem dX9_shape_128 : decode cX9_shape 128 = .ok (.aload_n 0, 1) := by decide +kernel
theorem dX9_shape_129 : decode cX9_shape 129 = .ok (.aload_n 0, 1) := by decide +kernel
theorem dX9_shape_130 : decode cX9_shape 130 = .ok (.getfield 16, 3) := by decide +kernel
theorem dX9_shape_133 : decode cX9_shape 133 = .ok (.bipush 8, 2) := by decide +kernel
theorem dX9_shape_135 : decode cX9_shape 135 = .ok (.iload_n 1, 1) := by decide +kernel
theorem dX9_shape_136 : decode cX9_shape 136 = .ok (.imul, 1) := by decide +kernel
