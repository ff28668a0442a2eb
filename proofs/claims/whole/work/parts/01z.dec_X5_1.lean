theorem dX5_fewestBehind_7 : decode cX5_fewestBehind 7 = .ok (.iload_n 1, 1) := by decide +kernel
theorem dX5_fewestBehind_8 : decode cX5_fewestBehind 8 = .ok (.invokevirtual 103, 3) := by decide +kernel
theorem dX5_fewestBehind_11 : decode cX5_fewestBehind 11 = .ok (.aload_n 0, 1) := by decide +kernel
theorem dX5_fewestBehind_12 : decode cX5_fewestBehind 12 = .ok (.getfield 9, 3) := by decide +kernel
theorem dX5_fewestBehind_15 : decode cX5_fewestBehind 15 = .ok (.iload_n 2, 1) := by decide +kernel
theorem dX5_fewestBehind_16 : decode cX5_fewestBehind 16 = .ok (.invokevirtual 103, 3) := by decide +kernel
theorem dX5_fewestBehind_19 : decode cX5_fewestBehind 19 = .ok (.iand, 1) := by decide +kernel
theorem dX5_fewestBehind_20 : decode cX5_fewestBehind 20 = .ok (.istore 4, 2) := by decide +kernel
theorem dX5_fewestBehind_22 : decode cX5_fewestBehind 22 = .ok (.iconst 0, 1) := by decide +kernel
theorem dX5_fewestBehind_23 : decode cX5_fewestBehind 23 = .ok (.istore 5, 2) := by decide +kernel
theorem dX5_fewestBehind_25 : decode cX5_fewestBehind 25 = .ok (.iload 5, 2) := by decide +kernel
theorem dX5_fewestBehind_27 : decode cX5_fewestBehind 27 = .ok (.bipush 8, 2) := by decide +kernel
theorem dX5_fewestBehind_29 : decode cX5_fewestBehind 29 = .ok (.if_icmp .ge 49, 3) := by decide +kernel
theorem dX5_fewestBehind_32 : decode cX5_fewestBehind 32 = .ok (.iload 4, 2) := by decide +kernel
theorem dX5_fewestBehind_34 : decode cX5_fewestBehind 34 = .ok (.iload 5, 2) := by decide +kernel
theorem dX5_fewestBehind_36 : decode cX5_fewestBehind 36 = .ok (.ishr, 1) := by decide +kernel
theorem dX5_fewestBehind_37 : decode cX5_fewestBehind 37 = .ok (.ifCond .eq 41, 3) := by decide +kernel
theorem dX5_fewestBehind_40 : decode cX5_fewestBehind 40 = .ok (.iload 4, 2) := by decide +kernel
theorem dX5_fewestBehind_42 : decode cX5_fewestBehind 42 = .ok (.iload 5, 2) := by decide +kernel
theorem dX5_fewestBehind_44 : decode cX5_fewestBehind 44 = .ok (.ishr, 1) := by decide +kernel
theorem dX5_fewestBehind_45 : decode cX5_fewestBehind 45 = .ok (.iconst 1, 1) := by decide +kernel
theorem dX5_fewestBehind_46 : decode cX5_fewestBehind 46 = .ok (.iand, 1) := by decide +kernel
theorem dX5_fewestBehind_47 : decode cX5_fewestBehind 47 = .ok (.iconst 1, 1) := by decide +kernel
theorem dX5_fewestBehind_48 : decode cX5_fewestBehind 48 = .ok (.if_icmp .ne 24, 3) := by decide +kernel
theorem dX5_fewestBehind_51 : decode cX5_fewestBehind 51 = .ok (.iload_n 3, 1) := by decide +kernel
theorem dX5_fewestBehind_52 : decode cX5_fewestBehind 52 = .ok (.aload_n 0, 1) := by decide +kernel
theorem dX5_fewestBehind_53 : decode cX5_fewestBehind 53 = .ok (.aload_n 0, 1) := by decide +kernel
theorem dX5_fewestBehind_54 : decode cX5_fewestBehind 54 = .ok (.iload_n 1, 1) := by decide +kernel
theorem dX5_fewestBehind_55 : decode cX5_fewestBehind 55 = .ok (.bipush 60, 2) := by decide +kernel
theorem dX5_fewestBehind_57 : decode cX5_fewestBehind 57 = .ok (.imul, 1) := by decide +kernel
theorem dX5_fewestBehind_58 : decode cX5_fewestBehind 58 = .ok (.iload_n 2, 1) := by decide +kernel
theorem dX5_fewestBehind_59 : decode cX5_fewestBehind 59 = .ok (.iadd, 1) := by decide +kernel
theorem dX5_fewestBehind_60 : decode cX5_fewestBehind 60 = .ok (.iload 5, 2) := by decide +kernel
theorem dX5_fewestBehind_62 : decode cX5_fewestBehind 62 = .ok (.invokevirtual 78, 3) := by decide +kernel
theorem dX5_fewestBehind_65 : decode cX5_fewestBehind 65 = .ok (.invokevirtual 106, 3) := by decide +kernel
theorem dX5_fewestBehind_68 : decode cX5_fewestBehind 68 = .ok (.invokestatic 109, 3) := by decide +kernel
theorem dX5_fewestBehind_71 : decode cX5_fewestBehind 71 = .ok (.istore_n 3, 1) := by decide +kernel
theorem dX5_fewestBehind_72 : decode cX5_fewestBehind 72 = .ok (.iinc 5 1, 3) := by decide +kernel
theorem dX5_fewestBehind_75 : decode cX5_fewestBehind 75 = .ok (.goto (-50), 3) := by decide +kernel
theorem dX5_fewestBehind_78 : decode cX5_fewestBehind 78 = .ok (.iload_n 3, 1) := by decide +kernel
theorem dX5_fewestBehind_79 : decode cX5_fewestBehind 79 = .ok (.ireturn, 1) := by decide +kernel
theorem dX5_fitByThemselves_0 : decode cX5_fitByThemselves 0 = .ok (.aload_n 0, 1) := by decide +kernel
theorem dX5_fitByThemselves_1 : decode cX5_fitByThemselves 1 = .ok (.getfield 9, 3) := by decide +kernel
theorem dX5_fitByThemselves_4 : decode cX5_fitByThemselves 4 = .ok (.iload_n 1, 1) := by decide +kernel
theorem dX5_fitByThemselves_5 : decode cX5_fitByThemselves 5 = .ok (.invokevirtual 62, 3) := by decide +kernel
theorem dX5_fitByThemselves_8 : decode cX5_fitByThemselves 8 = .ok (.istore_n 3, 1) := by decide +kernel
theorem dX5_fitByThemselves_9 : decode cX5_fitByThemselves 9 = .ok (.iload_n 3, 1) := by decide +kernel
theorem dX5_fitByThemselves_10 : decode cX5_fitByThemselves 10 = .ok (.bipush 33, 2) := by decide +kernel
theorem dX5_fitByThemselves_12 : decode cX5_fitByThemselves 12 = .ok (.if_icmp .eq 16, 3) := by decide +kernel
theorem dX5_fitByThemselves_15 : decode cX5_fitByThemselves 15 = .ok (.aload_n 0, 1) := by decide +kernel
theorem dX5_fitByThemselves_16 : decode cX5_fitByThemselves 16 = .ok (.getfield 9, 3) := by decide +kernel
theorem dX5_fitByThemselves_19 : decode cX5_fitByThemselves 19 = .ok (.iload_n 2, 1) := by decide +kernel
theorem dX5_fitByThemselves_20 : decode cX5_fitByThemselves 20 = .ok (.invokevirtual 62, 3) := by decide +kernel
theorem dX5_fitByThemselves_23 : decode cX5_fitByThemselves 23 = .ok (.bipush 46, 2) := by decide +kernel
theorem dX5_fitByThemselves_25 : decode cX5_fitByThemselves 25 = .ok (.if_icmp .ne 5, 3) := by decide +kernel
theorem dX5_fitByThemselves_28 : decode cX5_fitByThemselves 28 = .ok (.iconst 1, 1) := by decide +kernel
theorem dX5_fitByThemselves_29 : decode cX5_fitByThemselves 29 = .ok (.ireturn, 1) := by decide +kernel
theorem dX5_fitByThemselves_30 : decode cX5_fitByThemselves 30 = .ok (.iload_n 3, 1) := by decide +kernel
theorem dX5_fitByThemselves_31 : decode cX5_fitByThemselves 31 = .ok (.aload_n 0, 1) := by decide +kernel
theorem dX5_fitByThemselves_32 : decode cX5_fitByThemselves 32 = .ok (.getfield 9, 3) := by decide +kernel
theorem dX5_fitByThemselves_35 : decode cX5_fitByThemselves 35 = .ok (.iload_n 2, 1) := by decide +kernel
theorem dX5_fitByThemselves_36 : decode cX5_fitByThemselves 36 = .ok (.invokevirtual 62, 3) := by decide +kernel
theorem dX5_fitByThemselves_39 : decode cX5_fitByThemselves 39 = .ok (.if_icmp .eq 5, 3) := by decide +kernel
theorem dX5_fitByThemselves_42 : decode cX5_fitByThemselves 42 = .ok (.iconst 0, 1) := by decide +kernel
theorem dX5_fitByThemselves_43 : decode cX5_fitByThemselves 43 = .ok (.ireturn, 1) := by decide +kernel
theorem dX5_fitByThemselves_44 : decode cX5_fitByThemselves 44 = .ok (.iload_n 3, 1) := by decide +kernel
theorem dX5_fitByThemselves_45 : decode cX5_fitByThemselves 45 = .ok (.bipush 123, 2) := by decide +kernel
theorem dX5_fitByThemselves_47 : decode cX5_fitByThemselves 47 = .ok (.if_icmp .ne 31, 3) := by decide +kernel
theorem dX5_fitByThemselves_50 : decode cX5_fitByThemselves 50 = .ok (.aload_n 0, 1) := by decide +kernel
theorem dX5_fitByThemselves_51 : decode cX5_fitByThemselves 51 = .ok (.getfield 9, 3) := by decide +kernel
theorem dX5_fitByThemselves_54 : decode cX5_fitByThemselves 54 = .ok (.iload_n 2, 1) := by decide +kernel
theorem dX5_fitByThemselves_55 : decode cX5_fitByThemselves 55 = .ok (.invokevirtual 103, 3) := by decide +kernel
theorem dX5_fitByThemselves_58 : decode cX5_fitByThemselves 58 = .ok (.aload_n 0, 1) := by decide +kernel
theorem dX5_fitByThemselves_59 : decode cX5_fitByThemselves 59 = .ok (.getfield 9, 3) := by decide +kernel
theorem dX5_fitByThemselves_62 : decode cX5_fitByThemselves 62 = .ok (.iload_n 1, 1) := by decide +kernel
theorem dX5_fitByThemselves_63 : decode cX5_fitByThemselves 63 = .ok (.invokevirtual 103, 3) := by decide +kernel
theorem dX5_fitByThemselves_66 : decode cX5_fitByThemselves 66 = .ok (.iconst (-1), 1) := by decide +kernel
theorem dX5_fitByThemselves_67 : decode cX5_fitByThemselves 67 = .ok (.ixor, 1) := by decide +kernel
theorem dX5_fitByThemselves_68 : decode cX5_fitByThemselves 68 = .ok (.iand, 1) := by decide +kernel
theorem dX5_fitByThemselves_69 : decode cX5_fitByThemselves 69 = .ok (.ifCond .ne 7, 3) := by decide +kernel
theorem dX5_fitByThemselves_72 : decode cX5_fitByThemselves 72 = .ok (.iconst 1, 1) := by decide +kernel
theorem dX5_fitByThemselves_73 : decode cX5_fitByThemselves 73 = .ok (.goto 4, 3) := by decide +kernel
theorem dX5_fitByThemselves_76 : decode cX5_fitByThemselves 76 = .ok (.iconst 0, 1) := by decide +kernel
theorem dX5_fitByThemselves_77 : decode cX5_fitByThemselves 77 = .ok (.ireturn, 1) := by decide +kernel
theorem dX5_fitByThemselves_78 : decode cX5_fitByThemselves 78 = .ok (.iload_n 3, 1) := by decide +kernel
theorem dX5_fitByThemselves_79 : decode cX5_fitByThemselves 79 = .ok (.bipush 91, 2) := by decide +kernel
theorem dX5_fitByThemselves_81 : decode cX5_fitByThemselves 81 = .ok (.if_icmp .ne 25, 3) := by decide +kernel
theorem dX5_fitByThemselves_84 : decode cX5_fitByThemselves 84 = .ok (.aload_n 0, 1) := by decide +kernel
theorem dX5_fitByThemselves_85 : decode cX5_fitByThemselves 85 = .ok (.getfield 9, 3) := by decide +kernel
theorem dX5_fitByThemselves_88 : decode cX5_fitByThemselves 88 = .ok (.iload_n 1, 1) := by decide +kernel
theorem dX5_fitByThemselves_89 : decode cX5_fitByThemselves 89 = .ok (.invokevirtual 103, 3) := by decide +kernel
theorem dX5_fitByThemselves_92 : decode cX5_fitByThemselves 92 = .ok (.aload_n 0, 1) := by decide +kernel
theorem dX5_fitByThemselves_93 : decode cX5_fitByThemselves 93 = .ok (.getfield 9, 3) := by decide +kernel
theorem dX5_fitByThemselves_96 : decode cX5_fitByThemselves 96 = .ok (.iload_n 2, 1) := by decide +kernel
theorem dX5_fitByThemselves_97 : decode cX5_fitByThemselves 97 = .ok (.invokevirtual 103, 3) := by decide +kernel
theorem dX5_fitByThemselves_100 : decode cX5_fitByThemselves 100 = .ok (.iconst (-1), 1) := by decide +kernel
theorem dX5_fitByThemselves_101 : decode cX5_fitByThemselves 101 = .ok (.ixor, 1) := by decide +kernel
theorem dX5_fitByThemselves_102 : decode cX5_fitByThemselves 102 = .ok (.iand, 1) := by decide +kernel
theorem dX5_fitByThemselves_103 : decode cX5_fitByThemselves 103 = .ok (.ifCond .ne 7, 3) := by decide +kernel
theorem dX5_fitByThemselves_106 : decode cX5_fitByThemselves 106 = .ok (.iconst 1, 1) := by decide +kernel
theorem dX5_fitByThemselves_107 : decode cX5_fitByThemselves 107 = .ok (.goto 4, 3) := by decide +kernel
theorem dX5_fitByThemselves_110 : decode cX5_fitByThemselves 110 = .ok (.iconst 0, 1) := by decide +kernel
theorem dX5_fitByThemselves_111 : decode cX5_fitByThemselves 111 = .ok (.ireturn, 1) := by decide +kernel
theorem dX5_firstSlotDown_0 : decode cX5_firstSlotDown 0 = .ok (.iconst 0, 1) := by decide +kernel
theorem dX5_firstSlotDown_1 : decode cX5_firstSlotDown 1 = .ok (.istore_n 2, 1) := by decide +kernel
theorem dX5_firstSlotDown_2 : decode cX5_firstSlotDown 2 = .ok (.iload_n 2, 1) := by decide +kernel
theorem dX5_firstSlotDown_3 : decode cX5_firstSlotDown 3 = .ok (.bipush 8, 2) := by decide +kernel
theorem dX5_firstSlotDown_5 : decode cX5_firstSlotDown 5 = .ok (.if_icmp .ge 39, 3) := by decide +kernel
theorem dX5_firstSlotDown_8 : decode cX5_firstSlotDown 8 = .ok (.aload_n 0, 1) := by decide +kernel
theorem dX5_firstSlotDown_9 : decode cX5_firstSlotDown 9 = .ok (.iload_n 1, 1) := by decide +kernel
theorem dX5_firstSlotDown_10 : decode cX5_firstSlotDown 10 = .ok (.iload_n 2, 1) := by decide +kernel
theorem dX5_firstSlotDown_11 : decode cX5_firstSlotDown 11 = .ok (.invokevirtual 78, 3) := by decide +kernel
theorem dX5_firstSlotDown_14 : decode cX5_firstSlotDown 14 = .ok (.istore_n 3, 1) := by decide +kernel
theorem dX5_firstSlotDown_15 : decode cX5_firstSlotDown 15 = .ok (.iload_n 3, 1) := by decide +kernel
theorem dX5_firstSlotDown_16 : decode cX5_firstSlotDown 16 = .ok (.bipush (-6), 2) := by decide +kernel
theorem dX5_firstSlotDown_18 : decode cX5_firstSlotDown 18 = .ok (.if_icmp .eq 20, 3) := by decide +kernel
theorem dX5_firstSlotDown_21 : decode cX5_firstSlotDown 21 = .ok (.aload_n 0, 1) := by decide +kernel
theorem dX5_firstSlotDown_22 : decode cX5_firstSlotDown 22 = .ok (.iload_n 3, 1) := by decide +kernel
theorem dX5_firstSlotDown_23 : decode cX5_firstSlotDown 23 = .ok (.invokevirtual 106, 3) := by decide +kernel
theorem dX5_firstSlotDown_26 : decode cX5_firstSlotDown 26 = .ok (.aload_n 0, 1) := by decide +kernel
theorem dX5_firstSlotDown_27 : decode cX5_firstSlotDown 27 = .ok (.iload_n 1, 1) := by decide +kernel
theorem dX5_firstSlotDown_28 : decode cX5_firstSlotDown 28 = .ok (.invokevirtual 106, 3) := by decide +kernel
theorem dX5_firstSlotDown_31 : decode cX5_firstSlotDown 31 = .ok (.iconst 1, 1) := by decide +kernel
theorem dX5_firstSlotDown_32 : decode cX5_firstSlotDown 32 = .ok (.isub, 1) := by decide +kernel
theorem dX5_firstSlotDown_33 : decode cX5_firstSlotDown 33 = .ok (.if_icmp .ne 5, 3) := by decide +kernel
theorem dX5_firstSlotDown_36 : decode cX5_firstSlotDown 36 = .ok (.iload_n 2, 1) := by decide +kernel
theorem dX5_firstSlotDown_37 : decode cX5_firstSlotDown 37 = .ok (.ireturn, 1) := by decide +kernel
theorem dX5_firstSlotDown_38 : decode cX5_firstSlotDown 38 = .ok (.iinc 2 1, 3) := by decide +kernel
theorem dX5_firstSlotDown_41 : decode cX5_firstSlotDown 41 = .ok (.goto (-39), 3) := by decide +kernel
theorem dX5_firstSlotDown_44 : decode cX5_firstSlotDown 44 = .ok (.bipush (-6), 2) := by decide +kernel
theorem dX5_firstSlotDown_46 : decode cX5_firstSlotDown 46 = .ok (.ireturn, 1) := by decide +kernel
theorem dX5_pairBehind_0 : decode cX5_pairBehind 0 = .ok (.iload_n 1, 1) := by decide +kernel
theorem dX5_pairBehind_1 : decode cX5_pairBehind 1 = .ok (.ifCond .ge 6, 3) := by decide +kernel
theorem dX5_pairBehind_4 : decode cX5_pairBehind 4 = .ok (.bipush (-6), 2) := by decide +kernel
theorem dX5_pairBehind_6 : decode cX5_pairBehind 6 = .ok (.ireturn, 1) := by decide +kernel
theorem dX5_pairBehind_7 : decode cX5_pairBehind 7 = .ok (.aload_n 0, 1) := by decide +kernel
theorem dX5_pairBehind_8 : decode cX5_pairBehind 8 = .ok (.getfield 9, 3) := by decide +kernel
theorem dX5_pairBehind_11 : decode cX5_pairBehind 11 = .ok (.iload_n 1, 1) := by decide +kernel
theorem dX5_pairBehind_12 : decode cX5_pairBehind 12 = .ok (.bipush 60, 2) := by decide +kernel
theorem dX5_pairBehind_14 : decode cX5_pairBehind 14 = .ok (.idiv, 1) := by decide +kernel
theorem dX5_pairBehind_15 : decode cX5_pairBehind 15 = .ok (.iload_n 2, 1) := by decide +kernel
theorem dX5_pairBehind_16 : decode cX5_pairBehind 16 = .ok (.invokevirtual 90, 3) := by decide +kernel
theorem dX5_pairBehind_19 : decode cX5_pairBehind 19 = .ok (.istore_n 3, 1) := by decide +kernel
theorem dX5_pairBehind_20 : decode cX5_pairBehind 20 = .ok (.aload_n 0, 1) := by decide +kernel
theorem dX5_pairBehind_21 : decode cX5_pairBehind 21 = .ok (.getfield 9, 3) := by decide +kernel
theorem dX5_pairBehind_24 : decode cX5_pairBehind 24 = .ok (.iload_n 1, 1) := by decide +kernel
theorem dX5_pairBehind_25 : decode cX5_pairBehind 25 = .ok (.bipush 60, 2) := by decide +kernel
theorem dX5_pairBehind_27 : decode cX5_pairBehind 27 = .ok (.irem, 1) := by decide +kernel
theorem dX5_pairBehind_28 : decode cX5_pairBehind 28 = .ok (.iload_n 2, 1) := by decide +kernel
theorem dX5_pairBehind_29 : decode cX5_pairBehind 29 = .ok (.invokevirtual 90, 3) := by decide +kernel
theorem dX5_pairBehind_32 : decode cX5_pairBehind 32 = .ok (.istore 4, 2) := by decide +kernel
theorem dX5_pairBehind_34 : decode cX5_pairBehind 34 = .ok (.iload_n 3, 1) := by decide +kernel
theorem dX5_pairBehind_35 : decode cX5_pairBehind 35 = .ok (.bipush (-6), 2) := by decide +kernel
theorem dX5_pairBehind_37 : decode cX5_pairBehind 37 = .ok (.if_icmp .eq 10, 3) := by decide +kernel
theorem dX5_pairBehind_40 : decode cX5_pairBehind 40 = .ok (.iload 4, 2) := by decide +kernel
theorem dX5_pairBehind_42 : decode cX5_pairBehind 42 = .ok (.bipush (-6), 2) := by decide +kernel
theorem dX5_pairBehind_44 : decode cX5_pairBehind 44 = .ok (.if_icmp .ne 6, 3) := by decide +kernel
theorem dX5_pairBehind_47 : decode cX5_pairBehind 47 = .ok (.bipush (-6), 2) := by decide +kernel
theorem dX5_pairBehind_49 : decode cX5_pairBehind 49 = .ok (.ireturn, 1) := by decide +kernel
theorem dX5_pairBehind_50 : decode cX5_pairBehind 50 = .ok (.iload_n 2, 1) := by decide +kernel
theorem dX5_pairBehind_51 : decode cX5_pairBehind 51 = .ok (.ifCond .ne 23, 3) := by decide +kernel
theorem dX5_pairBehind_54 : decode cX5_pairBehind 54 = .ok (.aload_n 0, 1) := by decide +kernel
theorem dX5_pairBehind_55 : decode cX5_pairBehind 55 = .ok (.getfield 9, 3) := by decide +kernel
theorem dX5_pairBehind_58 : decode cX5_pairBehind 58 = .ok (.iload_n 1, 1) := by decide +kernel
theorem dX5_pairBehind_59 : decode cX5_pairBehind 59 = .ok (.bipush 60, 2) := by decide +kernel
theorem dX5_pairBehind_61 : decode cX5_pairBehind 61 = .ok (.idiv, 1) := by decide +kernel
theorem dX5_pairBehind_62 : decode cX5_pairBehind 62 = .ok (.invokevirtual 62, 3) := by decide +kernel
theorem dX5_pairBehind_65 : decode cX5_pairBehind 65 = .ok (.bipush 62, 2) := by decide +kernel
theorem dX5_pairBehind_67 : decode cX5_pairBehind 67 = .ok (.if_icmp .ne 7, 3) := by decide +kernel
theorem dX5_pairBehind_70 : decode cX5_pairBehind 70 = .ok (.iconst 1, 1) := by decide +kernel
theorem dX5_pairBehind_71 : decode cX5_pairBehind 71 = .ok (.goto 4, 3) := by decide +kernel
theorem dX5_pairBehind_74 : decode cX5_pairBehind 74 = .ok (.iconst 0, 1) := by decide +kernel
theorem dX5_pairBehind_75 : decode cX5_pairBehind 75 = .ok (.istore 5, 2) := by decide +kernel
theorem dX5_pairBehind_77 : decode cX5_pairBehind 77 = .ok (.iload 5, 2) := by decide +kernel
theorem dX5_pairBehind_79 : decode cX5_pairBehind 79 = .ok (.ifCond .eq 13, 3) := by decide +kernel
theorem dX5_pairBehind_82 : decode cX5_pairBehind 82 = .ok (.iload 4, 2) := by decide +kernel
theorem dX5_pairBehind_84 : decode cX5_pairBehind 84 = .ok (.bipush 60, 2) := by decide +kernel
theorem dX5_pairBehind_86 : decode cX5_pairBehind 86 = .ok (.imul, 1) := by decide +kernel
theorem dX5_pairBehind_87 : decode cX5_pairBehind 87 = .ok (.iload_n 3, 1) := by decide +kernel
theorem dX5_pairBehind_88 : decode cX5_pairBehind 88 = .ok (.iadd, 1) := by decide +kernel
theorem dX5_pairBehind_89 : decode cX5_pairBehind 89 = .ok (.goto 10, 3) := by decide +kernel
theorem dX5_pairBehind_92 : decode cX5_pairBehind 92 = .ok (.iload_n 3, 1) := by decide +kernel
theorem dX5_pairBehind_93 : decode cX5_pairBehind 93 = .ok (.bipush 60, 2) := by decide +kernel
theorem dX5_pairBehind_95 : decode cX5_pairBehind 95 = .ok (.imul, 1) := by decide +kernel
theorem dX5_pairBehind_96 : decode cX5_pairBehind 96 = .ok (.iload 4, 2) := by decide +kernel
theorem dX5_pairBehind_98 : decode cX5_pairBehind 98 = .ok (.iadd, 1) := by decide +kernel
theorem dX5_pairBehind_99 : decode cX5_pairBehind 99 = .ok (.ireturn, 1) := by decide +kernel
theorem dX5_stepThrough_0 : decode cX5_stepThrough 0 = .ok (.iload_n 0, 1) := by decide +kernel
theorem dX5_stepThrough_1 : decode cX5_stepThrough 1 = .ok (.bipush 42, 2) := by decide +kernel
theorem dX5_stepThrough_3 : decode cX5_stepThrough 3 = .ok (.if_icmp .ne 6, 3) := by decide +kernel
theorem dX5_stepThrough_6 : decode cX5_stepThrough 6 = .ok (.bipush 8, 2) := by decide +kernel
theorem dX5_stepThrough_8 : decode cX5_stepThrough 8 = .ok (.ireturn, 1) := by decide +kernel
theorem dX5_stepThrough_9 : decode cX5_stepThrough 9 = .ok (.iload_n 0, 1) := by decide +kernel
theorem dX5_stepThrough_10 : decode cX5_stepThrough 10 = .ok (.bipush 62, 2) := by decide +kernel
theorem dX5_stepThrough_12 : decode cX5_stepThrough 12 = .ok (.if_icmp .ne 10, 3) := by decide +kernel
theorem dX5_stepThrough_15 : decode cX5_stepThrough 15 = .ok (.bipush 9, 2) := by decide +kernel
theorem dX5_stepThrough_17 : decode cX5_stepThrough 17 = .ok (.iload_n 1, 1) := by decide +kernel
theorem dX5_stepThrough_18 : decode cX5_stepThrough 18 = .ok (.iadd, 1) := by decide +kernel
theorem dX5_stepThrough_19 : decode cX5_stepThrough 19 = .ok (.goto 4, 3) := by decide +kernel
theorem dX5_stepThrough_22 : decode cX5_stepThrough 22 = .ok (.iload_n 1, 1) := by decide +kernel
theorem dX5_stepThrough_23 : decode cX5_stepThrough 23 = .ok (.ireturn, 1) := by decide +kernel
theorem dX5_stepsOfPair_0 : decode cX5_stepsOfPair 0 = .ok (.iload_n 1, 1) := by decide +kernel
theorem dX5_stepsOfPair_1 : decode cX5_stepsOfPair 1 = .ok (.ifCond .lt 19, 3) := by decide +kernel
theorem dX5_stepsOfPair_4 : decode cX5_stepsOfPair 4 = .ok (.iload_n 1, 1) := by decide +kernel
theorem dX5_stepsOfPair_5 : decode cX5_stepsOfPair 5 = .ok (.sipush 3600, 3) := by decide +kernel
theorem dX5_stepsOfPair_8 : decode cX5_stepsOfPair 8 = .ok (.if_icmp .ge 12, 3) := by decide +kernel
theorem dX5_stepsOfPair_11 : decode cX5_stepsOfPair 11 = .ok (.aload_n 0, 1) := by decide +kernel
theorem dX5_stepsOfPair_12 : decode cX5_stepsOfPair 12 = .ok (.getfield 15, 3) := by decide +kernel
theorem dX5_stepsOfPair_15 : decode cX5_stepsOfPair 15 = .ok (.iload_n 1, 1) := by decide +kernel
theorem dX5_stepsOfPair_16 : decode cX5_stepsOfPair 16 = .ok (.iaload, 1) := by decide +kernel
theorem dX5_stepsOfPair_17 : decode cX5_stepsOfPair 17 = .ok (.goto 5, 3) := by decide +kernel
theorem dX5_stepsOfPair_20 : decode cX5_stepsOfPair 20 = .ok (.ldc 50, 2) := by decide +kernel
theorem dX5_stepsOfPair_22 : decode cX5_stepsOfPair 22 = .ok (.ireturn, 1) := by decide +kernel
theorem dX5_stepsOf_0 : decode cX5_stepsOf 0 = .ok (.aload_n 0, 1) := by decide +kernel
theorem dX5_stepsOf_1 : decode cX5_stepsOf 1 = .ok (.iload_n 1, 1) := by decide +kernel
theorem dX5_stepsOf_2 : decode cX5_stepsOf 2 = .ok (.bipush 60, 2) := by decide +kernel
theorem dX5_stepsOf_4 : decode cX5_stepsOf 4 = .ok (.imul, 1) := by decide +kernel
theorem dX5_stepsOf_5 : decode cX5_stepsOf 5 = .ok (.iload_n 2, 1) := by decide +kernel
theorem dX5_stepsOf_6 : decode cX5_stepsOf 6 = .ok (.iadd, 1) := by decide +kernel
theorem dX5_stepsOf_7 : decode cX5_stepsOf 7 = .ok (.invokevirtual 106, 3) := by decide +kernel
theorem dX5_stepsOf_10 : decode cX5_stepsOf 10 = .ok (.ireturn, 1) := by decide +kernel
theorem dX5_setSteps_0 : decode cX5_setSteps 0 = .ok (.iload_n 1, 1) := by decide +kernel
theorem dX5_setSteps_1 : decode cX5_setSteps 1 = .ok (.bipush 60, 2) := by decide +kernel
theorem dX5_setSteps_3 : decode cX5_setSteps 3 = .ok (.imul, 1) := by decide +kernel
theorem dX5_setSteps_4 : decode cX5_setSteps 4 = .ok (.iload_n 2, 1) := by decide +kernel
theorem dX5_setSteps_5 : decode cX5_setSteps 5 = .ok (.iadd, 1) := by decide +kernel
theorem dX5_setSteps_6 : decode cX5_setSteps 6 = .ok (.istore 4, 2) := by decide +kernel
theorem dX5_setSteps_8 : decode cX5_setSteps 8 = .ok (.iload 4, 2) := by decide +kernel
theorem dX5_setSteps_10 : decode cX5_setSteps 10 = .ok (.ifCond .lt 19, 3) := by decide +kernel
theorem dX5_setSteps_13 : decode cX5_setSteps 13 = .ok (.iload 4, 2) := by decide +kernel
theorem dX5_setSteps_15 : decode cX5_setSteps 15 = .ok (.sipush 3600, 3) := by decide +kernel
theorem dX5_setSteps_18 : decode cX5_setSteps 18 = .ok (.if_icmp .ge 11, 3) := by decide +kernel
theorem dX5_setSteps_21 : decode cX5_setSteps 21 = .ok (.aload_n 0, 1) := by decide +kernel
theorem dX5_setSteps_22 : decode cX5_setSteps 22 = .ok (.getfield 15, 3) := by decide +kernel
theorem dX5_setSteps_25 : decode cX5_setSteps 25 = .ok (.iload 4, 2) := by decide +kernel
theorem dX5_setSteps_27 : decode cX5_setSteps 27 = .ok (.iload_n 3, 1) := by decide +kernel
theorem dX5_setSteps_28 : decode cX5_setSteps 28 = .ok (.iastore, 1) := by decide +kernel
theorem dX5_setSteps_29 : decode cX5_setSteps 29 = .ok (.return_, 1) := by decide +kernel
