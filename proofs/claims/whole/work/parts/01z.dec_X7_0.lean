theorem dX7_read_0 : decode cX7_read 0 = .ok (.aload_n 0, 1) := by decide +kernel
theorem dX7_read_1 : decode cX7_read 1 = .ok (.iconst 0, 1) := by decide +kernel
theorem dX7_read_2 : decode cX7_read 2 = .ok (.putfield 29, 3) := by decide +kernel
theorem dX7_read_5 : decode cX7_read 5 = .ok (.aload_n 0, 1) := by decide +kernel
theorem dX7_read_6 : decode cX7_read 6 = .ok (.iconst 0, 1) := by decide +kernel
theorem dX7_read_7 : decode cX7_read 7 = .ok (.putfield 33, 3) := by decide +kernel
theorem dX7_read_10 : decode cX7_read 10 = .ok (.aload_n 0, 1) := by decide +kernel
theorem dX7_read_11 : decode cX7_read 11 = .ok (.iload_n 1, 1) := by decide +kernel
theorem dX7_read_12 : decode cX7_read 12 = .ok (.putfield 36, 3) := by decide +kernel
theorem dX7_read_15 : decode cX7_read 15 = .ok (.aload_n 0, 1) := by decide +kernel
theorem dX7_read_16 : decode cX7_read 16 = .ok (.iconst 0, 1) := by decide +kernel
theorem dX7_read_17 : decode cX7_read 17 = .ok (.putfield 39, 3) := by decide +kernel
theorem dX7_read_20 : decode cX7_read 20 = .ok (.aload_n 0, 1) := by decide +kernel
theorem dX7_read_21 : decode cX7_read 21 = .ok (.bipush (-6), 2) := by decide +kernel
theorem dX7_read_23 : decode cX7_read 23 = .ok (.putfield 42, 3) := by decide +kernel
theorem dX7_read_26 : decode cX7_read 26 = .ok (.iconst 0, 1) := by decide +kernel
theorem dX7_read_27 : decode cX7_read 27 = .ok (.istore_n 2, 1) := by decide +kernel
theorem dX7_read_28 : decode cX7_read 28 = .ok (.iload_n 2, 1) := by decide +kernel
theorem dX7_read_29 : decode cX7_read 29 = .ok (.aload_n 0, 1) := by decide +kernel
theorem dX7_read_30 : decode cX7_read 30 = .ok (.getfield 9, 3) := by decide +kernel
theorem dX7_read_33 : decode cX7_read 33 = .ok (.invokevirtual 45, 3) := by decide +kernel
theorem dX7_read_36 : decode cX7_read 36 = .ok (.if_icmp .ge 27, 3) := by decide +kernel
theorem dX7_read_39 : decode cX7_read 39 = .ok (.aload_n 0, 1) := by decide +kernel
theorem dX7_read_40 : decode cX7_read 40 = .ok (.aload_n 0, 1) := by decide +kernel
theorem dX7_read_41 : decode cX7_read 41 = .ok (.getfield 9, 3) := by decide +kernel
theorem dX7_read_44 : decode cX7_read 44 = .ok (.iload_n 2, 1) := by decide +kernel
theorem dX7_read_45 : decode cX7_read 45 = .ok (.invokevirtual 51, 3) := by decide +kernel
theorem dX7_read_48 : decode cX7_read 48 = .ok (.iload_n 2, 1) := by decide +kernel
theorem dX7_read_49 : decode cX7_read 49 = .ok (.invokevirtual 55, 3) := by decide +kernel
theorem dX7_read_52 : decode cX7_read 52 = .ok (.ifCond .ne 5, 3) := by decide +kernel
theorem dX7_read_55 : decode cX7_read 55 = .ok (.iload_n 2, 1) := by decide +kernel
theorem dX7_read_56 : decode cX7_read 56 = .ok (.ireturn, 1) := by decide +kernel
theorem dX7_read_57 : decode cX7_read 57 = .ok (.iinc 2 1, 3) := by decide +kernel
theorem dX7_read_60 : decode cX7_read 60 = .ok (.goto (-32), 3) := by decide +kernel
theorem dX7_read_63 : decode cX7_read 63 = .ok (.aload_n 0, 1) := by decide +kernel
theorem dX7_read_64 : decode cX7_read 64 = .ok (.getfield 33, 3) := by decide +kernel
theorem dX7_read_67 : decode cX7_read 67 = .ok (.bipush 6, 2) := by decide +kernel
theorem dX7_read_69 : decode cX7_read 69 = .ok (.if_icmp .ne 8, 3) := by decide +kernel
theorem dX7_read_72 : decode cX7_read 72 = .ok (.bipush (-6), 2) := by decide +kernel
theorem dX7_read_74 : decode cX7_read 74 = .ok (.goto 10, 3) := by decide +kernel
theorem dX7_read_77 : decode cX7_read 77 = .ok (.aload_n 0, 1) := by decide +kernel
theorem dX7_read_78 : decode cX7_read 78 = .ok (.getfield 9, 3) := by decide +kernel
theorem dX7_read_81 : decode cX7_read 81 = .ok (.invokevirtual 45, 3) := by decide +kernel
theorem dX7_read_84 : decode cX7_read 84 = .ok (.ireturn, 1) := by decide +kernel
theorem dX7_valuesRead_0 : decode cX7_valuesRead 0 = .ok (.aload_n 0, 1) := by decide +kernel
theorem dX7_valuesRead_1 : decode cX7_valuesRead 1 = .ok (.getfield 39, 3) := by decide +kernel
theorem dX7_valuesRead_4 : decode cX7_valuesRead 4 = .ok (.ireturn, 1) := by decide +kernel
theorem dX7_misfitPlace_0 : decode cX7_misfitPlace 0 = .ok (.aload_n 0, 1) := by decide +kernel
theorem dX7_misfitPlace_1 : decode cX7_misfitPlace 1 = .ok (.getfield 42, 3) := by decide +kernel
theorem dX7_misfitPlace_4 : decode cX7_misfitPlace 4 = .ok (.ireturn, 1) := by decide +kernel
theorem dX7_goesOn_0 : decode cX7_goesOn 0 = .ok (.aload_n 0, 1) := by decide +kernel
theorem dX7_goesOn_1 : decode cX7_goesOn 1 = .ok (.getfield 33, 3) := by decide +kernel
theorem dX7_goesOn_4 : decode cX7_goesOn 4 = .ok (.tableswitch 112 0 5 #[40, 47, 54, 61, 68, 87], 40) := by decide +kernel
theorem dX7_goesOn_44 : decode cX7_goesOn 44 = .ok (.aload_n 0, 1) := by decide +kernel
theorem dX7_goesOn_45 : decode cX7_goesOn 45 = .ok (.iload_n 1, 1) := by decide +kernel
theorem dX7_goesOn_46 : decode cX7_goesOn 46 = .ok (.iload_n 2, 1) := by decide +kernel
theorem dX7_goesOn_47 : decode cX7_goesOn 47 = .ok (.invokevirtual 59, 3) := by decide +kernel
theorem dX7_goesOn_50 : decode cX7_goesOn 50 = .ok (.ireturn, 1) := by decide +kernel
theorem dX7_goesOn_51 : decode cX7_goesOn 51 = .ok (.aload_n 0, 1) := by decide +kernel
theorem dX7_goesOn_52 : decode cX7_goesOn 52 = .ok (.iload_n 1, 1) := by decide +kernel
theorem dX7_goesOn_53 : decode cX7_goesOn 53 = .ok (.iload_n 2, 1) := by decide +kernel
theorem dX7_goesOn_54 : decode cX7_goesOn 54 = .ok (.invokevirtual 62, 3) := by decide +kernel
theorem dX7_goesOn_57 : decode cX7_goesOn 57 = .ok (.ireturn, 1) := by decide +kernel
theorem dX7_goesOn_58 : decode cX7_goesOn 58 = .ok (.aload_n 0, 1) := by decide +kernel
theorem dX7_goesOn_59 : decode cX7_goesOn 59 = .ok (.iload_n 1, 1) := by decide +kernel
theorem dX7_goesOn_60 : decode cX7_goesOn 60 = .ok (.iload_n 2, 1) := by decide +kernel
theorem dX7_goesOn_61 : decode cX7_goesOn 61 = .ok (.invokevirtual 65, 3) := by decide +kernel
theorem dX7_goesOn_64 : decode cX7_goesOn 64 = .ok (.ireturn, 1) := by decide +kernel
theorem dX7_goesOn_65 : decode cX7_goesOn 65 = .ok (.aload_n 0, 1) := by decide +kernel
theorem dX7_goesOn_66 : decode cX7_goesOn 66 = .ok (.iload_n 1, 1) := by decide +kernel
theorem dX7_goesOn_67 : decode cX7_goesOn 67 = .ok (.iload_n 2, 1) := by decide +kernel
theorem dX7_goesOn_68 : decode cX7_goesOn 68 = .ok (.invokevirtual 68, 3) := by decide +kernel
theorem dX7_goesOn_71 : decode cX7_goesOn 71 = .ok (.ireturn, 1) := by decide +kernel
theorem dX7_goesOn_72 : decode cX7_goesOn 72 = .ok (.iload_n 1, 1) := by decide +kernel
theorem dX7_goesOn_73 : decode cX7_goesOn 73 = .ok (.bipush 93, 2) := by decide +kernel
theorem dX7_goesOn_75 : decode cX7_goesOn 75 = .ok (.if_icmp .ne 14, 3) := by decide +kernel
theorem dX7_goesOn_78 : decode cX7_goesOn 78 = .ok (.aload_n 0, 1) := by decide +kernel
theorem dX7_goesOn_79 : decode cX7_goesOn 79 = .ok (.invokevirtual 71, 3) := by decide +kernel
theorem dX7_goesOn_82 : decode cX7_goesOn 82 = .ok (.ifCond .eq 7, 3) := by decide +kernel
theorem dX7_goesOn_85 : decode cX7_goesOn 85 = .ok (.iconst 1, 1) := by decide +kernel
theorem dX7_goesOn_86 : decode cX7_goesOn 86 = .ok (.goto 4, 3) := by decide +kernel
theorem dX7_goesOn_89 : decode cX7_goesOn 89 = .ok (.iconst 0, 1) := by decide +kernel
theorem dX7_goesOn_90 : decode cX7_goesOn 90 = .ok (.ireturn, 1) := by decide +kernel
theorem dX7_goesOn_91 : decode cX7_goesOn 91 = .ok (.iload_n 1, 1) := by decide +kernel
theorem dX7_goesOn_92 : decode cX7_goesOn 92 = .ok (.bipush 97, 2) := by decide +kernel
theorem dX7_goesOn_94 : decode cX7_goesOn 94 = .ok (.if_icmp .lt 20, 3) := by decide +kernel
theorem dX7_goesOn_97 : decode cX7_goesOn 97 = .ok (.iload_n 1, 1) := by decide +kernel
theorem dX7_goesOn_98 : decode cX7_goesOn 98 = .ok (.bipush 122, 2) := by decide +kernel
theorem dX7_goesOn_100 : decode cX7_goesOn 100 = .ok (.if_icmp .gt 14, 3) := by decide +kernel
theorem dX7_goesOn_103 : decode cX7_goesOn 103 = .ok (.aload_n 0, 1) := by decide +kernel
theorem dX7_goesOn_104 : decode cX7_goesOn 104 = .ok (.invokevirtual 75, 3) := by decide +kernel
theorem dX7_goesOn_107 : decode cX7_goesOn 107 = .ok (.ifCond .eq 7, 3) := by decide +kernel
theorem dX7_goesOn_110 : decode cX7_goesOn 110 = .ok (.iconst 1, 1) := by decide +kernel
theorem dX7_goesOn_111 : decode cX7_goesOn 111 = .ok (.goto 4, 3) := by decide +kernel
theorem dX7_goesOn_114 : decode cX7_goesOn 114 = .ok (.iconst 0, 1) := by decide +kernel
theorem dX7_goesOn_115 : decode cX7_goesOn 115 = .ok (.ireturn, 1) := by decide +kernel
theorem dX7_goesOn_116 : decode cX7_goesOn 116 = .ok (.iconst 0, 1) := by decide +kernel
theorem dX7_goesOn_117 : decode cX7_goesOn 117 = .ok (.ireturn, 1) := by decide +kernel
theorem dX7_beginValue_0 : decode cX7_beginValue 0 = .ok (.iload_n 1, 1) := by decide +kernel
theorem dX7_beginValue_1 : decode cX7_beginValue 1 = .ok (.invokestatic 78, 3) := by decide +kernel
theorem dX7_beginValue_4 : decode cX7_beginValue 4 = .ok (.istore_n 3, 1) := by decide +kernel
theorem dX7_beginValue_5 : decode cX7_beginValue 5 = .ok (.iload_n 3, 1) := by decide +kernel
theorem dX7_beginValue_6 : decode cX7_beginValue 6 = .ok (.bipush (-6), 2) := by decide +kernel
theorem dX7_beginValue_8 : decode cX7_beginValue 8 = .ok (.if_icmp .ne 5, 3) := by decide +kernel
theorem dX7_beginValue_11 : decode cX7_beginValue 11 = .ok (.iconst 0, 1) := by decide +kernel
theorem dX7_beginValue_12 : decode cX7_beginValue 12 = .ok (.ireturn, 1) := by decide +kernel
theorem dX7_beginValue_13 : decode cX7_beginValue 13 = .ok (.aload_n 0, 1) := by decide +kernel
theorem dX7_beginValue_14 : decode cX7_beginValue 14 = .ok (.dup, 1) := by decide +kernel
theorem dX7_beginValue_15 : decode cX7_beginValue 15 = .ok (.getfield 39, 3) := by decide +kernel
theorem dX7_beginValue_18 : decode cX7_beginValue 18 = .ok (.iconst 1, 1) := by decide +kernel
theorem dX7_beginValue_19 : decode cX7_beginValue 19 = .ok (.iadd, 1) := by decide +kernel
theorem dX7_beginValue_20 : decode cX7_beginValue 20 = .ok (.putfield 39, 3) := by decide +kernel
theorem dX7_beginValue_23 : decode cX7_beginValue 23 = .ok (.aload_n 0, 1) := by decide +kernel
theorem dX7_beginValue_24 : decode cX7_beginValue 24 = .ok (.iload_n 3, 1) := by decide +kernel
theorem dX7_beginValue_25 : decode cX7_beginValue 25 = .ok (.iload_n 2, 1) := by decide +kernel
theorem dX7_beginValue_26 : decode cX7_beginValue 26 = .ok (.invokevirtual 81, 3) := by decide +kernel
theorem dX7_beginValue_29 : decode cX7_beginValue 29 = .ok (.istore 4, 2) := by decide +kernel
theorem dX7_beginValue_31 : decode cX7_beginValue 31 = .ok (.iload_n 3, 1) := by decide +kernel
theorem dX7_beginValue_32 : decode cX7_beginValue 32 = .ok (.bipush 110, 2) := by decide +kernel
theorem dX7_beginValue_34 : decode cX7_beginValue 34 = .ok (.if_icmp .eq 9, 3) := by decide +kernel
theorem dX7_beginValue_37 : decode cX7_beginValue 37 = .ok (.iload_n 3, 1) := by decide +kernel
theorem dX7_beginValue_38 : decode cX7_beginValue 38 = .ok (.bipush 116, 2) := by decide +kernel
theorem dX7_beginValue_40 : decode cX7_beginValue 40 = .ok (.if_icmp .ne 8, 3) := by decide +kernel
theorem dX7_beginValue_43 : decode cX7_beginValue 43 = .ok (.aload_n 0, 1) := by decide +kernel
theorem dX7_beginValue_44 : decode cX7_beginValue 44 = .ok (.invokevirtual 75, 3) := by decide +kernel
theorem dX7_beginValue_47 : decode cX7_beginValue 47 = .ok (.ireturn, 1) := by decide +kernel
theorem dX7_beginValue_48 : decode cX7_beginValue 48 = .ok (.iload_n 3, 1) := by decide +kernel
theorem dX7_beginValue_49 : decode cX7_beginValue 49 = .ok (.bipush 115, 2) := by decide +kernel
theorem dX7_beginValue_51 : decode cX7_beginValue 51 = .ok (.if_icmp .ne 10, 3) := by decide +kernel
theorem dX7_beginValue_54 : decode cX7_beginValue 54 = .ok (.aload_n 0, 1) := by decide +kernel
theorem dX7_beginValue_55 : decode cX7_beginValue 55 = .ok (.iconst 5, 1) := by decide +kernel
theorem dX7_beginValue_56 : decode cX7_beginValue 56 = .ok (.putfield 33, 3) := by decide +kernel
theorem dX7_beginValue_59 : decode cX7_beginValue 59 = .ok (.iconst 1, 1) := by decide +kernel
theorem dX7_beginValue_60 : decode cX7_beginValue 60 = .ok (.ireturn, 1) := by decide +kernel
theorem dX7_beginValue_61 : decode cX7_beginValue 61 = .ok (.aload_n 0, 1) := by decide +kernel
theorem dX7_beginValue_62 : decode cX7_beginValue 62 = .ok (.iload_n 3, 1) := by decide +kernel
theorem dX7_beginValue_63 : decode cX7_beginValue 63 = .ok (.iload 4, 2) := by decide +kernel
theorem dX7_beginValue_65 : decode cX7_beginValue 65 = .ok (.invokevirtual 85, 3) := by decide +kernel
theorem dX7_beginValue_68 : decode cX7_beginValue 68 = .ok (.ireturn, 1) := by decide +kernel
theorem dX7_kindBegunBy_0 : decode cX7_kindBegunBy 0 = .ok (.iload_n 0, 1) := by decide +kernel
theorem dX7_kindBegunBy_1 : decode cX7_kindBegunBy 1 = .ok (.bipush 48, 2) := by decide +kernel
theorem dX7_kindBegunBy_3 : decode cX7_kindBegunBy 3 = .ok (.if_icmp .lt 12, 3) := by decide +kernel
theorem dX7_kindBegunBy_6 : decode cX7_kindBegunBy 6 = .ok (.iload_n 0, 1) := by decide +kernel
theorem dX7_kindBegunBy_7 : decode cX7_kindBegunBy 7 = .ok (.bipush 57, 2) := by decide +kernel
theorem dX7_kindBegunBy_9 : decode cX7_kindBegunBy 9 = .ok (.if_icmp .gt 6, 3) := by decide +kernel
theorem dX7_kindBegunBy_12 : decode cX7_kindBegunBy 12 = .ok (.bipush 110, 2) := by decide +kernel
theorem dX7_kindBegunBy_14 : decode cX7_kindBegunBy 14 = .ok (.ireturn, 1) := by decide +kernel
theorem dX7_kindBegunBy_15 : decode cX7_kindBegunBy 15 = .ok (.iload_n 0, 1) := by decide +kernel
theorem dX7_kindBegunBy_16 : decode cX7_kindBegunBy 16 = .ok (.lookupswitch 75 #[(36, 63), (40, 72), (70, 60), (84, 60), (91, 69), (123, 66)], 60) := by decide +kernel
theorem dX7_kindBegunBy_76 : decode cX7_kindBegunBy 76 = .ok (.bipush 116, 2) := by decide +kernel
theorem dX7_kindBegunBy_78 : decode cX7_kindBegunBy 78 = .ok (.ireturn, 1) := by decide +kernel
theorem dX7_kindBegunBy_79 : decode cX7_kindBegunBy 79 = .ok (.bipush 115, 2) := by decide +kernel
theorem dX7_kindBegunBy_81 : decode cX7_kindBegunBy 81 = .ok (.ireturn, 1) := by decide +kernel
theorem dX7_kindBegunBy_82 : decode cX7_kindBegunBy 82 = .ok (.bipush 123, 2) := by decide +kernel
theorem dX7_kindBegunBy_84 : decode cX7_kindBegunBy 84 = .ok (.ireturn, 1) := by decide +kernel
theorem dX7_kindBegunBy_85 : decode cX7_kindBegunBy 85 = .ok (.bipush 91, 2) := by decide +kernel
theorem dX7_kindBegunBy_87 : decode cX7_kindBegunBy 87 = .ok (.ireturn, 1) := by decide +kernel
theorem dX7_kindBegunBy_88 : decode cX7_kindBegunBy 88 = .ok (.bipush 42, 2) := by decide +kernel
theorem dX7_kindBegunBy_90 : decode cX7_kindBegunBy 90 = .ok (.ireturn, 1) := by decide +kernel
theorem dX7_kindBegunBy_91 : decode cX7_kindBegunBy 91 = .ok (.bipush (-6), 2) := by decide +kernel
theorem dX7_kindBegunBy_93 : decode cX7_kindBegunBy 93 = .ok (.ireturn, 1) := by decide +kernel
theorem dX7_nodeHeldAgainst_0 : decode cX7_nodeHeldAgainst 0 = .ok (.aload_n 0, 1) := by decide +kernel
theorem dX7_nodeHeldAgainst_1 : decode cX7_nodeHeldAgainst 1 = .ok (.getfield 36, 3) := by decide +kernel
theorem dX7_nodeHeldAgainst_4 : decode cX7_nodeHeldAgainst 4 = .ok (.bipush (-7), 2) := by decide +kernel
theorem dX7_nodeHeldAgainst_6 : decode cX7_nodeHeldAgainst 6 = .ok (.if_icmp .eq 19, 3) := by decide +kernel
theorem dX7_nodeHeldAgainst_9 : decode cX7_nodeHeldAgainst 9 = .ok (.aload_n 0, 1) := by decide +kernel
theorem dX7_nodeHeldAgainst_10 : decode cX7_nodeHeldAgainst 10 = .ok (.getfield 15, 3) := by decide +kernel
theorem dX7_nodeHeldAgainst_13 : decode cX7_nodeHeldAgainst 13 = .ok (.aload_n 0, 1) := by decide +kernel
theorem dX7_nodeHeldAgainst_14 : decode cX7_nodeHeldAgainst 14 = .ok (.getfield 36, 3) := by decide +kernel
theorem dX7_nodeHeldAgainst_17 : decode cX7_nodeHeldAgainst 17 = .ok (.invokevirtual 88, 3) := by decide +kernel
theorem dX7_nodeHeldAgainst_20 : decode cX7_nodeHeldAgainst 20 = .ok (.bipush 46, 2) := by decide +kernel
theorem dX7_nodeHeldAgainst_22 : decode cX7_nodeHeldAgainst 22 = .ok (.if_icmp .ne 6, 3) := by decide +kernel
theorem dX7_nodeHeldAgainst_25 : decode cX7_nodeHeldAgainst 25 = .ok (.bipush (-7), 2) := by decide +kernel
theorem dX7_nodeHeldAgainst_27 : decode cX7_nodeHeldAgainst 27 = .ok (.ireturn, 1) := by decide +kernel
theorem dX7_nodeHeldAgainst_28 : decode cX7_nodeHeldAgainst 28 = .ok (.aload_n 0, 1) := by decide +kernel
theorem dX7_nodeHeldAgainst_29 : decode cX7_nodeHeldAgainst 29 = .ok (.getfield 15, 3) := by decide +kernel
theorem dX7_nodeHeldAgainst_32 : decode cX7_nodeHeldAgainst 32 = .ok (.aload_n 0, 1) := by decide +kernel
theorem dX7_nodeHeldAgainst_33 : decode cX7_nodeHeldAgainst 33 = .ok (.getfield 36, 3) := by decide +kernel
theorem dX7_nodeHeldAgainst_36 : decode cX7_nodeHeldAgainst 36 = .ok (.invokevirtual 88, 3) := by decide +kernel
theorem dX7_nodeHeldAgainst_39 : decode cX7_nodeHeldAgainst 39 = .ok (.iload_n 1, 1) := by decide +kernel
theorem dX7_nodeHeldAgainst_40 : decode cX7_nodeHeldAgainst 40 = .ok (.if_icmp .ne 8, 3) := by decide +kernel
theorem dX7_nodeHeldAgainst_43 : decode cX7_nodeHeldAgainst 43 = .ok (.aload_n 0, 1) := by decide +kernel
theorem dX7_nodeHeldAgainst_44 : decode cX7_nodeHeldAgainst 44 = .ok (.getfield 36, 3) := by decide +kernel
theorem dX7_nodeHeldAgainst_47 : decode cX7_nodeHeldAgainst 47 = .ok (.ireturn, 1) := by decide +kernel
theorem dX7_nodeHeldAgainst_48 : decode cX7_nodeHeldAgainst 48 = .ok (.aload_n 0, 1) := by decide +kernel
theorem dX7_nodeHeldAgainst_49 : decode cX7_nodeHeldAgainst 49 = .ok (.iload_n 2, 1) := by decide +kernel
theorem dX7_nodeHeldAgainst_50 : decode cX7_nodeHeldAgainst 50 = .ok (.invokevirtual 93, 3) := by decide +kernel
theorem dX7_nodeHeldAgainst_53 : decode cX7_nodeHeldAgainst 53 = .ok (.bipush (-7), 2) := by decide +kernel
theorem dX7_nodeHeldAgainst_55 : decode cX7_nodeHeldAgainst 55 = .ok (.ireturn, 1) := by decide +kernel
theorem dX7_noteMisfit_0 : decode cX7_noteMisfit 0 = .ok (.aload_n 0, 1) := by decide +kernel
theorem dX7_noteMisfit_1 : decode cX7_noteMisfit 1 = .ok (.getfield 42, 3) := by decide +kernel
theorem dX7_noteMisfit_4 : decode cX7_noteMisfit 4 = .ok (.bipush (-6), 2) := by decide +kernel
theorem dX7_noteMisfit_6 : decode cX7_noteMisfit 6 = .ok (.if_icmp .ne 8, 3) := by decide +kernel
theorem dX7_noteMisfit_9 : decode cX7_noteMisfit 9 = .ok (.aload_n 0, 1) := by decide +kernel
theorem dX7_noteMisfit_10 : decode cX7_noteMisfit 10 = .ok (.iload_n 1, 1) := by decide +kernel
theorem dX7_noteMisfit_11 : decode cX7_noteMisfit 11 = .ok (.putfield 42, 3) := by decide +kernel
theorem dX7_noteMisfit_14 : decode cX7_noteMisfit 14 = .ok (.return_, 1) := by decide +kernel
theorem dX7_openValue_0 : decode cX7_openValue 0 = .ok (.aload_n 0, 1) := by decide +kernel
theorem dX7_openValue_1 : decode cX7_openValue 1 = .ok (.getfield 29, 3) := by decide +kernel
theorem dX7_openValue_4 : decode cX7_openValue 4 = .ok (.ifCond .lt 12, 3) := by decide +kernel
theorem dX7_openValue_7 : decode cX7_openValue 7 = .ok (.aload_n 0, 1) := by decide +kernel
theorem dX7_openValue_8 : decode cX7_openValue 8 = .ok (.getfield 29, 3) := by decide +kernel
theorem dX7_openValue_11 : decode cX7_openValue 11 = .ok (.bipush 100, 2) := by decide +kernel
theorem dX7_openValue_13 : decode cX7_openValue 13 = .ok (.if_icmp .lt 5, 3) := by decide +kernel
theorem dX7_openValue_16 : decode cX7_openValue 16 = .ok (.iconst 0, 1) := by decide +kernel
theorem dX7_openValue_17 : decode cX7_openValue 17 = .ok (.ireturn, 1) := by decide +kernel
theorem dX7_openValue_18 : decode cX7_openValue 18 = .ok (.aload_n 0, 1) := by decide +kernel
theorem dX7_openValue_19 : decode cX7_openValue 19 = .ok (.getfield 19, 3) := by decide +kernel
theorem dX7_openValue_22 : decode cX7_openValue 22 = .ok (.aload_n 0, 1) := by decide +kernel
theorem dX7_openValue_23 : decode cX7_openValue 23 = .ok (.getfield 29, 3) := by decide +kernel
theorem dX7_openValue_26 : decode cX7_openValue 26 = .ok (.iload_n 1, 1) := by decide +kernel
theorem dX7_openValue_27 : decode cX7_openValue 27 = .ok (.iastore, 1) := by decide +kernel
theorem dX7_openValue_28 : decode cX7_openValue 28 = .ok (.aload_n 0, 1) := by decide +kernel
theorem dX7_openValue_29 : decode cX7_openValue 29 = .ok (.getfield 23, 3) := by decide +kernel
theorem dX7_openValue_32 : decode cX7_openValue 32 = .ok (.aload_n 0, 1) := by decide +kernel
theorem dX7_openValue_33 : decode cX7_openValue 33 = .ok (.getfield 29, 3) := by decide +kernel
theorem dX7_openValue_36 : decode cX7_openValue 36 = .ok (.iload_n 2, 1) := by decide +kernel
theorem dX7_openValue_37 : decode cX7_openValue 37 = .ok (.iastore, 1) := by decide +kernel
theorem dX7_openValue_38 : decode cX7_openValue 38 = .ok (.aload_n 0, 1) := by decide +kernel
theorem dX7_openValue_39 : decode cX7_openValue 39 = .ok (.getfield 26, 3) := by decide +kernel
theorem dX7_openValue_42 : decode cX7_openValue 42 = .ok (.aload_n 0, 1) := by decide +kernel
theorem dX7_openValue_43 : decode cX7_openValue 43 = .ok (.getfield 29, 3) := by decide +kernel
theorem dX7_openValue_46 : decode cX7_openValue 46 = .ok (.iconst 0, 1) := by decide +kernel
theorem dX7_openValue_47 : decode cX7_openValue 47 = .ok (.iastore, 1) := by decide +kernel
theorem dX7_openValue_48 : decode cX7_openValue 48 = .ok (.aload_n 0, 1) := by decide +kernel
theorem dX7_openValue_49 : decode cX7_openValue 49 = .ok (.dup, 1) := by decide +kernel
theorem dX7_openValue_50 : decode cX7_openValue 50 = .ok (.getfield 29, 3) := by decide +kernel
theorem dX7_openValue_53 : decode cX7_openValue 53 = .ok (.iconst 1, 1) := by decide +kernel
theorem dX7_openValue_54 : decode cX7_openValue 54 = .ok (.iadd, 1) := by decide +kernel
theorem dX7_openValue_55 : decode cX7_openValue 55 = .ok (.putfield 29, 3) := by decide +kernel
theorem dX7_openValue_58 : decode cX7_openValue 58 = .ok (.iload_n 1, 1) := by decide +kernel
theorem dX7_openValue_59 : decode cX7_openValue 59 = .ok (.bipush 123, 2) := by decide +kernel
theorem dX7_openValue_61 : decode cX7_openValue 61 = .ok (.if_icmp .ne 11, 3) := by decide +kernel
theorem dX7_openValue_64 : decode cX7_openValue 64 = .ok (.aload_n 0, 1) := by decide +kernel
theorem dX7_openValue_65 : decode cX7_openValue 65 = .ok (.iconst 2, 1) := by decide +kernel
theorem dX7_openValue_66 : decode cX7_openValue 66 = .ok (.putfield 33, 3) := by decide +kernel
theorem dX7_openValue_69 : decode cX7_openValue 69 = .ok (.goto 18, 3) := by decide +kernel
theorem dX7_openValue_72 : decode cX7_openValue 72 = .ok (.aload_n 0, 1) := by decide +kernel
theorem dX7_openValue_73 : decode cX7_openValue 73 = .ok (.iload_n 1, 1) := by decide +kernel
theorem dX7_openValue_74 : decode cX7_openValue 74 = .ok (.bipush 91, 2) := by decide +kernel
theorem dX7_openValue_76 : decode cX7_openValue 76 = .ok (.if_icmp .ne 7, 3) := by decide +kernel
theorem dX7_openValue_79 : decode cX7_openValue 79 = .ok (.iconst 3, 1) := by decide +kernel
theorem dX7_openValue_80 : decode cX7_openValue 80 = .ok (.goto 4, 3) := by decide +kernel
theorem dX7_openValue_83 : decode cX7_openValue 83 = .ok (.iconst 1, 1) := by decide +kernel
theorem dX7_openValue_84 : decode cX7_openValue 84 = .ok (.putfield 33, 3) := by decide +kernel
theorem dX7_openValue_87 : decode cX7_openValue 87 = .ok (.iconst 1, 1) := by decide +kernel
theorem dX7_openValue_88 : decode cX7_openValue 88 = .ok (.ireturn, 1) := by decide +kernel
theorem dX7_closeValue_0 : decode cX7_closeValue 0 = .ok (.aload_n 0, 1) := by decide +kernel
theorem dX7_closeValue_1 : decode cX7_closeValue 1 = .ok (.getfield 29, 3) := by decide +kernel
theorem dX7_closeValue_4 : decode cX7_closeValue 4 = .ok (.ifCond .le 13, 3) := by decide +kernel
theorem dX7_closeValue_7 : decode cX7_closeValue 7 = .ok (.aload_n 0, 1) := by decide +kernel
theorem dX7_closeValue_8 : decode cX7_closeValue 8 = .ok (.dup, 1) := by decide +kernel
theorem dX7_closeValue_9 : decode cX7_closeValue 9 = .ok (.getfield 29, 3) := by decide +kernel
theorem dX7_closeValue_12 : decode cX7_closeValue 12 = .ok (.iconst 1, 1) := by decide +kernel
theorem dX7_closeValue_13 : decode cX7_closeValue 13 = .ok (.isub, 1) := by decide +kernel
theorem dX7_closeValue_14 : decode cX7_closeValue 14 = .ok (.putfield 29, 3) := by decide +kernel
theorem dX7_closeValue_17 : decode cX7_closeValue 17 = .ok (.aload_n 0, 1) := by decide +kernel
theorem dX7_closeValue_18 : decode cX7_closeValue 18 = .ok (.invokevirtual 75, 3) := by decide +kernel
theorem dX7_closeValue_21 : decode cX7_closeValue 21 = .ok (.ireturn, 1) := by decide +kernel
theorem dX7_endValue_0 : decode cX7_endValue 0 = .ok (.aload_n 0, 1) := by decide +kernel
theorem dX7_endValue_1 : decode cX7_endValue 1 = .ok (.invokevirtual 97, 3) := by decide +kernel
theorem dX7_endValue_4 : decode cX7_endValue 4 = .ok (.ifCond .ne 12, 3) := by decide +kernel
theorem dX7_endValue_7 : decode cX7_endValue 7 = .ok (.aload_n 0, 1) := by decide +kernel
theorem dX7_endValue_8 : decode cX7_endValue 8 = .ok (.bipush 6, 2) := by decide +kernel
theorem dX7_endValue_10 : decode cX7_endValue 10 = .ok (.putfield 33, 3) := by decide +kernel
theorem dX7_endValue_13 : decode cX7_endValue 13 = .ok (.goto 52, 3) := by decide +kernel
theorem dX7_endValue_16 : decode cX7_endValue 16 = .ok (.aload_n 0, 1) := by decide +kernel
theorem dX7_endValue_17 : decode cX7_endValue 17 = .ok (.getfield 19, 3) := by decide +kernel
theorem dX7_endValue_20 : decode cX7_endValue 20 = .ok (.aload_n 0, 1) := by decide +kernel
theorem dX7_endValue_21 : decode cX7_endValue 21 = .ok (.getfield 29, 3) := by decide +kernel
theorem dX7_endValue_24 : decode cX7_endValue 24 = .ok (.iconst 1, 1) := by decide +kernel
theorem dX7_endValue_25 : decode cX7_endValue 25 = .ok (.isub, 1) := by decide +kernel
theorem dX7_endValue_26 : decode cX7_endValue 26 = .ok (.iaload, 1) := by decide +kernel
theorem dX7_endValue_27 : decode cX7_endValue 27 = .ok (.bipush 123, 2) := by decide +kernel
theorem dX7_endValue_29 : decode cX7_endValue 29 = .ok (.if_icmp .ne 11, 3) := by decide +kernel
theorem dX7_endValue_32 : decode cX7_endValue 32 = .ok (.aload_n 0, 1) := by decide +kernel
theorem dX7_endValue_33 : decode cX7_endValue 33 = .ok (.iconst 2, 1) := by decide +kernel
theorem dX7_endValue_34 : decode cX7_endValue 34 = .ok (.putfield 33, 3) := by decide +kernel
theorem dX7_endValue_37 : decode cX7_endValue 37 = .ok (.goto 28, 3) := by decide +kernel
theorem dX7_endValue_40 : decode cX7_endValue 40 = .ok (.aload_n 0, 1) := by decide +kernel
theorem dX7_endValue_41 : decode cX7_endValue 41 = .ok (.aload_n 0, 1) := by decide +kernel
theorem dX7_endValue_42 : decode cX7_endValue 42 = .ok (.getfield 19, 3) := by decide +kernel
theorem dX7_endValue_45 : decode cX7_endValue 45 = .ok (.aload_n 0, 1) := by decide +kernel
theorem dX7_endValue_46 : decode cX7_endValue 46 = .ok (.getfield 29, 3) := by decide +kernel
theorem dX7_endValue_49 : decode cX7_endValue 49 = .ok (.iconst 1, 1) := by decide +kernel
theorem dX7_endValue_50 : decode cX7_endValue 50 = .ok (.isub, 1) := by decide +kernel
theorem dX7_endValue_51 : decode cX7_endValue 51 = .ok (.iaload, 1) := by decide +kernel
theorem dX7_endValue_52 : decode cX7_endValue 52 = .ok (.bipush 91, 2) := by decide +kernel
theorem dX7_endValue_54 : decode cX7_endValue 54 = .ok (.if_icmp .ne 7, 3) := by decide +kernel
theorem dX7_endValue_57 : decode cX7_endValue 57 = .ok (.iconst 4, 1) := by decide +kernel
theorem dX7_endValue_58 : decode cX7_endValue 58 = .ok (.goto 4, 3) := by decide +kernel
theorem dX7_endValue_61 : decode cX7_endValue 61 = .ok (.iconst 1, 1) := by decide +kernel
theorem dX7_endValue_62 : decode cX7_endValue 62 = .ok (.putfield 33, 3) := by decide +kernel
theorem dX7_endValue_65 : decode cX7_endValue 65 = .ok (.iconst 1, 1) := by decide +kernel
theorem dX7_endValue_66 : decode cX7_endValue 66 = .ok (.ireturn, 1) := by decide +kernel
theorem dX7_isInnermostKnown_0 : decode cX7_isInnermostKnown 0 = .ok (.aload_n 0, 1) := by decide +kernel
theorem dX7_isInnermostKnown_1 : decode cX7_isInnermostKnown 1 = .ok (.getfield 29, 3) := by decide +kernel
theorem dX7_isInnermostKnown_4 : decode cX7_isInnermostKnown 4 = .ok (.ifCond .le 16, 3) := by decide +kernel
theorem dX7_isInnermostKnown_7 : decode cX7_isInnermostKnown 7 = .ok (.aload_n 0, 1) := by decide +kernel
theorem dX7_isInnermostKnown_8 : decode cX7_isInnermostKnown 8 = .ok (.getfield 29, 3) := by decide +kernel
theorem dX7_isInnermostKnown_11 : decode cX7_isInnermostKnown 11 = .ok (.bipush 100, 2) := by decide +kernel
theorem dX7_isInnermostKnown_13 : decode cX7_isInnermostKnown 13 = .ok (.if_icmp .gt 7, 3) := by decide +kernel
theorem dX7_isInnermostKnown_16 : decode cX7_isInnermostKnown 16 = .ok (.iconst 1, 1) := by decide +kernel
theorem dX7_isInnermostKnown_17 : decode cX7_isInnermostKnown 17 = .ok (.goto 4, 3) := by decide +kernel
theorem dX7_isInnermostKnown_20 : decode cX7_isInnermostKnown 20 = .ok (.iconst 0, 1) := by decide +kernel
theorem dX7_isInnermostKnown_21 : decode cX7_isInnermostKnown 21 = .ok (.ireturn, 1) := by decide +kernel
theorem dX7_readItem_0 : decode cX7_readItem 0 = .ok (.iload_n 1, 1) := by decide +kernel
theorem dX7_readItem_1 : decode cX7_readItem 1 = .ok (.bipush 41, 2) := by decide +kernel
theorem dX7_readItem_3 : decode cX7_readItem 3 = .ok (.if_icmp .ne 8, 3) := by decide +kernel
theorem dX7_readItem_6 : decode cX7_readItem 6 = .ok (.aload_n 0, 1) := by decide +kernel
theorem dX7_readItem_7 : decode cX7_readItem 7 = .ok (.invokevirtual 71, 3) := by decide +kernel
theorem dX7_readItem_10 : decode cX7_readItem 10 = .ok (.ireturn, 1) := by decide +kernel
theorem dX7_readItem_11 : decode cX7_readItem 11 = .ok (.aload_n 0, 1) := by decide +kernel
theorem dX7_readItem_12 : decode cX7_readItem 12 = .ok (.aload_n 0, 1) := by decide +kernel
theorem dX7_readItem_13 : decode cX7_readItem 13 = .ok (.iconst 0, 1) := by decide +kernel
theorem dX7_readItem_14 : decode cX7_readItem 14 = .ok (.invokevirtual 100, 3) := by decide +kernel
theorem dX7_readItem_17 : decode cX7_readItem 17 = .ok (.putfield 36, 3) := by decide +kernel
theorem dX7_readItem_20 : decode cX7_readItem 20 = .ok (.aload_n 0, 1) := by decide +kernel
theorem dX7_readItem_21 : decode cX7_readItem 21 = .ok (.iload_n 1, 1) := by decide +kernel
theorem dX7_readItem_22 : decode cX7_readItem 22 = .ok (.iload_n 2, 1) := by decide +kernel
theorem dX7_readItem_23 : decode cX7_readItem 23 = .ok (.invokevirtual 59, 3) := by decide +kernel
theorem dX7_readItem_26 : decode cX7_readItem 26 = .ok (.ireturn, 1) := by decide +kernel
theorem dX7_readField_0 : decode cX7_readField 0 = .ok (.aload_n 0, 1) := by decide +kernel
theorem dX7_readField_1 : decode cX7_readField 1 = .ok (.invokevirtual 97, 3) := by decide +kernel
theorem dX7_readField_4 : decode cX7_readField 4 = .ok (.ifCond .ne 5, 3) := by decide +kernel
theorem dX7_readField_7 : decode cX7_readField 7 = .ok (.iconst 0, 1) := by decide +kernel
theorem dX7_readField_8 : decode cX7_readField 8 = .ok (.ireturn, 1) := by decide +kernel
theorem dX7_readField_9 : decode cX7_readField 9 = .ok (.iload_n 1, 1) := by decide +kernel
theorem dX7_readField_10 : decode cX7_readField 10 = .ok (.bipush 125, 2) := by decide +kernel
theorem dX7_readField_12 : decode cX7_readField 12 = .ok (.if_icmp .ne 41, 3) := by decide +kernel
theorem dX7_readField_15 : decode cX7_readField 15 = .ok (.aload_n 0, 1) := by decide +kernel
theorem dX7_readField_16 : decode cX7_readField 16 = .ok (.getfield 15, 3) := by decide +kernel
theorem dX7_readField_19 : decode cX7_readField 19 = .ok (.aload_n 0, 1) := by decide +kernel
theorem dX7_readField_20 : decode cX7_readField 20 = .ok (.invokevirtual 103, 3) := by decide +kernel
theorem dX7_readField_23 : decode cX7_readField 23 = .ok (.invokevirtual 106, 3) := by decide +kernel
theorem dX7_readField_26 : decode cX7_readField 26 = .ok (.aload_n 0, 1) := by decide +kernel
theorem dX7_readField_27 : decode cX7_readField 27 = .ok (.getfield 26, 3) := by decide +kernel
theorem dX7_readField_30 : decode cX7_readField 30 = .ok (.aload_n 0, 1) := by decide +kernel
theorem dX7_readField_31 : decode cX7_readField 31 = .ok (.getfield 29, 3) := by decide +kernel
theorem dX7_readField_34 : decode cX7_readField 34 = .ok (.iconst 1, 1) := by decide +kernel
theorem dX7_readField_35 : decode cX7_readField 35 = .ok (.isub, 1) := by decide +kernel
theorem dX7_readField_36 : decode cX7_readField 36 = .ok (.iaload, 1) := by decide +kernel
theorem dX7_readField_37 : decode cX7_readField 37 = .ok (.iconst (-1), 1) := by decide +kernel
theorem dX7_readField_38 : decode cX7_readField 38 = .ok (.ixor, 1) := by decide +kernel
theorem dX7_readField_39 : decode cX7_readField 39 = .ok (.iand, 1) := by decide +kernel
theorem dX7_readField_40 : decode cX7_readField 40 = .ok (.ifCond .eq 8, 3) := by decide +kernel
theorem dX7_readField_43 : decode cX7_readField 43 = .ok (.aload_n 0, 1) := by decide +kernel
theorem dX7_readField_44 : decode cX7_readField 44 = .ok (.iload_n 2, 1) := by decide +kernel
theorem dX7_readField_45 : decode cX7_readField 45 = .ok (.invokevirtual 93, 3) := by decide +kernel
theorem dX7_readField_48 : decode cX7_readField 48 = .ok (.aload_n 0, 1) := by decide +kernel
theorem dX7_readField_49 : decode cX7_readField 49 = .ok (.invokevirtual 71, 3) := by decide +kernel
theorem dX7_readField_52 : decode cX7_readField 52 = .ok (.ireturn, 1) := by decide +kernel
theorem dX7_readField_53 : decode cX7_readField 53 = .ok (.iload_n 1, 1) := by decide +kernel
theorem dX7_readField_54 : decode cX7_readField 54 = .ok (.bipush 97, 2) := by decide +kernel
theorem dX7_readField_56 : decode cX7_readField 56 = .ok (.isub, 1) := by decide +kernel
theorem dX7_readField_57 : decode cX7_readField 57 = .ok (.istore_n 3, 1) := by decide +kernel
theorem dX7_readField_58 : decode cX7_readField 58 = .ok (.iload_n 3, 1) := by decide +kernel
theorem dX7_readField_59 : decode cX7_readField 59 = .ok (.ifCond .lt 25, 3) := by decide +kernel
theorem dX7_readField_62 : decode cX7_readField 62 = .ok (.iload_n 3, 1) := by decide +kernel
theorem dX7_readField_63 : decode cX7_readField 63 = .ok (.bipush 8, 2) := by decide +kernel
theorem dX7_readField_65 : decode cX7_readField 65 = .ok (.if_icmp .ge 19, 3) := by decide +kernel
theorem dX7_readField_68 : decode cX7_readField 68 = .ok (.aload_n 0, 1) := by decide +kernel
theorem dX7_readField_69 : decode cX7_readField 69 = .ok (.getfield 26, 3) := by decide +kernel
theorem dX7_readField_72 : decode cX7_readField 72 = .ok (.aload_n 0, 1) := by decide +kernel
theorem dX7_readField_73 : decode cX7_readField 73 = .ok (.getfield 29, 3) := by decide +kernel
theorem dX7_readField_76 : decode cX7_readField 76 = .ok (.iconst 1, 1) := by decide +kernel
theorem dX7_readField_77 : decode cX7_readField 77 = .ok (.isub, 1) := by decide +kernel
theorem dX7_readField_78 : decode cX7_readField 78 = .ok (.iaload, 1) := by decide +kernel
theorem dX7_readField_79 : decode cX7_readField 79 = .ok (.iload_n 3, 1) := by decide +kernel
theorem dX7_readField_80 : decode cX7_readField 80 = .ok (.ishr, 1) := by decide +kernel
theorem dX7_readField_81 : decode cX7_readField 81 = .ok (.ifCond .eq 5, 3) := by decide +kernel
theorem dX7_readField_84 : decode cX7_readField 84 = .ok (.iconst 0, 1) := by decide +kernel
theorem dX7_readField_85 : decode cX7_readField 85 = .ok (.ireturn, 1) := by decide +kernel
theorem dX7_readField_86 : decode cX7_readField 86 = .ok (.aload_n 0, 1) := by decide +kernel
theorem dX7_readField_87 : decode cX7_readField 87 = .ok (.getfield 26, 3) := by decide +kernel
theorem dX7_readField_90 : decode cX7_readField 90 = .ok (.aload_n 0, 1) := by decide +kernel
theorem dX7_readField_91 : decode cX7_readField 91 = .ok (.getfield 29, 3) := by decide +kernel
theorem dX7_readField_94 : decode cX7_readField 94 = .ok (.iconst 1, 1) := by decide +kernel
theorem dX7_readField_95 : decode cX7_readField 95 = .ok (.isub, 1) := by decide +kernel
theorem dX7_readField_96 : decode cX7_readField 96 = .ok (.dup2, 1) := by decide +kernel
theorem dX7_readField_97 : decode cX7_readField 97 = .ok (.iaload, 1) := by decide +kernel
theorem dX7_readField_98 : decode cX7_readField 98 = .ok (.iconst 1, 1) := by decide +kernel
theorem dX7_readField_99 : decode cX7_readField 99 = .ok (.iload_n 3, 1) := by decide +kernel
theorem dX7_readField_100 : decode cX7_readField 100 = .ok (.ishl, 1) := by decide +kernel
theorem dX7_readField_101 : decode cX7_readField 101 = .ok (.ior, 1) := by decide +kernel
theorem dX7_readField_102 : decode cX7_readField 102 = .ok (.iastore, 1) := by decide +kernel
theorem dX7_readField_103 : decode cX7_readField 103 = .ok (.aload_n 0, 1) := by decide +kernel
theorem dX7_readField_104 : decode cX7_readField 104 = .ok (.aload_n 0, 1) := by decide +kernel
theorem dX7_readField_105 : decode cX7_readField 105 = .ok (.iload_n 3, 1) := by decide +kernel
theorem dX7_readField_106 : decode cX7_readField 106 = .ok (.invokevirtual 100, 3) := by decide +kernel
theorem dX7_readField_109 : decode cX7_readField 109 = .ok (.putfield 36, 3) := by decide +kernel
theorem dX7_readField_112 : decode cX7_readField 112 = .ok (.aload_n 0, 1) := by decide +kernel
theorem dX7_readField_113 : decode cX7_readField 113 = .ok (.iconst 0, 1) := by decide +kernel
theorem dX7_readField_114 : decode cX7_readField 114 = .ok (.putfield 33, 3) := by decide +kernel
theorem dX7_readField_117 : decode cX7_readField 117 = .ok (.iconst 1, 1) := by decide +kernel
theorem dX7_readField_118 : decode cX7_readField 118 = .ok (.ireturn, 1) := by decide +kernel
theorem dX7_readCase_0 : decode cX7_readCase 0 = .ok (.iload_n 1, 1) := by decide +kernel
theorem dX7_readCase_1 : decode cX7_readCase 1 = .ok (.bipush 97, 2) := by decide +kernel
theorem dX7_readCase_3 : decode cX7_readCase 3 = .ok (.isub, 1) := by decide +kernel
theorem dX7_readCase_4 : decode cX7_readCase 4 = .ok (.istore_n 3, 1) := by decide +kernel
