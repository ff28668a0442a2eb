theorem dX6_read_0 : decode cX6_read 0 = .ok (.aload_n 0, 1) := by decide +kernel
theorem dX6_read_1 : decode cX6_read 1 = .ok (.getfield 20, 3) := by decide +kernel
theorem dX6_read_4 : decode cX6_read 4 = .ok (.invokevirtual 32, 3) := by decide +kernel
theorem dX6_read_7 : decode cX6_read 7 = .ok (.aload_n 0, 1) := by decide +kernel
theorem dX6_read_8 : decode cX6_read 8 = .ok (.iconst 0, 1) := by decide +kernel
theorem dX6_read_9 : decode cX6_read 9 = .ok (.putfield 24, 3) := by decide +kernel
theorem dX6_read_12 : decode cX6_read 12 = .ok (.aload_n 0, 1) := by decide +kernel
theorem dX6_read_13 : decode cX6_read 13 = .ok (.iconst 0, 1) := by decide +kernel
theorem dX6_read_14 : decode cX6_read 14 = .ok (.putfield 28, 3) := by decide +kernel
theorem dX6_read_17 : decode cX6_read 17 = .ok (.iconst 0, 1) := by decide +kernel
theorem dX6_read_18 : decode cX6_read 18 = .ok (.istore_n 1, 1) := by decide +kernel
theorem dX6_read_19 : decode cX6_read 19 = .ok (.iload_n 1, 1) := by decide +kernel
theorem dX6_read_20 : decode cX6_read 20 = .ok (.bipush 8, 2) := by decide +kernel
theorem dX6_read_22 : decode cX6_read 22 = .ok (.if_icmp .gt 73, 3) := by decide +kernel
theorem dX6_read_25 : decode cX6_read 25 = .ok (.aload_n 0, 1) := by decide +kernel
theorem dX6_read_26 : decode cX6_read 26 = .ok (.invokevirtual 35, 3) := by decide +kernel
theorem dX6_read_29 : decode cX6_read 29 = .ok (.aload_n 0, 1) := by decide +kernel
theorem dX6_read_30 : decode cX6_read 30 = .ok (.getfield 28, 3) := by decide +kernel
theorem dX6_read_33 : decode cX6_read 33 = .ok (.ifCond .eq 8, 3) := by decide +kernel
theorem dX6_read_36 : decode cX6_read 36 = .ok (.aload_n 0, 1) := by decide +kernel
theorem dX6_read_37 : decode cX6_read 37 = .ok (.getfield 24, 3) := by decide +kernel
theorem dX6_read_40 : decode cX6_read 40 = .ok (.ireturn, 1) := by decide +kernel
theorem dX6_read_41 : decode cX6_read 41 = .ok (.aload_n 0, 1) := by decide +kernel
theorem dX6_read_42 : decode cX6_read 42 = .ok (.getfield 24, 3) := by decide +kernel
theorem dX6_read_45 : decode cX6_read 45 = .ok (.aload_n 0, 1) := by decide +kernel
theorem dX6_read_46 : decode cX6_read 46 = .ok (.getfield 9, 3) := by decide +kernel
theorem dX6_read_49 : decode cX6_read 49 = .ok (.invokevirtual 38, 3) := by decide +kernel
theorem dX6_read_52 : decode cX6_read 52 = .ok (.if_icmp .lt 6, 3) := by decide +kernel
theorem dX6_read_55 : decode cX6_read 55 = .ok (.bipush (-6), 2) := by decide +kernel
theorem dX6_read_57 : decode cX6_read 57 = .ok (.ireturn, 1) := by decide +kernel
theorem dX6_read_58 : decode cX6_read 58 = .ok (.aload_n 0, 1) := by decide +kernel
theorem dX6_read_59 : decode cX6_read 59 = .ok (.getfield 9, 3) := by decide +kernel
theorem dX6_read_62 : decode cX6_read 62 = .ok (.aload_n 0, 1) := by decide +kernel
theorem dX6_read_63 : decode cX6_read 63 = .ok (.getfield 24, 3) := by decide +kernel
theorem dX6_read_66 : decode cX6_read 66 = .ok (.invokevirtual 44, 3) := by decide +kernel
theorem dX6_read_69 : decode cX6_read 69 = .ok (.bipush 59, 2) := by decide +kernel
theorem dX6_read_71 : decode cX6_read 71 = .ok (.if_icmp .eq 8, 3) := by decide +kernel
theorem dX6_read_74 : decode cX6_read 74 = .ok (.aload_n 0, 1) := by decide +kernel
theorem dX6_read_75 : decode cX6_read 75 = .ok (.getfield 24, 3) := by decide +kernel
theorem dX6_read_78 : decode cX6_read 78 = .ok (.ireturn, 1) := by decide +kernel
theorem dX6_read_79 : decode cX6_read 79 = .ok (.aload_n 0, 1) := by decide +kernel
theorem dX6_read_80 : decode cX6_read 80 = .ok (.dup, 1) := by decide +kernel
theorem dX6_read_81 : decode cX6_read 81 = .ok (.getfield 24, 3) := by decide +kernel
theorem dX6_read_84 : decode cX6_read 84 = .ok (.iconst 1, 1) := by decide +kernel
theorem dX6_read_85 : decode cX6_read 85 = .ok (.iadd, 1) := by decide +kernel
theorem dX6_read_86 : decode cX6_read 86 = .ok (.putfield 24, 3) := by decide +kernel
theorem dX6_read_89 : decode cX6_read 89 = .ok (.iinc 1 1, 3) := by decide +kernel
theorem dX6_read_92 : decode cX6_read 92 = .ok (.goto (-73), 3) := by decide +kernel
theorem dX6_read_95 : decode cX6_read 95 = .ok (.aload_n 0, 1) := by decide +kernel
theorem dX6_read_96 : decode cX6_read 96 = .ok (.getfield 24, 3) := by decide +kernel
theorem dX6_read_99 : decode cX6_read 99 = .ok (.ireturn, 1) := by decide +kernel
theorem dX6_nodesRead_0 : decode cX6_nodesRead 0 = .ok (.aload_n 0, 1) := by decide +kernel
theorem dX6_nodesRead_1 : decode cX6_nodesRead 1 = .ok (.getfield 20, 3) := by decide +kernel
theorem dX6_nodesRead_4 : decode cX6_nodesRead 4 = .ok (.invokevirtual 48, 3) := by decide +kernel
theorem dX6_nodesRead_7 : decode cX6_nodesRead 7 = .ok (.ireturn, 1) := by decide +kernel
theorem dX6_allNamesComeToNodes_0 : decode cX6_allNamesComeToNodes 0 = .ok (.iconst 0, 1) := by decide +kernel
theorem dX6_allNamesComeToNodes_1 : decode cX6_allNamesComeToNodes 1 = .ok (.istore_n 1, 1) := by decide +kernel
theorem dX6_allNamesComeToNodes_2 : decode cX6_allNamesComeToNodes 2 = .ok (.iload_n 1, 1) := by decide +kernel
theorem dX6_allNamesComeToNodes_3 : decode cX6_allNamesComeToNodes 3 = .ok (.bipush 8, 2) := by decide +kernel
theorem dX6_allNamesComeToNodes_5 : decode cX6_allNamesComeToNodes 5 = .ok (.if_icmp .ge 41, 3) := by decide +kernel
theorem dX6_allNamesComeToNodes_8 : decode cX6_allNamesComeToNodes 8 = .ok (.aload_n 0, 1) := by decide +kernel
theorem dX6_allNamesComeToNodes_9 : decode cX6_allNamesComeToNodes 9 = .ok (.getfield 20, 3) := by decide +kernel
theorem dX6_allNamesComeToNodes_12 : decode cX6_allNamesComeToNodes 12 = .ok (.iload_n 1, 1) := by decide +kernel
theorem dX6_allNamesComeToNodes_13 : decode cX6_allNamesComeToNodes 13 = .ok (.invokevirtual 51, 3) := by decide +kernel
theorem dX6_allNamesComeToNodes_16 : decode cX6_allNamesComeToNodes 16 = .ok (.bipush (-6), 2) := by decide +kernel
theorem dX6_allNamesComeToNodes_18 : decode cX6_allNamesComeToNodes 18 = .ok (.if_icmp .eq 22, 3) := by decide +kernel
theorem dX6_allNamesComeToNodes_21 : decode cX6_allNamesComeToNodes 21 = .ok (.aload_n 0, 1) := by decide +kernel
theorem dX6_allNamesComeToNodes_22 : decode cX6_allNamesComeToNodes 22 = .ok (.aload_n 0, 1) := by decide +kernel
theorem dX6_allNamesComeToNodes_23 : decode cX6_allNamesComeToNodes 23 = .ok (.getfield 20, 3) := by decide +kernel
theorem dX6_allNamesComeToNodes_26 : decode cX6_allNamesComeToNodes 26 = .ok (.iload_n 1, 1) := by decide +kernel
theorem dX6_allNamesComeToNodes_27 : decode cX6_allNamesComeToNodes 27 = .ok (.invokevirtual 51, 3) := by decide +kernel
theorem dX6_allNamesComeToNodes_30 : decode cX6_allNamesComeToNodes 30 = .ok (.invokevirtual 54, 3) := by decide +kernel
theorem dX6_allNamesComeToNodes_33 : decode cX6_allNamesComeToNodes 33 = .ok (.bipush (-6), 2) := by decide +kernel
theorem dX6_allNamesComeToNodes_35 : decode cX6_allNamesComeToNodes 35 = .ok (.if_icmp .ne 5, 3) := by decide +kernel
theorem dX6_allNamesComeToNodes_38 : decode cX6_allNamesComeToNodes 38 = .ok (.iconst 0, 1) := by decide +kernel
theorem dX6_allNamesComeToNodes_39 : decode cX6_allNamesComeToNodes 39 = .ok (.ireturn, 1) := by decide +kernel
theorem dX6_allNamesComeToNodes_40 : decode cX6_allNamesComeToNodes 40 = .ok (.iinc 1 1, 3) := by decide +kernel
theorem dX6_allNamesComeToNodes_43 : decode cX6_allNamesComeToNodes 43 = .ok (.goto (-41), 3) := by decide +kernel
theorem dX6_allNamesComeToNodes_46 : decode cX6_allNamesComeToNodes 46 = .ok (.iconst 0, 1) := by decide +kernel
theorem dX6_allNamesComeToNodes_47 : decode cX6_allNamesComeToNodes 47 = .ok (.istore_n 1, 1) := by decide +kernel
theorem dX6_allNamesComeToNodes_48 : decode cX6_allNamesComeToNodes 48 = .ok (.iload_n 1, 1) := by decide +kernel
theorem dX6_allNamesComeToNodes_49 : decode cX6_allNamesComeToNodes 49 = .ok (.aload_n 0, 1) := by decide +kernel
theorem dX6_allNamesComeToNodes_50 : decode cX6_allNamesComeToNodes 50 = .ok (.getfield 20, 3) := by decide +kernel
theorem dX6_allNamesComeToNodes_53 : decode cX6_allNamesComeToNodes 53 = .ok (.invokevirtual 48, 3) := by decide +kernel
theorem dX6_allNamesComeToNodes_56 : decode cX6_allNamesComeToNodes 56 = .ok (.if_icmp .ge 51, 3) := by decide +kernel
theorem dX6_allNamesComeToNodes_59 : decode cX6_allNamesComeToNodes 59 = .ok (.iconst 0, 1) := by decide +kernel
theorem dX6_allNamesComeToNodes_60 : decode cX6_allNamesComeToNodes 60 = .ok (.istore_n 2, 1) := by decide +kernel
theorem dX6_allNamesComeToNodes_61 : decode cX6_allNamesComeToNodes 61 = .ok (.iload_n 2, 1) := by decide +kernel
theorem dX6_allNamesComeToNodes_62 : decode cX6_allNamesComeToNodes 62 = .ok (.bipush 8, 2) := by decide +kernel
theorem dX6_allNamesComeToNodes_64 : decode cX6_allNamesComeToNodes 64 = .ok (.if_icmp .ge 37, 3) := by decide +kernel
theorem dX6_allNamesComeToNodes_67 : decode cX6_allNamesComeToNodes 67 = .ok (.aload_n 0, 1) := by decide +kernel
theorem dX6_allNamesComeToNodes_68 : decode cX6_allNamesComeToNodes 68 = .ok (.getfield 20, 3) := by decide +kernel
theorem dX6_allNamesComeToNodes_71 : decode cX6_allNamesComeToNodes 71 = .ok (.iload_n 1, 1) := by decide +kernel
theorem dX6_allNamesComeToNodes_72 : decode cX6_allNamesComeToNodes 72 = .ok (.iload_n 2, 1) := by decide +kernel
theorem dX6_allNamesComeToNodes_73 : decode cX6_allNamesComeToNodes 73 = .ok (.invokevirtual 57, 3) := by decide +kernel
theorem dX6_allNamesComeToNodes_76 : decode cX6_allNamesComeToNodes 76 = .ok (.istore_n 3, 1) := by decide +kernel
theorem dX6_allNamesComeToNodes_77 : decode cX6_allNamesComeToNodes 77 = .ok (.iload_n 3, 1) := by decide +kernel
theorem dX6_allNamesComeToNodes_78 : decode cX6_allNamesComeToNodes 78 = .ok (.bipush (-6), 2) := by decide +kernel
theorem dX6_allNamesComeToNodes_80 : decode cX6_allNamesComeToNodes 80 = .ok (.if_icmp .eq 15, 3) := by decide +kernel
theorem dX6_allNamesComeToNodes_83 : decode cX6_allNamesComeToNodes 83 = .ok (.aload_n 0, 1) := by decide +kernel
theorem dX6_allNamesComeToNodes_84 : decode cX6_allNamesComeToNodes 84 = .ok (.iload_n 3, 1) := by decide +kernel
theorem dX6_allNamesComeToNodes_85 : decode cX6_allNamesComeToNodes 85 = .ok (.invokevirtual 54, 3) := by decide +kernel
theorem dX6_allNamesComeToNodes_88 : decode cX6_allNamesComeToNodes 88 = .ok (.bipush (-6), 2) := by decide +kernel
theorem dX6_allNamesComeToNodes_90 : decode cX6_allNamesComeToNodes 90 = .ok (.if_icmp .ne 5, 3) := by decide +kernel
theorem dX6_allNamesComeToNodes_93 : decode cX6_allNamesComeToNodes 93 = .ok (.iconst 0, 1) := by decide +kernel
theorem dX6_allNamesComeToNodes_94 : decode cX6_allNamesComeToNodes 94 = .ok (.ireturn, 1) := by decide +kernel
theorem dX6_allNamesComeToNodes_95 : decode cX6_allNamesComeToNodes 95 = .ok (.iinc 2 1, 3) := by decide +kernel
theorem dX6_allNamesComeToNodes_98 : decode cX6_allNamesComeToNodes 98 = .ok (.goto (-37), 3) := by decide +kernel
theorem dX6_allNamesComeToNodes_101 : decode cX6_allNamesComeToNodes 101 = .ok (.iinc 1 1, 3) := by decide +kernel
theorem dX6_allNamesComeToNodes_104 : decode cX6_allNamesComeToNodes 104 = .ok (.goto (-56), 3) := by decide +kernel
theorem dX6_allNamesComeToNodes_107 : decode cX6_allNamesComeToNodes 107 = .ok (.iconst 1, 1) := by decide +kernel
theorem dX6_allNamesComeToNodes_108 : decode cX6_allNamesComeToNodes 108 = .ok (.ireturn, 1) := by decide +kernel
theorem dX6_copyInto_0 : decode cX6_copyInto 0 = .ok (.aload_n 1, 1) := by decide +kernel
theorem dX6_copyInto_1 : decode cX6_copyInto 1 = .ok (.invokevirtual 32, 3) := by decide +kernel
theorem dX6_copyInto_4 : decode cX6_copyInto 4 = .ok (.iconst 0, 1) := by decide +kernel
theorem dX6_copyInto_5 : decode cX6_copyInto 5 = .ok (.istore_n 2, 1) := by decide +kernel
theorem dX6_copyInto_6 : decode cX6_copyInto 6 = .ok (.iload_n 2, 1) := by decide +kernel
theorem dX6_copyInto_7 : decode cX6_copyInto 7 = .ok (.aload_n 0, 1) := by decide +kernel
theorem dX6_copyInto_8 : decode cX6_copyInto 8 = .ok (.getfield 20, 3) := by decide +kernel
theorem dX6_copyInto_11 : decode cX6_copyInto 11 = .ok (.invokevirtual 48, 3) := by decide +kernel
theorem dX6_copyInto_14 : decode cX6_copyInto 14 = .ok (.if_icmp .ge 70, 3) := by decide +kernel
theorem dX6_copyInto_17 : decode cX6_copyInto 17 = .ok (.aload_n 1, 1) := by decide +kernel
theorem dX6_copyInto_18 : decode cX6_copyInto 18 = .ok (.aload_n 0, 1) := by decide +kernel
theorem dX6_copyInto_19 : decode cX6_copyInto 19 = .ok (.getfield 20, 3) := by decide +kernel
theorem dX6_copyInto_22 : decode cX6_copyInto 22 = .ok (.iload_n 2, 1) := by decide +kernel
theorem dX6_copyInto_23 : decode cX6_copyInto 23 = .ok (.invokevirtual 61, 3) := by decide +kernel
theorem dX6_copyInto_26 : decode cX6_copyInto 26 = .ok (.invokevirtual 64, 3) := by decide +kernel
theorem dX6_copyInto_29 : decode cX6_copyInto 29 = .ok (.istore_n 3, 1) := by decide +kernel
theorem dX6_copyInto_30 : decode cX6_copyInto 30 = .ok (.iconst 0, 1) := by decide +kernel
theorem dX6_copyInto_31 : decode cX6_copyInto 31 = .ok (.istore 4, 2) := by decide +kernel
theorem dX6_copyInto_33 : decode cX6_copyInto 33 = .ok (.iload 4, 2) := by decide +kernel
theorem dX6_copyInto_35 : decode cX6_copyInto 35 = .ok (.bipush 8, 2) := by decide +kernel
theorem dX6_copyInto_37 : decode cX6_copyInto 37 = .ok (.if_icmp .ge 41, 3) := by decide +kernel
theorem dX6_copyInto_40 : decode cX6_copyInto 40 = .ok (.aload_n 0, 1) := by decide +kernel
theorem dX6_copyInto_41 : decode cX6_copyInto 41 = .ok (.getfield 20, 3) := by decide +kernel
theorem dX6_copyInto_44 : decode cX6_copyInto 44 = .ok (.iload_n 2, 1) := by decide +kernel
theorem dX6_copyInto_45 : decode cX6_copyInto 45 = .ok (.iload 4, 2) := by decide +kernel
theorem dX6_copyInto_47 : decode cX6_copyInto 47 = .ok (.invokevirtual 57, 3) := by decide +kernel
theorem dX6_copyInto_50 : decode cX6_copyInto 50 = .ok (.istore 5, 2) := by decide +kernel
theorem dX6_copyInto_52 : decode cX6_copyInto 52 = .ok (.iload 5, 2) := by decide +kernel
theorem dX6_copyInto_54 : decode cX6_copyInto 54 = .ok (.bipush (-6), 2) := by decide +kernel
theorem dX6_copyInto_56 : decode cX6_copyInto 56 = .ok (.if_icmp .eq 16, 3) := by decide +kernel
theorem dX6_copyInto_59 : decode cX6_copyInto 59 = .ok (.aload_n 1, 1) := by decide +kernel
theorem dX6_copyInto_60 : decode cX6_copyInto 60 = .ok (.iload_n 3, 1) := by decide +kernel
theorem dX6_copyInto_61 : decode cX6_copyInto 61 = .ok (.iload 4, 2) := by decide +kernel
theorem dX6_copyInto_63 : decode cX6_copyInto 63 = .ok (.aload_n 0, 1) := by decide +kernel
theorem dX6_copyInto_64 : decode cX6_copyInto 64 = .ok (.iload 5, 2) := by decide +kernel
theorem dX6_copyInto_66 : decode cX6_copyInto 66 = .ok (.invokevirtual 54, 3) := by decide +kernel
theorem dX6_copyInto_69 : decode cX6_copyInto 69 = .ok (.invokevirtual 67, 3) := by decide +kernel
theorem dX6_copyInto_72 : decode cX6_copyInto 72 = .ok (.iinc 4 1, 3) := by decide +kernel
theorem dX6_copyInto_75 : decode cX6_copyInto 75 = .ok (.goto (-42), 3) := by decide +kernel
theorem dX6_copyInto_78 : decode cX6_copyInto 78 = .ok (.iinc 2 1, 3) := by decide +kernel
theorem dX6_copyInto_81 : decode cX6_copyInto 81 = .ok (.goto (-75), 3) := by decide +kernel
theorem dX6_copyInto_84 : decode cX6_copyInto 84 = .ok (.iconst 0, 1) := by decide +kernel
theorem dX6_copyInto_85 : decode cX6_copyInto 85 = .ok (.istore_n 2, 1) := by decide +kernel
theorem dX6_copyInto_86 : decode cX6_copyInto 86 = .ok (.iload_n 2, 1) := by decide +kernel
theorem dX6_copyInto_87 : decode cX6_copyInto 87 = .ok (.bipush 8, 2) := by decide +kernel
theorem dX6_copyInto_89 : decode cX6_copyInto 89 = .ok (.if_icmp .ge 26, 3) := by decide +kernel
theorem dX6_copyInto_92 : decode cX6_copyInto 92 = .ok (.aload_n 1, 1) := by decide +kernel
theorem dX6_copyInto_93 : decode cX6_copyInto 93 = .ok (.iload_n 2, 1) := by decide +kernel
theorem dX6_copyInto_94 : decode cX6_copyInto 94 = .ok (.aload_n 0, 1) := by decide +kernel
theorem dX6_copyInto_95 : decode cX6_copyInto 95 = .ok (.aload_n 0, 1) := by decide +kernel
theorem dX6_copyInto_96 : decode cX6_copyInto 96 = .ok (.getfield 20, 3) := by decide +kernel
theorem dX6_copyInto_99 : decode cX6_copyInto 99 = .ok (.iload_n 2, 1) := by decide +kernel
theorem dX6_copyInto_100 : decode cX6_copyInto 100 = .ok (.invokevirtual 51, 3) := by decide +kernel
theorem dX6_copyInto_103 : decode cX6_copyInto 103 = .ok (.invokevirtual 54, 3) := by decide +kernel
theorem dX6_copyInto_106 : decode cX6_copyInto 106 = .ok (.invokevirtual 71, 3) := by decide +kernel
theorem dX6_copyInto_109 : decode cX6_copyInto 109 = .ok (.iinc 2 1, 3) := by decide +kernel
theorem dX6_copyInto_112 : decode cX6_copyInto 112 = .ok (.goto (-26), 3) := by decide +kernel
theorem dX6_copyInto_115 : decode cX6_copyInto 115 = .ok (.return_, 1) := by decide +kernel
theorem dX6_nodeOf_0 : decode cX6_nodeOf 0 = .ok (.iload_n 1, 1) := by decide +kernel
theorem dX6_nodeOf_1 : decode cX6_nodeOf 1 = .ok (.istore_n 2, 1) := by decide +kernel
theorem dX6_nodeOf_2 : decode cX6_nodeOf 2 = .ok (.iconst 0, 1) := by decide +kernel
theorem dX6_nodeOf_3 : decode cX6_nodeOf 3 = .ok (.istore_n 3, 1) := by decide +kernel
theorem dX6_nodeOf_4 : decode cX6_nodeOf 4 = .ok (.iload_n 3, 1) := by decide +kernel
theorem dX6_nodeOf_5 : decode cX6_nodeOf 5 = .ok (.bipush 8, 2) := by decide +kernel
theorem dX6_nodeOf_7 : decode cX6_nodeOf 7 = .ok (.if_icmp .gt 31, 3) := by decide +kernel
theorem dX6_nodeOf_10 : decode cX6_nodeOf 10 = .ok (.iload_n 2, 1) := by decide +kernel
theorem dX6_nodeOf_11 : decode cX6_nodeOf 11 = .ok (.sipush 1000, 3) := by decide +kernel
theorem dX6_nodeOf_14 : decode cX6_nodeOf 14 = .ok (.if_icmp .ge 5, 3) := by decide +kernel
theorem dX6_nodeOf_17 : decode cX6_nodeOf 17 = .ok (.iload_n 2, 1) := by decide +kernel
theorem dX6_nodeOf_18 : decode cX6_nodeOf 18 = .ok (.ireturn, 1) := by decide +kernel
theorem dX6_nodeOf_19 : decode cX6_nodeOf 19 = .ok (.aload_n 0, 1) := by decide +kernel
theorem dX6_nodeOf_20 : decode cX6_nodeOf 20 = .ok (.getfield 20, 3) := by decide +kernel
theorem dX6_nodeOf_23 : decode cX6_nodeOf 23 = .ok (.iload_n 2, 1) := by decide +kernel
theorem dX6_nodeOf_24 : decode cX6_nodeOf 24 = .ok (.sipush 1000, 3) := by decide +kernel
theorem dX6_nodeOf_27 : decode cX6_nodeOf 27 = .ok (.isub, 1) := by decide +kernel
theorem dX6_nodeOf_28 : decode cX6_nodeOf 28 = .ok (.invokevirtual 51, 3) := by decide +kernel
theorem dX6_nodeOf_31 : decode cX6_nodeOf 31 = .ok (.istore_n 2, 1) := by decide +kernel
theorem dX6_nodeOf_32 : decode cX6_nodeOf 32 = .ok (.iinc 3 1, 3) := by decide +kernel
theorem dX6_nodeOf_35 : decode cX6_nodeOf 35 = .ok (.goto (-31), 3) := by decide +kernel
theorem dX6_nodeOf_38 : decode cX6_nodeOf 38 = .ok (.bipush (-6), 2) := by decide +kernel
theorem dX6_nodeOf_40 : decode cX6_nodeOf 40 = .ok (.ireturn, 1) := by decide +kernel
theorem dX6_readNaming_0 : decode cX6_readNaming 0 = .ok (.aload_n 0, 1) := by decide +kernel
theorem dX6_readNaming_1 : decode cX6_readNaming 1 = .ok (.getfield 9, 3) := by decide +kernel
theorem dX6_readNaming_4 : decode cX6_readNaming 4 = .ok (.aload_n 0, 1) := by decide +kernel
theorem dX6_readNaming_5 : decode cX6_readNaming 5 = .ok (.getfield 24, 3) := by decide +kernel
theorem dX6_readNaming_8 : decode cX6_readNaming 8 = .ok (.invokevirtual 44, 3) := by decide +kernel
theorem dX6_readNaming_11 : decode cX6_readNaming 11 = .ok (.bipush 65, 2) := by decide +kernel
theorem dX6_readNaming_13 : decode cX6_readNaming 13 = .ok (.isub, 1) := by decide +kernel
theorem dX6_readNaming_14 : decode cX6_readNaming 14 = .ok (.istore_n 1, 1) := by decide +kernel
theorem dX6_readNaming_15 : decode cX6_readNaming 15 = .ok (.iload_n 1, 1) := by decide +kernel
theorem dX6_readNaming_16 : decode cX6_readNaming 16 = .ok (.ifCond .lt 22, 3) := by decide +kernel
theorem dX6_readNaming_19 : decode cX6_readNaming 19 = .ok (.iload_n 1, 1) := by decide +kernel
theorem dX6_readNaming_20 : decode cX6_readNaming 20 = .ok (.bipush 8, 2) := by decide +kernel
theorem dX6_readNaming_22 : decode cX6_readNaming 22 = .ok (.if_icmp .ge 16, 3) := by decide +kernel
theorem dX6_readNaming_25 : decode cX6_readNaming 25 = .ok (.aload_n 0, 1) := by decide +kernel
theorem dX6_readNaming_26 : decode cX6_readNaming 26 = .ok (.getfield 20, 3) := by decide +kernel
theorem dX6_readNaming_29 : decode cX6_readNaming 29 = .ok (.iload_n 1, 1) := by decide +kernel
theorem dX6_readNaming_30 : decode cX6_readNaming 30 = .ok (.invokevirtual 51, 3) := by decide +kernel
theorem dX6_readNaming_33 : decode cX6_readNaming 33 = .ok (.bipush (-6), 2) := by decide +kernel
theorem dX6_readNaming_35 : decode cX6_readNaming 35 = .ok (.if_icmp .eq 9, 3) := by decide +kernel
theorem dX6_readNaming_38 : decode cX6_readNaming 38 = .ok (.aload_n 0, 1) := by decide +kernel
theorem dX6_readNaming_39 : decode cX6_readNaming 39 = .ok (.iconst 1, 1) := by decide +kernel
theorem dX6_readNaming_40 : decode cX6_readNaming 40 = .ok (.putfield 28, 3) := by decide +kernel
theorem dX6_readNaming_43 : decode cX6_readNaming 43 = .ok (.return_, 1) := by decide +kernel
theorem dX6_readNaming_44 : decode cX6_readNaming 44 = .ok (.aload_n 0, 1) := by decide +kernel
theorem dX6_readNaming_45 : decode cX6_readNaming 45 = .ok (.dup, 1) := by decide +kernel
theorem dX6_readNaming_46 : decode cX6_readNaming 46 = .ok (.getfield 24, 3) := by decide +kernel
theorem dX6_readNaming_49 : decode cX6_readNaming 49 = .ok (.iconst 1, 1) := by decide +kernel
theorem dX6_readNaming_50 : decode cX6_readNaming 50 = .ok (.iadd, 1) := by decide +kernel
theorem dX6_readNaming_51 : decode cX6_readNaming 51 = .ok (.putfield 24, 3) := by decide +kernel
theorem dX6_readNaming_54 : decode cX6_readNaming 54 = .ok (.aload_n 0, 1) := by decide +kernel
theorem dX6_readNaming_55 : decode cX6_readNaming 55 = .ok (.getfield 9, 3) := by decide +kernel
theorem dX6_readNaming_58 : decode cX6_readNaming 58 = .ok (.aload_n 0, 1) := by decide +kernel
theorem dX6_readNaming_59 : decode cX6_readNaming 59 = .ok (.getfield 24, 3) := by decide +kernel
theorem dX6_readNaming_62 : decode cX6_readNaming 62 = .ok (.invokevirtual 44, 3) := by decide +kernel
theorem dX6_readNaming_65 : decode cX6_readNaming 65 = .ok (.bipush 61, 2) := by decide +kernel
theorem dX6_readNaming_67 : decode cX6_readNaming 67 = .ok (.if_icmp .eq 9, 3) := by decide +kernel
theorem dX6_readNaming_70 : decode cX6_readNaming 70 = .ok (.aload_n 0, 1) := by decide +kernel
theorem dX6_readNaming_71 : decode cX6_readNaming 71 = .ok (.iconst 1, 1) := by decide +kernel
theorem dX6_readNaming_72 : decode cX6_readNaming 72 = .ok (.putfield 28, 3) := by decide +kernel
theorem dX6_readNaming_75 : decode cX6_readNaming 75 = .ok (.return_, 1) := by decide +kernel
theorem dX6_readNaming_76 : decode cX6_readNaming 76 = .ok (.aload_n 0, 1) := by decide +kernel
theorem dX6_readNaming_77 : decode cX6_readNaming 77 = .ok (.dup, 1) := by decide +kernel
theorem dX6_readNaming_78 : decode cX6_readNaming 78 = .ok (.getfield 24, 3) := by decide +kernel
theorem dX6_readNaming_81 : decode cX6_readNaming 81 = .ok (.iconst 1, 1) := by decide +kernel
theorem dX6_readNaming_82 : decode cX6_readNaming 82 = .ok (.iadd, 1) := by decide +kernel
theorem dX6_readNaming_83 : decode cX6_readNaming 83 = .ok (.putfield 24, 3) := by decide +kernel
theorem dX6_readNaming_86 : decode cX6_readNaming 86 = .ok (.aload_n 0, 1) := by decide +kernel
theorem dX6_readNaming_87 : decode cX6_readNaming 87 = .ok (.getfield 20, 3) := by decide +kernel
theorem dX6_readNaming_90 : decode cX6_readNaming 90 = .ok (.iload_n 1, 1) := by decide +kernel
theorem dX6_readNaming_91 : decode cX6_readNaming 91 = .ok (.aload_n 0, 1) := by decide +kernel
theorem dX6_readNaming_92 : decode cX6_readNaming 92 = .ok (.iconst 0, 1) := by decide +kernel
theorem dX6_readNaming_93 : decode cX6_readNaming 93 = .ok (.invokevirtual 75, 3) := by decide +kernel
theorem dX6_readNaming_96 : decode cX6_readNaming 96 = .ok (.invokevirtual 71, 3) := by decide +kernel
theorem dX6_readNaming_99 : decode cX6_readNaming 99 = .ok (.return_, 1) := by decide +kernel
theorem dX6_readKind_0 : decode cX6_readKind 0 = .ok (.aload_n 0, 1) := by decide +kernel
theorem dX6_readKind_1 : decode cX6_readKind 1 = .ok (.getfield 9, 3) := by decide +kernel
theorem dX6_readKind_4 : decode cX6_readKind 4 = .ok (.aload_n 0, 1) := by decide +kernel
theorem dX6_readKind_5 : decode cX6_readKind 5 = .ok (.getfield 24, 3) := by decide +kernel
theorem dX6_readKind_8 : decode cX6_readKind 8 = .ok (.invokevirtual 44, 3) := by decide +kernel
theorem dX6_readKind_11 : decode cX6_readKind 11 = .ok (.istore_n 2, 1) := by decide +kernel
theorem dX6_readKind_12 : decode cX6_readKind 12 = .ok (.iload_n 1, 1) := by decide +kernel
theorem dX6_readKind_13 : decode cX6_readKind 13 = .ok (.bipush 12, 2) := by decide +kernel
theorem dX6_readKind_15 : decode cX6_readKind 15 = .ok (.if_icmp .le 11, 3) := by decide +kernel
theorem dX6_readKind_18 : decode cX6_readKind 18 = .ok (.aload_n 0, 1) := by decide +kernel
theorem dX6_readKind_19 : decode cX6_readKind 19 = .ok (.iconst 1, 1) := by decide +kernel
theorem dX6_readKind_20 : decode cX6_readKind 20 = .ok (.putfield 28, 3) := by decide +kernel
theorem dX6_readKind_23 : decode cX6_readKind 23 = .ok (.bipush (-6), 2) := by decide +kernel
theorem dX6_readKind_25 : decode cX6_readKind 25 = .ok (.ireturn, 1) := by decide +kernel
theorem dX6_readKind_26 : decode cX6_readKind 26 = .ok (.iload_n 2, 1) := by decide +kernel
theorem dX6_readKind_27 : decode cX6_readKind 27 = .ok (.bipush 65, 2) := by decide +kernel
theorem dX6_readKind_29 : decode cX6_readKind 29 = .ok (.if_icmp .lt 28, 3) := by decide +kernel
theorem dX6_readKind_32 : decode cX6_readKind 32 = .ok (.iload_n 2, 1) := by decide +kernel
theorem dX6_readKind_33 : decode cX6_readKind 33 = .ok (.bipush 73, 2) := by decide +kernel
theorem dX6_readKind_35 : decode cX6_readKind 35 = .ok (.if_icmp .ge 22, 3) := by decide +kernel
theorem dX6_readKind_38 : decode cX6_readKind 38 = .ok (.aload_n 0, 1) := by decide +kernel
theorem dX6_readKind_39 : decode cX6_readKind 39 = .ok (.dup, 1) := by decide +kernel
theorem dX6_readKind_40 : decode cX6_readKind 40 = .ok (.getfield 24, 3) := by decide +kernel
theorem dX6_readKind_43 : decode cX6_readKind 43 = .ok (.iconst 1, 1) := by decide +kernel
theorem dX6_readKind_44 : decode cX6_readKind 44 = .ok (.iadd, 1) := by decide +kernel
theorem dX6_readKind_45 : decode cX6_readKind 45 = .ok (.putfield 24, 3) := by decide +kernel
theorem dX6_readKind_48 : decode cX6_readKind 48 = .ok (.sipush 1000, 3) := by decide +kernel
theorem dX6_readKind_51 : decode cX6_readKind 51 = .ok (.iload_n 2, 1) := by decide +kernel
theorem dX6_readKind_52 : decode cX6_readKind 52 = .ok (.bipush 65, 2) := by decide +kernel
theorem dX6_readKind_54 : decode cX6_readKind 54 = .ok (.isub, 1) := by decide +kernel
theorem dX6_readKind_55 : decode cX6_readKind 55 = .ok (.iadd, 1) := by decide +kernel
theorem dX6_readKind_56 : decode cX6_readKind 56 = .ok (.ireturn, 1) := by decide +kernel
theorem dX6_readKind_57 : decode cX6_readKind 57 = .ok (.iload_n 2, 1) := by decide +kernel
theorem dX6_readKind_58 : decode cX6_readKind 58 = .ok (.invokestatic 78, 3) := by decide +kernel
theorem dX6_readKind_61 : decode cX6_readKind 61 = .ok (.ifCond .eq 16, 3) := by decide +kernel
theorem dX6_readKind_64 : decode cX6_readKind 64 = .ok (.iload_n 1, 1) := by decide +kernel
theorem dX6_readKind_65 : decode cX6_readKind 65 = .ok (.bipush 12, 2) := by decide +kernel
theorem dX6_readKind_67 : decode cX6_readKind 67 = .ok (.if_icmp .ne 18, 3) := by decide +kernel
theorem dX6_readKind_70 : decode cX6_readKind 70 = .ok (.iload_n 2, 1) := by decide +kernel
theorem dX6_readKind_71 : decode cX6_readKind 71 = .ok (.invokestatic 82, 3) := by decide +kernel
theorem dX6_readKind_74 : decode cX6_readKind 74 = .ok (.ifCond .eq 11, 3) := by decide +kernel
theorem dX6_readKind_77 : decode cX6_readKind 77 = .ok (.aload_n 0, 1) := by decide +kernel
theorem dX6_readKind_78 : decode cX6_readKind 78 = .ok (.iconst 1, 1) := by decide +kernel
theorem dX6_readKind_79 : decode cX6_readKind 79 = .ok (.putfield 28, 3) := by decide +kernel
theorem dX6_readKind_82 : decode cX6_readKind 82 = .ok (.bipush (-6), 2) := by decide +kernel
theorem dX6_readKind_84 : decode cX6_readKind 84 = .ok (.ireturn, 1) := by decide +kernel
theorem dX6_readKind_85 : decode cX6_readKind 85 = .ok (.aload_n 0, 1) := by decide +kernel
theorem dX6_readKind_86 : decode cX6_readKind 86 = .ok (.dup, 1) := by decide +kernel
theorem dX6_readKind_87 : decode cX6_readKind 87 = .ok (.getfield 24, 3) := by decide +kernel
theorem dX6_readKind_90 : decode cX6_readKind 90 = .ok (.iconst 1, 1) := by decide +kernel
theorem dX6_readKind_91 : decode cX6_readKind 91 = .ok (.iadd, 1) := by decide +kernel
theorem dX6_readKind_92 : decode cX6_readKind 92 = .ok (.putfield 24, 3) := by decide +kernel
theorem dX6_readKind_95 : decode cX6_readKind 95 = .ok (.aload_n 0, 1) := by decide +kernel
theorem dX6_readKind_96 : decode cX6_readKind 96 = .ok (.getfield 20, 3) := by decide +kernel
theorem dX6_readKind_99 : decode cX6_readKind 99 = .ok (.iload_n 2, 1) := by decide +kernel
theorem dX6_readKind_100 : decode cX6_readKind 100 = .ok (.invokevirtual 64, 3) := by decide +kernel
theorem dX6_readKind_103 : decode cX6_readKind 103 = .ok (.istore_n 3, 1) := by decide +kernel
theorem dX6_readKind_104 : decode cX6_readKind 104 = .ok (.iload_n 2, 1) := by decide +kernel
theorem dX6_readKind_105 : decode cX6_readKind 105 = .ok (.bipush 123, 2) := by decide +kernel
theorem dX6_readKind_107 : decode cX6_readKind 107 = .ok (.if_icmp .eq 9, 3) := by decide +kernel
theorem dX6_readKind_110 : decode cX6_readKind 110 = .ok (.iload_n 2, 1) := by decide +kernel
theorem dX6_readKind_111 : decode cX6_readKind 111 = .ok (.bipush 91, 2) := by decide +kernel
theorem dX6_readKind_113 : decode cX6_readKind 113 = .ok (.if_icmp .ne 25, 3) := by decide +kernel
theorem dX6_readKind_116 : decode cX6_readKind 116 = .ok (.aload_n 0, 1) := by decide +kernel
theorem dX6_readKind_117 : decode cX6_readKind 117 = .ok (.iload_n 3, 1) := by decide +kernel
theorem dX6_readKind_118 : decode cX6_readKind 118 = .ok (.iload_n 2, 1) := by decide +kernel
theorem dX6_readKind_119 : decode cX6_readKind 119 = .ok (.bipush 123, 2) := by decide +kernel
theorem dX6_readKind_121 : decode cX6_readKind 121 = .ok (.if_icmp .ne 8, 3) := by decide +kernel
theorem dX6_readKind_124 : decode cX6_readKind 124 = .ok (.bipush 125, 2) := by decide +kernel
theorem dX6_readKind_126 : decode cX6_readKind 126 = .ok (.goto 5, 3) := by decide +kernel
theorem dX6_readKind_129 : decode cX6_readKind 129 = .ok (.bipush 93, 2) := by decide +kernel
theorem dX6_readKind_131 : decode cX6_readKind 131 = .ok (.iload_n 1, 1) := by decide +kernel
theorem dX6_readKind_132 : decode cX6_readKind 132 = .ok (.invokevirtual 85, 3) := by decide +kernel
theorem dX6_readKind_135 : decode cX6_readKind 135 = .ok (.goto 30, 3) := by decide +kernel
theorem dX6_readKind_138 : decode cX6_readKind 138 = .ok (.iload_n 2, 1) := by decide +kernel
theorem dX6_readKind_139 : decode cX6_readKind 139 = .ok (.invokestatic 82, 3) := by decide +kernel
theorem dX6_readKind_142 : decode cX6_readKind 142 = .ok (.ifCond .eq 23, 3) := by decide +kernel
theorem dX6_readKind_145 : decode cX6_readKind 145 = .ok (.aload_n 0, 1) := by decide +kernel
theorem dX6_readKind_146 : decode cX6_readKind 146 = .ok (.iload_n 3, 1) := by decide +kernel
theorem dX6_readKind_147 : decode cX6_readKind 147 = .ok (.iconst 0, 1) := by decide +kernel
theorem dX6_readKind_148 : decode cX6_readKind 148 = .ok (.iload_n 1, 1) := by decide +kernel
theorem dX6_readKind_149 : decode cX6_readKind 149 = .ok (.invokevirtual 88, 3) := by decide +kernel
theorem dX6_readKind_152 : decode cX6_readKind 152 = .ok (.iload_n 2, 1) := by decide +kernel
theorem dX6_readKind_153 : decode cX6_readKind 153 = .ok (.bipush 62, 2) := by decide +kernel
theorem dX6_readKind_155 : decode cX6_readKind 155 = .ok (.if_icmp .ne 10, 3) := by decide +kernel
theorem dX6_readKind_158 : decode cX6_readKind 158 = .ok (.aload_n 0, 1) := by decide +kernel
theorem dX6_readKind_159 : decode cX6_readKind 159 = .ok (.iload_n 3, 1) := by decide +kernel
theorem dX6_readKind_160 : decode cX6_readKind 160 = .ok (.iconst 1, 1) := by decide +kernel
theorem dX6_readKind_161 : decode cX6_readKind 161 = .ok (.iload_n 1, 1) := by decide +kernel
theorem dX6_readKind_162 : decode cX6_readKind 162 = .ok (.invokevirtual 88, 3) := by decide +kernel
theorem dX6_readKind_165 : decode cX6_readKind 165 = .ok (.iload_n 3, 1) := by decide +kernel
theorem dX6_readKind_166 : decode cX6_readKind 166 = .ok (.ireturn, 1) := by decide +kernel
theorem dX6_readLetters_0 : decode cX6_readLetters 0 = .ok (.iconst 0, 1) := by decide +kernel
theorem dX6_readLetters_1 : decode cX6_readLetters 1 = .ok (.istore 4, 2) := by decide +kernel
theorem dX6_readLetters_3 : decode cX6_readLetters 3 = .ok (.iconst 0, 1) := by decide +kernel
theorem dX6_readLetters_4 : decode cX6_readLetters 4 = .ok (.istore 5, 2) := by decide +kernel
theorem dX6_readLetters_6 : decode cX6_readLetters 6 = .ok (.iload 5, 2) := by decide +kernel
theorem dX6_readLetters_8 : decode cX6_readLetters 8 = .ok (.bipush 8, 2) := by decide +kernel
theorem dX6_readLetters_10 : decode cX6_readLetters 10 = .ok (.if_icmp .gt 103, 3) := by decide +kernel
theorem dX6_readLetters_13 : decode cX6_readLetters 13 = .ok (.aload_n 0, 1) := by decide +kernel
theorem dX6_readLetters_14 : decode cX6_readLetters 14 = .ok (.getfield 28, 3) := by decide +kernel
theorem dX6_readLetters_17 : decode cX6_readLetters 17 = .ok (.ifCond .ne 96, 3) := by decide +kernel
theorem dX6_readLetters_20 : decode cX6_readLetters 20 = .ok (.aload_n 0, 1) := by decide +kernel
theorem dX6_readLetters_21 : decode cX6_readLetters 21 = .ok (.getfield 9, 3) := by decide +kernel
theorem dX6_readLetters_24 : decode cX6_readLetters 24 = .ok (.aload_n 0, 1) := by decide +kernel
theorem dX6_readLetters_25 : decode cX6_readLetters 25 = .ok (.getfield 24, 3) := by decide +kernel
theorem dX6_readLetters_28 : decode cX6_readLetters 28 = .ok (.invokevirtual 44, 3) := by decide +kernel
theorem dX6_readLetters_31 : decode cX6_readLetters 31 = .ok (.istore 6, 2) := by decide +kernel
theorem dX6_readLetters_33 : decode cX6_readLetters 33 = .ok (.iload 6, 2) := by decide +kernel
theorem dX6_readLetters_35 : decode cX6_readLetters 35 = .ok (.iload_n 2, 1) := by decide +kernel
theorem dX6_readLetters_36 : decode cX6_readLetters 36 = .ok (.if_icmp .ne 14, 3) := by decide +kernel
theorem dX6_readLetters_39 : decode cX6_readLetters 39 = .ok (.aload_n 0, 1) := by decide +kernel
theorem dX6_readLetters_40 : decode cX6_readLetters 40 = .ok (.dup, 1) := by decide +kernel
theorem dX6_readLetters_41 : decode cX6_readLetters 41 = .ok (.getfield 24, 3) := by decide +kernel
theorem dX6_readLetters_44 : decode cX6_readLetters 44 = .ok (.iconst 1, 1) := by decide +kernel
theorem dX6_readLetters_45 : decode cX6_readLetters 45 = .ok (.iadd, 1) := by decide +kernel
theorem dX6_readLetters_46 : decode cX6_readLetters 46 = .ok (.putfield 24, 3) := by decide +kernel
theorem dX6_readLetters_49 : decode cX6_readLetters 49 = .ok (.return_, 1) := by decide +kernel
theorem dX6_readLetters_50 : decode cX6_readLetters 50 = .ok (.iload 6, 2) := by decide +kernel
theorem dX6_readLetters_52 : decode cX6_readLetters 52 = .ok (.bipush 97, 2) := by decide +kernel
theorem dX6_readLetters_54 : decode cX6_readLetters 54 = .ok (.isub, 1) := by decide +kernel
theorem dX6_readLetters_55 : decode cX6_readLetters 55 = .ok (.istore 7, 2) := by decide +kernel
theorem dX6_readLetters_57 : decode cX6_readLetters 57 = .ok (.iload 7, 2) := by decide +kernel
theorem dX6_readLetters_59 : decode cX6_readLetters 59 = .ok (.iload 4, 2) := by decide +kernel
theorem dX6_readLetters_61 : decode cX6_readLetters 61 = .ok (.if_icmp .lt 16, 3) := by decide +kernel
theorem dX6_readLetters_64 : decode cX6_readLetters 64 = .ok (.iload 7, 2) := by decide +kernel
theorem dX6_readLetters_66 : decode cX6_readLetters 66 = .ok (.bipush 8, 2) := by decide +kernel
theorem dX6_readLetters_68 : decode cX6_readLetters 68 = .ok (.if_icmp .ge 9, 3) := by decide +kernel
theorem dX6_readLetters_71 : decode cX6_readLetters 71 = .ok (.iload_n 3, 1) := by decide +kernel
theorem dX6_readLetters_72 : decode cX6_readLetters 72 = .ok (.bipush 12, 2) := by decide +kernel
theorem dX6_readLetters_74 : decode cX6_readLetters 74 = .ok (.if_icmp .lt 9, 3) := by decide +kernel
theorem dX6_readLetters_77 : decode cX6_readLetters 77 = .ok (.aload_n 0, 1) := by decide +kernel
theorem dX6_readLetters_78 : decode cX6_readLetters 78 = .ok (.iconst 1, 1) := by decide +kernel
theorem dX6_readLetters_79 : decode cX6_readLetters 79 = .ok (.putfield 28, 3) := by decide +kernel
theorem dX6_readLetters_82 : decode cX6_readLetters 82 = .ok (.return_, 1) := by decide +kernel
theorem dX6_readLetters_83 : decode cX6_readLetters 83 = .ok (.aload_n 0, 1) := by decide +kernel
theorem dX6_readLetters_84 : decode cX6_readLetters 84 = .ok (.dup, 1) := by decide +kernel
theorem dX6_readLetters_85 : decode cX6_readLetters 85 = .ok (.getfield 24, 3) := by decide +kernel
theorem dX6_readLetters_88 : decode cX6_readLetters 88 = .ok (.iconst 1, 1) := by decide +kernel
theorem dX6_readLetters_89 : decode cX6_readLetters 89 = .ok (.iadd, 1) := by decide +kernel
theorem dX6_readLetters_90 : decode cX6_readLetters 90 = .ok (.putfield 24, 3) := by decide +kernel
theorem dX6_readLetters_93 : decode cX6_readLetters 93 = .ok (.aload_n 0, 1) := by decide +kernel
theorem dX6_readLetters_94 : decode cX6_readLetters 94 = .ok (.iload_n 1, 1) := by decide +kernel
theorem dX6_readLetters_95 : decode cX6_readLetters 95 = .ok (.iload 7, 2) := by decide +kernel
theorem dX6_readLetters_97 : decode cX6_readLetters 97 = .ok (.iload_n 3, 1) := by decide +kernel
theorem dX6_readLetters_98 : decode cX6_readLetters 98 = .ok (.invokevirtual 88, 3) := by decide +kernel
theorem dX6_readLetters_101 : decode cX6_readLetters 101 = .ok (.iload 7, 2) := by decide +kernel
theorem dX6_readLetters_103 : decode cX6_readLetters 103 = .ok (.iconst 1, 1) := by decide +kernel
theorem dX6_readLetters_104 : decode cX6_readLetters 104 = .ok (.iadd, 1) := by decide +kernel
theorem dX6_readLetters_105 : decode cX6_readLetters 105 = .ok (.istore 4, 2) := by decide +kernel
theorem dX6_readLetters_107 : decode cX6_readLetters 107 = .ok (.iinc 5 1, 3) := by decide +kernel
theorem dX6_readLetters_110 : decode cX6_readLetters 110 = .ok (.goto (-104), 3) := by decide +kernel
theorem dX6_readLetters_113 : decode cX6_readLetters 113 = .ok (.return_, 1) := by decide +kernel
