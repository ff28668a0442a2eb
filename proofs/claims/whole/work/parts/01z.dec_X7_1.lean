theorem dX7_readCase_5 : decode cX7_readCase 5 = .ok (.iload_n 3, 1) := by decide +kernel
theorem dX7_readCase_6 : decode cX7_readCase 6 = .ok (.ifCond .lt 9, 3) := by decide +kernel
theorem dX7_readCase_9 : decode cX7_readCase 9 = .ok (.iload_n 3, 1) := by decide +kernel
theorem dX7_readCase_10 : decode cX7_readCase 10 = .ok (.bipush 8, 2) := by decide +kernel
theorem dX7_readCase_12 : decode cX7_readCase 12 = .ok (.if_icmp .lt 5, 3) := by decide +kernel
theorem dX7_readCase_15 : decode cX7_readCase 15 = .ok (.iconst 0, 1) := by decide +kernel
theorem dX7_readCase_16 : decode cX7_readCase 16 = .ok (.ireturn, 1) := by decide +kernel
theorem dX7_readCase_17 : decode cX7_readCase 17 = .ok (.aload_n 0, 1) := by decide +kernel
theorem dX7_readCase_18 : decode cX7_readCase 18 = .ok (.aload_n 0, 1) := by decide +kernel
theorem dX7_readCase_19 : decode cX7_readCase 19 = .ok (.iload_n 3, 1) := by decide +kernel
theorem dX7_readCase_20 : decode cX7_readCase 20 = .ok (.invokevirtual 100, 3) := by decide +kernel
theorem dX7_readCase_23 : decode cX7_readCase 23 = .ok (.putfield 36, 3) := by decide +kernel
theorem dX7_readCase_26 : decode cX7_readCase 26 = .ok (.aload_n 0, 1) := by decide +kernel
theorem dX7_readCase_27 : decode cX7_readCase 27 = .ok (.invokevirtual 103, 3) := by decide +kernel
theorem dX7_readCase_30 : decode cX7_readCase 30 = .ok (.bipush (-7), 2) := by decide +kernel
theorem dX7_readCase_32 : decode cX7_readCase 32 = .ok (.if_icmp .eq 19, 3) := by decide +kernel
theorem dX7_readCase_35 : decode cX7_readCase 35 = .ok (.aload_n 0, 1) := by decide +kernel
theorem dX7_readCase_36 : decode cX7_readCase 36 = .ok (.getfield 36, 3) := by decide +kernel
theorem dX7_readCase_39 : decode cX7_readCase 39 = .ok (.bipush (-7), 2) := by decide +kernel
theorem dX7_readCase_41 : decode cX7_readCase 41 = .ok (.if_icmp .ne 10, 3) := by decide +kernel
theorem dX7_readCase_44 : decode cX7_readCase 44 = .ok (.aload_n 0, 1) := by decide +kernel
theorem dX7_readCase_45 : decode cX7_readCase 45 = .ok (.iload_n 2, 1) := by decide +kernel
theorem dX7_readCase_46 : decode cX7_readCase 46 = .ok (.iconst 1, 1) := by decide +kernel
theorem dX7_readCase_47 : decode cX7_readCase 47 = .ok (.isub, 1) := by decide +kernel
theorem dX7_readCase_48 : decode cX7_readCase 48 = .ok (.invokevirtual 93, 3) := by decide +kernel
theorem dX7_readCase_51 : decode cX7_readCase 51 = .ok (.aload_n 0, 1) := by decide +kernel
theorem dX7_readCase_52 : decode cX7_readCase 52 = .ok (.iconst 0, 1) := by decide +kernel
theorem dX7_readCase_53 : decode cX7_readCase 53 = .ok (.putfield 33, 3) := by decide +kernel
theorem dX7_readCase_56 : decode cX7_readCase 56 = .ok (.iconst 1, 1) := by decide +kernel
theorem dX7_readCase_57 : decode cX7_readCase 57 = .ok (.ireturn, 1) := by decide +kernel
theorem dX7_innermostNode_0 : decode cX7_innermostNode 0 = .ok (.aload_n 0, 1) := by decide +kernel
theorem dX7_innermostNode_1 : decode cX7_innermostNode 1 = .ok (.invokevirtual 97, 3) := by decide +kernel
theorem dX7_innermostNode_4 : decode cX7_innermostNode 4 = .ok (.ifCond .eq 17, 3) := by decide +kernel
theorem dX7_innermostNode_7 : decode cX7_innermostNode 7 = .ok (.aload_n 0, 1) := by decide +kernel
theorem dX7_innermostNode_8 : decode cX7_innermostNode 8 = .ok (.getfield 23, 3) := by decide +kernel
theorem dX7_innermostNode_11 : decode cX7_innermostNode 11 = .ok (.aload_n 0, 1) := by decide +kernel
theorem dX7_innermostNode_12 : decode cX7_innermostNode 12 = .ok (.getfield 29, 3) := by decide +kernel
theorem dX7_innermostNode_15 : decode cX7_innermostNode 15 = .ok (.iconst 1, 1) := by decide +kernel
theorem dX7_innermostNode_16 : decode cX7_innermostNode 16 = .ok (.isub, 1) := by decide +kernel
theorem dX7_innermostNode_17 : decode cX7_innermostNode 17 = .ok (.iaload, 1) := by decide +kernel
theorem dX7_innermostNode_18 : decode cX7_innermostNode 18 = .ok (.goto 5, 3) := by decide +kernel
theorem dX7_innermostNode_21 : decode cX7_innermostNode 21 = .ok (.bipush (-7), 2) := by decide +kernel
theorem dX7_innermostNode_23 : decode cX7_innermostNode 23 = .ok (.ireturn, 1) := by decide +kernel
theorem dX7_dueAt_0 : decode cX7_dueAt 0 = .ok (.aload_n 0, 1) := by decide +kernel
theorem dX7_dueAt_1 : decode cX7_dueAt 1 = .ok (.getfield 15, 3) := by decide +kernel
theorem dX7_dueAt_4 : decode cX7_dueAt 4 = .ok (.aload_n 0, 1) := by decide +kernel
theorem dX7_dueAt_5 : decode cX7_dueAt 5 = .ok (.invokevirtual 103, 3) := by decide +kernel
theorem dX7_dueAt_8 : decode cX7_dueAt 8 = .ok (.iload_n 1, 1) := by decide +kernel
theorem dX7_dueAt_9 : decode cX7_dueAt 9 = .ok (.invokevirtual 109, 3) := by decide +kernel
theorem dX7_dueAt_12 : decode cX7_dueAt 12 = .ok (.istore_n 2, 1) := by decide +kernel
theorem dX7_dueAt_13 : decode cX7_dueAt 13 = .ok (.iload_n 2, 1) := by decide +kernel
theorem dX7_dueAt_14 : decode cX7_dueAt 14 = .ok (.bipush (-6), 2) := by decide +kernel
theorem dX7_dueAt_16 : decode cX7_dueAt 16 = .ok (.if_icmp .ne 8, 3) := by decide +kernel
theorem dX7_dueAt_19 : decode cX7_dueAt 19 = .ok (.bipush (-7), 2) := by decide +kernel
theorem dX7_dueAt_21 : decode cX7_dueAt 21 = .ok (.goto 4, 3) := by decide +kernel
theorem dX7_dueAt_24 : decode cX7_dueAt 24 = .ok (.iload_n 2, 1) := by decide +kernel
theorem dX7_dueAt_25 : decode cX7_dueAt 25 = .ok (.ireturn, 1) := by decide +kernel
