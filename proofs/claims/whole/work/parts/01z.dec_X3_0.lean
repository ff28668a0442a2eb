theorem dX3_clear_0 : decode cX3_clear 0 = .ok (.aload_n 0, 1) := by decide +kernel
theorem dX3_clear_1 : decode cX3_clear 1 = .ok (.iconst 0, 1) := by decide +kernel
theorem dX3_clear_2 : decode cX3_clear 2 = .ok (.putfield 34, 3) := by decide +kernel
theorem dX3_clear_5 : decode cX3_clear 5 = .ok (.aload_n 0, 1) := by decide +kernel
theorem dX3_clear_6 : decode cX3_clear 6 = .ok (.getfield 25, 3) := by decide +kernel
theorem dX3_clear_9 : decode cX3_clear 9 = .ok (.bipush (-6), 2) := by decide +kernel
theorem dX3_clear_11 : decode cX3_clear 11 = .ok (.invokestatic 28, 3) := by decide +kernel
theorem dX3_clear_14 : decode cX3_clear 14 = .ok (.return_, 1) := by decide +kernel
theorem dX3_nodes_0 : decode cX3_nodes 0 = .ok (.aload_n 0, 1) := by decide +kernel
theorem dX3_nodes_1 : decode cX3_nodes 1 = .ok (.getfield 34, 3) := by decide +kernel
theorem dX3_nodes_4 : decode cX3_nodes 4 = .ok (.ireturn, 1) := by decide +kernel
theorem dX3_has_0 : decode cX3_has 0 = .ok (.iload_n 1, 1) := by decide +kernel
theorem dX3_has_1 : decode cX3_has 1 = .ok (.ifCond .lt 23, 3) := by decide +kernel
theorem dX3_has_4 : decode cX3_has 4 = .ok (.iload_n 1, 1) := by decide +kernel
theorem dX3_has_5 : decode cX3_has 5 = .ok (.aload_n 0, 1) := by decide +kernel
theorem dX3_has_6 : decode cX3_has 6 = .ok (.getfield 34, 3) := by decide +kernel
theorem dX3_has_9 : decode cX3_has 9 = .ok (.if_icmp .ge 15, 3) := by decide +kernel
theorem dX3_has_12 : decode cX3_has 12 = .ok (.iload_n 1, 1) := by decide +kernel
theorem dX3_has_13 : decode cX3_has 13 = .ok (.aload_n 0, 1) := by decide +kernel
theorem dX3_has_14 : decode cX3_has 14 = .ok (.getfield 9, 3) := by decide +kernel
theorem dX3_has_17 : decode cX3_has 17 = .ok (.if_icmp .ge 7, 3) := by decide +kernel
theorem dX3_has_20 : decode cX3_has 20 = .ok (.iconst 1, 1) := by decide +kernel
theorem dX3_has_21 : decode cX3_has 21 = .ok (.goto 4, 3) := by decide +kernel
theorem dX3_has_24 : decode cX3_has 24 = .ok (.iconst 0, 1) := by decide +kernel
theorem dX3_has_25 : decode cX3_has 25 = .ok (.ireturn, 1) := by decide +kernel
theorem dX3_addNode_0 : decode cX3_addNode 0 = .ok (.aload_n 0, 1) := by decide +kernel
theorem dX3_addNode_1 : decode cX3_addNode 1 = .ok (.getfield 34, 3) := by decide +kernel
theorem dX3_addNode_4 : decode cX3_addNode 4 = .ok (.ifCond .lt 14, 3) := by decide +kernel
theorem dX3_addNode_7 : decode cX3_addNode 7 = .ok (.aload_n 0, 1) := by decide +kernel
theorem dX3_addNode_8 : decode cX3_addNode 8 = .ok (.getfield 34, 3) := by decide +kernel
theorem dX3_addNode_11 : decode cX3_addNode 11 = .ok (.aload_n 0, 1) := by decide +kernel
theorem dX3_addNode_12 : decode cX3_addNode 12 = .ok (.getfield 9, 3) := by decide +kernel
theorem dX3_addNode_15 : decode cX3_addNode 15 = .ok (.if_icmp .lt 6, 3) := by decide +kernel
theorem dX3_addNode_18 : decode cX3_addNode 18 = .ok (.bipush (-6), 2) := by decide +kernel
theorem dX3_addNode_20 : decode cX3_addNode 20 = .ok (.ireturn, 1) := by decide +kernel
theorem dX3_addNode_21 : decode cX3_addNode 21 = .ok (.aload_n 0, 1) := by decide +kernel
theorem dX3_addNode_22 : decode cX3_addNode 22 = .ok (.getfield 15, 3) := by decide +kernel
theorem dX3_addNode_25 : decode cX3_addNode 25 = .ok (.aload_n 0, 1) := by decide +kernel
theorem dX3_addNode_26 : decode cX3_addNode 26 = .ok (.getfield 34, 3) := by decide +kernel
theorem dX3_addNode_29 : decode cX3_addNode 29 = .ok (.iload_n 1, 1) := by decide +kernel
theorem dX3_addNode_30 : decode cX3_addNode 30 = .ok (.iastore, 1) := by decide +kernel
theorem dX3_addNode_31 : decode cX3_addNode 31 = .ok (.aload_n 0, 1) := by decide +kernel
theorem dX3_addNode_32 : decode cX3_addNode 32 = .ok (.getfield 19, 3) := by decide +kernel
theorem dX3_addNode_35 : decode cX3_addNode 35 = .ok (.aload_n 0, 1) := by decide +kernel
theorem dX3_addNode_36 : decode cX3_addNode 36 = .ok (.getfield 34, 3) := by decide +kernel
theorem dX3_addNode_39 : decode cX3_addNode 39 = .ok (.iconst 0, 1) := by decide +kernel
theorem dX3_addNode_40 : decode cX3_addNode 40 = .ok (.iastore, 1) := by decide +kernel
theorem dX3_addNode_41 : decode cX3_addNode 41 = .ok (.aload_n 0, 1) := by decide +kernel
theorem dX3_addNode_42 : decode cX3_addNode 42 = .ok (.dup, 1) := by decide +kernel
theorem dX3_addNode_43 : decode cX3_addNode 43 = .ok (.getfield 34, 3) := by decide +kernel
theorem dX3_addNode_46 : decode cX3_addNode 46 = .ok (.iconst 1, 1) := by decide +kernel
theorem dX3_addNode_47 : decode cX3_addNode 47 = .ok (.iadd, 1) := by decide +kernel
theorem dX3_addNode_48 : decode cX3_addNode 48 = .ok (.putfield 34, 3) := by decide +kernel
theorem dX3_addNode_51 : decode cX3_addNode 51 = .ok (.aload_n 0, 1) := by decide +kernel
theorem dX3_addNode_52 : decode cX3_addNode 52 = .ok (.getfield 34, 3) := by decide +kernel
theorem dX3_addNode_55 : decode cX3_addNode 55 = .ok (.iconst 1, 1) := by decide +kernel
theorem dX3_addNode_56 : decode cX3_addNode 56 = .ok (.isub, 1) := by decide +kernel
theorem dX3_addNode_57 : decode cX3_addNode 57 = .ok (.ireturn, 1) := by decide +kernel
theorem dX3_dropFrom_0 : decode cX3_dropFrom 0 = .ok (.iload_n 1, 1) := by decide +kernel
theorem dX3_dropFrom_1 : decode cX3_dropFrom 1 = .ok (.ifCond .lt 16, 3) := by decide +kernel
theorem dX3_dropFrom_4 : decode cX3_dropFrom 4 = .ok (.iload_n 1, 1) := by decide +kernel
theorem dX3_dropFrom_5 : decode cX3_dropFrom 5 = .ok (.aload_n 0, 1) := by decide +kernel
theorem dX3_dropFrom_6 : decode cX3_dropFrom 6 = .ok (.getfield 34, 3) := by decide +kernel
theorem dX3_dropFrom_9 : decode cX3_dropFrom 9 = .ok (.if_icmp .ge 8, 3) := by decide +kernel
theorem dX3_dropFrom_12 : decode cX3_dropFrom 12 = .ok (.aload_n 0, 1) := by decide +kernel
theorem dX3_dropFrom_13 : decode cX3_dropFrom 13 = .ok (.iload_n 1, 1) := by decide +kernel
theorem dX3_dropFrom_14 : decode cX3_dropFrom 14 = .ok (.putfield 34, 3) := by decide +kernel
theorem dX3_dropFrom_17 : decode cX3_dropFrom 17 = .ok (.return_, 1) := by decide +kernel
theorem dX3_setPart_0 : decode cX3_setPart 0 = .ok (.iload_n 1, 1) := by decide +kernel
theorem dX3_setPart_1 : decode cX3_setPart 1 = .ok (.ifCond .lt 53, 3) := by decide +kernel
theorem dX3_setPart_4 : decode cX3_setPart 4 = .ok (.iload_n 1, 1) := by decide +kernel
theorem dX3_setPart_5 : decode cX3_setPart 5 = .ok (.aload_n 0, 1) := by decide +kernel
theorem dX3_setPart_6 : decode cX3_setPart 6 = .ok (.getfield 34, 3) := by decide +kernel
theorem dX3_setPart_9 : decode cX3_setPart 9 = .ok (.if_icmp .ge 45, 3) := by decide +kernel
theorem dX3_setPart_12 : decode cX3_setPart 12 = .ok (.iload_n 1, 1) := by decide +kernel
theorem dX3_setPart_13 : decode cX3_setPart 13 = .ok (.aload_n 0, 1) := by decide +kernel
theorem dX3_setPart_14 : decode cX3_setPart 14 = .ok (.getfield 9, 3) := by decide +kernel
theorem dX3_setPart_17 : decode cX3_setPart 17 = .ok (.if_icmp .ge 37, 3) := by decide +kernel
theorem dX3_setPart_20 : decode cX3_setPart 20 = .ok (.iload_n 2, 1) := by decide +kernel
theorem dX3_setPart_21 : decode cX3_setPart 21 = .ok (.ifCond .lt 33, 3) := by decide +kernel
theorem dX3_setPart_24 : decode cX3_setPart 24 = .ok (.iload_n 2, 1) := by decide +kernel
theorem dX3_setPart_25 : decode cX3_setPart 25 = .ok (.bipush 8, 2) := by decide +kernel
theorem dX3_setPart_27 : decode cX3_setPart 27 = .ok (.if_icmp .ge 27, 3) := by decide +kernel
theorem dX3_setPart_30 : decode cX3_setPart 30 = .ok (.aload_n 0, 1) := by decide +kernel
theorem dX3_setPart_31 : decode cX3_setPart 31 = .ok (.getfield 19, 3) := by decide +kernel
theorem dX3_setPart_34 : decode cX3_setPart 34 = .ok (.iload_n 1, 1) := by decide +kernel
theorem dX3_setPart_35 : decode cX3_setPart 35 = .ok (.dup2, 1) := by decide +kernel
theorem dX3_setPart_36 : decode cX3_setPart 36 = .ok (.iaload, 1) := by decide +kernel
theorem dX3_setPart_37 : decode cX3_setPart 37 = .ok (.iconst 1, 1) := by decide +kernel
theorem dX3_setPart_38 : decode cX3_setPart 38 = .ok (.iload_n 2, 1) := by decide +kernel
theorem dX3_setPart_39 : decode cX3_setPart 39 = .ok (.ishl, 1) := by decide +kernel
theorem dX3_setPart_40 : decode cX3_setPart 40 = .ok (.ior, 1) := by decide +kernel
theorem dX3_setPart_41 : decode cX3_setPart 41 = .ok (.iastore, 1) := by decide +kernel
theorem dX3_setPart_42 : decode cX3_setPart 42 = .ok (.aload_n 0, 1) := by decide +kernel
theorem dX3_setPart_43 : decode cX3_setPart 43 = .ok (.getfield 22, 3) := by decide +kernel
theorem dX3_setPart_46 : decode cX3_setPart 46 = .ok (.iload_n 1, 1) := by decide +kernel
theorem dX3_setPart_47 : decode cX3_setPart 47 = .ok (.bipush 8, 2) := by decide +kernel
theorem dX3_setPart_49 : decode cX3_setPart 49 = .ok (.imul, 1) := by decide +kernel
theorem dX3_setPart_50 : decode cX3_setPart 50 = .ok (.iload_n 2, 1) := by decide +kernel
theorem dX3_setPart_51 : decode cX3_setPart 51 = .ok (.iadd, 1) := by decide +kernel
theorem dX3_setPart_52 : decode cX3_setPart 52 = .ok (.iload_n 3, 1) := by decide +kernel
theorem dX3_setPart_53 : decode cX3_setPart 53 = .ok (.iastore, 1) := by decide +kernel
theorem dX3_setPart_54 : decode cX3_setPart 54 = .ok (.return_, 1) := by decide +kernel
theorem dX3_signOf_0 : decode cX3_signOf 0 = .ok (.iload_n 1, 1) := by decide +kernel
theorem dX3_signOf_1 : decode cX3_signOf 1 = .ok (.ifCond .lt 28, 3) := by decide +kernel
theorem dX3_signOf_4 : decode cX3_signOf 4 = .ok (.iload_n 1, 1) := by decide +kernel
theorem dX3_signOf_5 : decode cX3_signOf 5 = .ok (.aload_n 0, 1) := by decide +kernel
theorem dX3_signOf_6 : decode cX3_signOf 6 = .ok (.getfield 34, 3) := by decide +kernel
theorem dX3_signOf_9 : decode cX3_signOf 9 = .ok (.if_icmp .ge 20, 3) := by decide +kernel
theorem dX3_signOf_12 : decode cX3_signOf 12 = .ok (.iload_n 1, 1) := by decide +kernel
theorem dX3_signOf_13 : decode cX3_signOf 13 = .ok (.aload_n 0, 1) := by decide +kernel
theorem dX3_signOf_14 : decode cX3_signOf 14 = .ok (.getfield 9, 3) := by decide +kernel
theorem dX3_signOf_17 : decode cX3_signOf 17 = .ok (.if_icmp .ge 12, 3) := by decide +kernel
theorem dX3_signOf_20 : decode cX3_signOf 20 = .ok (.aload_n 0, 1) := by decide +kernel
theorem dX3_signOf_21 : decode cX3_signOf 21 = .ok (.getfield 15, 3) := by decide +kernel
theorem dX3_signOf_24 : decode cX3_signOf 24 = .ok (.iload_n 1, 1) := by decide +kernel
theorem dX3_signOf_25 : decode cX3_signOf 25 = .ok (.iaload, 1) := by decide +kernel
theorem dX3_signOf_26 : decode cX3_signOf 26 = .ok (.goto 4, 3) := by decide +kernel
theorem dX3_signOf_29 : decode cX3_signOf 29 = .ok (.iconst 0, 1) := by decide +kernel
theorem dX3_signOf_30 : decode cX3_signOf 30 = .ok (.ireturn, 1) := by decide +kernel
theorem dX3_slotsOf_0 : decode cX3_slotsOf 0 = .ok (.iload_n 1, 1) := by decide +kernel
theorem dX3_slotsOf_1 : decode cX3_slotsOf 1 = .ok (.ifCond .lt 28, 3) := by decide +kernel
theorem dX3_slotsOf_4 : decode cX3_slotsOf 4 = .ok (.iload_n 1, 1) := by decide +kernel
theorem dX3_slotsOf_5 : decode cX3_slotsOf 5 = .ok (.aload_n 0, 1) := by decide +kernel
theorem dX3_slotsOf_6 : decode cX3_slotsOf 6 = .ok (.getfield 34, 3) := by decide +kernel
theorem dX3_slotsOf_9 : decode cX3_slotsOf 9 = .ok (.if_icmp .ge 20, 3) := by decide +kernel
theorem dX3_slotsOf_12 : decode cX3_slotsOf 12 = .ok (.iload_n 1, 1) := by decide +kernel
theorem dX3_slotsOf_13 : decode cX3_slotsOf 13 = .ok (.aload_n 0, 1) := by decide +kernel
theorem dX3_slotsOf_14 : decode cX3_slotsOf 14 = .ok (.getfield 9, 3) := by decide +kernel
theorem dX3_slotsOf_17 : decode cX3_slotsOf 17 = .ok (.if_icmp .ge 12, 3) := by decide +kernel
theorem dX3_slotsOf_20 : decode cX3_slotsOf 20 = .ok (.aload_n 0, 1) := by decide +kernel
theorem dX3_slotsOf_21 : decode cX3_slotsOf 21 = .ok (.getfield 19, 3) := by decide +kernel
theorem dX3_slotsOf_24 : decode cX3_slotsOf 24 = .ok (.iload_n 1, 1) := by decide +kernel
theorem dX3_slotsOf_25 : decode cX3_slotsOf 25 = .ok (.iaload, 1) := by decide +kernel
theorem dX3_slotsOf_26 : decode cX3_slotsOf 26 = .ok (.goto 4, 3) := by decide +kernel
theorem dX3_slotsOf_29 : decode cX3_slotsOf 29 = .ok (.iconst 0, 1) := by decide +kernel
theorem dX3_slotsOf_30 : decode cX3_slotsOf 30 = .ok (.ireturn, 1) := by decide +kernel
theorem dX3_partAt_0 : decode cX3_partAt 0 = .ok (.iload_n 1, 1) := by decide +kernel
theorem dX3_partAt_1 : decode cX3_partAt 1 = .ok (.ifCond .lt 29, 3) := by decide +kernel
theorem dX3_partAt_4 : decode cX3_partAt 4 = .ok (.iload_n 1, 1) := by decide +kernel
theorem dX3_partAt_5 : decode cX3_partAt 5 = .ok (.aload_n 0, 1) := by decide +kernel
theorem dX3_partAt_6 : decode cX3_partAt 6 = .ok (.getfield 34, 3) := by decide +kernel
theorem dX3_partAt_9 : decode cX3_partAt 9 = .ok (.if_icmp .ge 21, 3) := by decide +kernel
theorem dX3_partAt_12 : decode cX3_partAt 12 = .ok (.iload_n 1, 1) := by decide +kernel
theorem dX3_partAt_13 : decode cX3_partAt 13 = .ok (.aload_n 0, 1) := by decide +kernel
theorem dX3_partAt_14 : decode cX3_partAt 14 = .ok (.getfield 9, 3) := by decide +kernel
theorem dX3_partAt_17 : decode cX3_partAt 17 = .ok (.if_icmp .ge 13, 3) := by decide +kernel
theorem dX3_partAt_20 : decode cX3_partAt 20 = .ok (.iload_n 2, 1) := by decide +kernel
theorem dX3_partAt_21 : decode cX3_partAt 21 = .ok (.ifCond .lt 9, 3) := by decide +kernel
theorem dX3_partAt_24 : decode cX3_partAt 24 = .ok (.iload_n 2, 1) := by decide +kernel
theorem dX3_partAt_25 : decode cX3_partAt 25 = .ok (.bipush 8, 2) := by decide +kernel
theorem dX3_partAt_27 : decode cX3_partAt 27 = .ok (.if_icmp .lt 6, 3) := by decide +kernel
theorem dX3_partAt_30 : decode cX3_partAt 30 = .ok (.bipush (-6), 2) := by decide +kernel
theorem dX3_partAt_32 : decode cX3_partAt 32 = .ok (.ireturn, 1) := by decide +kernel
theorem dX3_partAt_33 : decode cX3_partAt 33 = .ok (.aload_n 0, 1) := by decide +kernel
theorem dX3_partAt_34 : decode cX3_partAt 34 = .ok (.getfield 19, 3) := by decide +kernel
theorem dX3_partAt_37 : decode cX3_partAt 37 = .ok (.iload_n 1, 1) := by decide +kernel
theorem dX3_partAt_38 : decode cX3_partAt 38 = .ok (.iaload, 1) := by decide +kernel
theorem dX3_partAt_39 : decode cX3_partAt 39 = .ok (.iload_n 2, 1) := by decide +kernel
theorem dX3_partAt_40 : decode cX3_partAt 40 = .ok (.ishr, 1) := by decide +kernel
theorem dX3_partAt_41 : decode cX3_partAt 41 = .ok (.iconst 1, 1) := by decide +kernel
theorem dX3_partAt_42 : decode cX3_partAt 42 = .ok (.iand, 1) := by decide +kernel
theorem dX3_partAt_43 : decode cX3_partAt 43 = .ok (.iconst 1, 1) := by decide +kernel
theorem dX3_partAt_44 : decode cX3_partAt 44 = .ok (.if_icmp .ne 17, 3) := by decide +kernel
theorem dX3_partAt_47 : decode cX3_partAt 47 = .ok (.aload_n 0, 1) := by decide +kernel
theorem dX3_partAt_48 : decode cX3_partAt 48 = .ok (.getfield 22, 3) := by decide +kernel
theorem dX3_partAt_51 : decode cX3_partAt 51 = .ok (.iload_n 1, 1) := by decide +kernel
theorem dX3_partAt_52 : decode cX3_partAt 52 = .ok (.bipush 8, 2) := by decide +kernel
theorem dX3_partAt_54 : decode cX3_partAt 54 = .ok (.imul, 1) := by decide +kernel
theorem dX3_partAt_55 : decode cX3_partAt 55 = .ok (.iload_n 2, 1) := by decide +kernel
theorem dX3_partAt_56 : decode cX3_partAt 56 = .ok (.iadd, 1) := by decide +kernel
theorem dX3_partAt_57 : decode cX3_partAt 57 = .ok (.iaload, 1) := by decide +kernel
theorem dX3_partAt_58 : decode cX3_partAt 58 = .ok (.goto 5, 3) := by decide +kernel
theorem dX3_partAt_61 : decode cX3_partAt 61 = .ok (.bipush (-6), 2) := by decide +kernel
theorem dX3_partAt_63 : decode cX3_partAt 63 = .ok (.ireturn, 1) := by decide +kernel
theorem dX3_setName_0 : decode cX3_setName 0 = .ok (.iload_n 1, 1) := by decide +kernel
theorem dX3_setName_1 : decode cX3_setName 1 = .ok (.ifCond .lt 16, 3) := by decide +kernel
theorem dX3_setName_4 : decode cX3_setName 4 = .ok (.iload_n 1, 1) := by decide +kernel
theorem dX3_setName_5 : decode cX3_setName 5 = .ok (.bipush 8, 2) := by decide +kernel
theorem dX3_setName_7 : decode cX3_setName 7 = .ok (.if_icmp .ge 10, 3) := by decide +kernel
theorem dX3_setName_10 : decode cX3_setName 10 = .ok (.aload_n 0, 1) := by decide +kernel
theorem dX3_setName_11 : decode cX3_setName 11 = .ok (.getfield 25, 3) := by decide +kernel
theorem dX3_setName_14 : decode cX3_setName 14 = .ok (.iload_n 1, 1) := by decide +kernel
theorem dX3_setName_15 : decode cX3_setName 15 = .ok (.iload_n 2, 1) := by decide +kernel
theorem dX3_setName_16 : decode cX3_setName 16 = .ok (.iastore, 1) := by decide +kernel
theorem dX3_setName_17 : decode cX3_setName 17 = .ok (.return_, 1) := by decide +kernel
theorem dX3_nameAt_0 : decode cX3_nameAt 0 = .ok (.iload_n 1, 1) := by decide +kernel
theorem dX3_nameAt_1 : decode cX3_nameAt 1 = .ok (.ifCond .lt 18, 3) := by decide +kernel
theorem dX3_nameAt_4 : decode cX3_nameAt 4 = .ok (.iload_n 1, 1) := by decide +kernel
theorem dX3_nameAt_5 : decode cX3_nameAt 5 = .ok (.bipush 8, 2) := by decide +kernel
theorem dX3_nameAt_7 : decode cX3_nameAt 7 = .ok (.if_icmp .ge 12, 3) := by decide +kernel
theorem dX3_nameAt_10 : decode cX3_nameAt 10 = .ok (.aload_n 0, 1) := by decide +kernel
theorem dX3_nameAt_11 : decode cX3_nameAt 11 = .ok (.getfield 25, 3) := by decide +kernel
theorem dX3_nameAt_14 : decode cX3_nameAt 14 = .ok (.iload_n 1, 1) := by decide +kernel
theorem dX3_nameAt_15 : decode cX3_nameAt 15 = .ok (.iaload, 1) := by decide +kernel
theorem dX3_nameAt_16 : decode cX3_nameAt 16 = .ok (.goto 5, 3) := by decide +kernel
theorem dX3_nameAt_19 : decode cX3_nameAt 19 = .ok (.bipush (-6), 2) := by decide +kernel
theorem dX3_nameAt_21 : decode cX3_nameAt 21 = .ok (.ireturn, 1) := by decide +kernel
theorem dX3_namesTold_0 : decode cX3_namesTold 0 = .ok (.iconst 0, 1) := by decide +kernel
theorem dX3_namesTold_1 : decode cX3_namesTold 1 = .ok (.istore_n 1, 1) := by decide +kernel
theorem dX3_namesTold_2 : decode cX3_namesTold 2 = .ok (.iconst 0, 1) := by decide +kernel
theorem dX3_namesTold_3 : decode cX3_namesTold 3 = .ok (.istore_n 2, 1) := by decide +kernel
theorem dX3_namesTold_4 : decode cX3_namesTold 4 = .ok (.iload_n 2, 1) := by decide +kernel
theorem dX3_namesTold_5 : decode cX3_namesTold 5 = .ok (.bipush 8, 2) := by decide +kernel
theorem dX3_namesTold_7 : decode cX3_namesTold 7 = .ok (.if_icmp .ge 22, 3) := by decide +kernel
theorem dX3_namesTold_10 : decode cX3_namesTold 10 = .ok (.aload_n 0, 1) := by decide +kernel
theorem dX3_namesTold_11 : decode cX3_namesTold 11 = .ok (.iload_n 2, 1) := by decide +kernel
theorem dX3_namesTold_12 : decode cX3_namesTold 12 = .ok (.invokevirtual 37, 3) := by decide +kernel
theorem dX3_namesTold_15 : decode cX3_namesTold 15 = .ok (.bipush (-6), 2) := by decide +kernel
theorem dX3_namesTold_17 : decode cX3_namesTold 17 = .ok (.if_icmp .eq 6, 3) := by decide +kernel
theorem dX3_namesTold_20 : decode cX3_namesTold 20 = .ok (.iinc 1 1, 3) := by decide +kernel
theorem dX3_namesTold_23 : decode cX3_namesTold 23 = .ok (.iinc 2 1, 3) := by decide +kernel
theorem dX3_namesTold_26 : decode cX3_namesTold 26 = .ok (.goto (-22), 3) := by decide +kernel
theorem dX3_namesTold_29 : decode cX3_namesTold 29 = .ok (.iload_n 1, 1) := by decide +kernel
theorem dX3_namesTold_30 : decode cX3_namesTold 30 = .ok (.ireturn, 1) := by decide +kernel
