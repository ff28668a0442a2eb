theorem dX8_say_0 : decode cX8_say 0 = .ok (.iload_n 1, 1) := by decide +kernel
theorem dX8_say_1 : decode cX8_say 1 = .ok (.bipush 33, 2) := by decide +kernel
theorem dX8_say_3 : decode cX8_say 3 = .ok (.if_icmp .lt 9, 3) := by decide +kernel
theorem dX8_say_6 : decode cX8_say 6 = .ok (.iload_n 1, 1) := by decide +kernel
theorem dX8_say_7 : decode cX8_say 7 = .ok (.bipush 126, 2) := by decide +kernel
theorem dX8_say_9 : decode cX8_say 9 = .ok (.if_icmp .le 6, 3) := by decide +kernel
theorem dX8_say_12 : decode cX8_say 12 = .ok (.bipush (-2), 2) := by decide +kernel
theorem dX8_say_14 : decode cX8_say 14 = .ok (.ireturn, 1) := by decide +kernel
theorem dX8_say_15 : decode cX8_say 15 = .ok (.aload_n 0, 1) := by decide +kernel
theorem dX8_say_16 : decode cX8_say 16 = .ok (.getfield 10, 3) := by decide +kernel
theorem dX8_say_19 : decode cX8_say 19 = .ok (.iload_n 1, 1) := by decide +kernel
theorem dX8_say_20 : decode cX8_say 20 = .ok (.invokevirtual 75, 3) := by decide +kernel
theorem dX8_say_23 : decode cX8_say 23 = .ok (.ifCond .eq 13, 3) := by decide +kernel
theorem dX8_say_26 : decode cX8_say 26 = .ok (.aload_n 0, 1) := by decide +kernel
theorem dX8_say_27 : decode cX8_say 27 = .ok (.getfield 10, 3) := by decide +kernel
theorem dX8_say_30 : decode cX8_say 30 = .ok (.invokevirtual 79, 3) := by decide +kernel
theorem dX8_say_33 : decode cX8_say 33 = .ok (.goto 5, 3) := by decide +kernel
theorem dX8_say_36 : decode cX8_say 36 = .ok (.bipush (-4), 2) := by decide +kernel
theorem dX8_say_38 : decode cX8_say 38 = .ok (.ireturn, 1) := by decide +kernel
theorem dX8_wipe_0 : decode cX8_wipe 0 = .ok (.aload_n 0, 1) := by decide +kernel
theorem dX8_wipe_1 : decode cX8_wipe 1 = .ok (.getfield 10, 3) := by decide +kernel
theorem dX8_wipe_4 : decode cX8_wipe 4 = .ok (.invokevirtual 79, 3) := by decide +kernel
theorem dX8_wipe_7 : decode cX8_wipe 7 = .ok (.istore_n 1, 1) := by decide +kernel
theorem dX8_wipe_8 : decode cX8_wipe 8 = .ok (.aload_n 0, 1) := by decide +kernel
theorem dX8_wipe_9 : decode cX8_wipe 9 = .ok (.getfield 10, 3) := by decide +kernel
theorem dX8_wipe_12 : decode cX8_wipe 12 = .ok (.invokevirtual 83, 3) := by decide +kernel
theorem dX8_wipe_15 : decode cX8_wipe 15 = .ok (.iload_n 1, 1) := by decide +kernel
theorem dX8_wipe_16 : decode cX8_wipe 16 = .ok (.ireturn, 1) := by decide +kernel
theorem dX8_fault_0 : decode cX8_fault 0 = .ok (.aload_n 0, 1) := by decide +kernel
theorem dX8_fault_1 : decode cX8_fault 1 = .ok (.getfield 30, 3) := by decide +kernel
theorem dX8_fault_4 : decode cX8_fault 4 = .ok (.invokevirtual 86, 3) := by decide +kernel
theorem dX8_fault_7 : decode cX8_fault 7 = .ok (.ireturn, 1) := by decide +kernel
theorem dX8_take_0 : decode cX8_take 0 = .ok (.aload_n 0, 1) := by decide +kernel
theorem dX8_take_1 : decode cX8_take 1 = .ok (.getfield 30, 3) := by decide +kernel
theorem dX8_take_4 : decode cX8_take 4 = .ok (.invokevirtual 86, 3) := by decide +kernel
theorem dX8_take_7 : decode cX8_take 7 = .ok (.bipush (-6), 2) := by decide +kernel
theorem dX8_take_9 : decode cX8_take 9 = .ok (.if_icmp .ne 13, 3) := by decide +kernel
theorem dX8_take_12 : decode cX8_take 12 = .ok (.aload_n 0, 1) := by decide +kernel
theorem dX8_take_13 : decode cX8_take 13 = .ok (.getfield 30, 3) := by decide +kernel
theorem dX8_take_16 : decode cX8_take 16 = .ok (.invokevirtual 89, 3) := by decide +kernel
theorem dX8_take_19 : decode cX8_take 19 = .ok (.ifCond .ne 6, 3) := by decide +kernel
theorem dX8_take_22 : decode cX8_take 22 = .ok (.bipush (-5), 2) := by decide +kernel
theorem dX8_take_24 : decode cX8_take 24 = .ok (.ireturn, 1) := by decide +kernel
theorem dX8_take_25 : decode cX8_take 25 = .ok (.aload_n 0, 1) := by decide +kernel
theorem dX8_take_26 : decode cX8_take 26 = .ok (.getfield 30, 3) := by decide +kernel
theorem dX8_take_29 : decode cX8_take 29 = .ok (.invokevirtual 93, 3) := by decide +kernel
theorem dX8_take_32 : decode cX8_take 32 = .ok (.bipush 40, 2) := by decide +kernel
theorem dX8_take_34 : decode cX8_take 34 = .ok (.if_icmp .le 6, 3) := by decide +kernel
theorem dX8_take_37 : decode cX8_take 37 = .ok (.bipush (-4), 2) := by decide +kernel
theorem dX8_take_39 : decode cX8_take 39 = .ok (.ireturn, 1) := by decide +kernel
theorem dX8_take_40 : decode cX8_take 40 = .ok (.aload_n 0, 1) := by decide +kernel
theorem dX8_take_41 : decode cX8_take 41 = .ok (.getfield 30, 3) := by decide +kernel
theorem dX8_take_44 : decode cX8_take 44 = .ok (.aload_n 0, 1) := by decide +kernel
theorem dX8_take_45 : decode cX8_take 45 = .ok (.getfield 21, 3) := by decide +kernel
theorem dX8_take_48 : decode cX8_take 48 = .ok (.invokevirtual 96, 3) := by decide +kernel
theorem dX8_take_51 : decode cX8_take 51 = .ok (.aload_n 0, 1) := by decide +kernel
theorem dX8_take_52 : decode cX8_take 52 = .ok (.getfield 10, 3) := by decide +kernel
theorem dX8_take_55 : decode cX8_take 55 = .ok (.invokevirtual 83, 3) := by decide +kernel
theorem dX8_take_58 : decode cX8_take 58 = .ok (.aload_n 0, 1) := by decide +kernel
theorem dX8_take_59 : decode cX8_take 59 = .ok (.getfield 39, 3) := by decide +kernel
theorem dX8_take_62 : decode cX8_take 62 = .ok (.invokevirtual 99, 3) := by decide +kernel
theorem dX8_take_65 : decode cX8_take 65 = .ok (.aload_n 0, 1) := by decide +kernel
theorem dX8_take_66 : decode cX8_take 66 = .ok (.getfield 64, 3) := by decide +kernel
theorem dX8_take_69 : decode cX8_take 69 = .ok (.invokevirtual 102, 3) := by decide +kernel
theorem dX8_take_72 : decode cX8_take 72 = .ok (.aload_n 0, 1) := by decide +kernel
theorem dX8_take_73 : decode cX8_take 73 = .ok (.getfield 71, 3) := by decide +kernel
theorem dX8_take_76 : decode cX8_take 76 = .ok (.invokevirtual 103, 3) := by decide +kernel
theorem dX8_take_79 : decode cX8_take 79 = .ok (.aload_n 0, 1) := by decide +kernel
theorem dX8_take_80 : decode cX8_take 80 = .ok (.getfield 21, 3) := by decide +kernel
theorem dX8_take_83 : decode cX8_take 83 = .ok (.invokevirtual 104, 3) := by decide +kernel
theorem dX8_take_86 : decode cX8_take 86 = .ok (.ireturn, 1) := by decide +kernel
theorem dX8_name_0 : decode cX8_name 0 = .ok (.iload_n 1, 1) := by decide +kernel
theorem dX8_name_1 : decode cX8_name 1 = .ok (.ifCond .lt 9, 3) := by decide +kernel
theorem dX8_name_4 : decode cX8_name 4 = .ok (.iload_n 1, 1) := by decide +kernel
theorem dX8_name_5 : decode cX8_name 5 = .ok (.bipush 8, 2) := by decide +kernel
theorem dX8_name_7 : decode cX8_name 7 = .ok (.if_icmp .lt 7, 3) := by decide +kernel
theorem dX8_name_10 : decode cX8_name 10 = .ok (.iconst (-1), 1) := by decide +kernel
theorem dX8_name_11 : decode cX8_name 11 = .ok (.goto 11, 3) := by decide +kernel
theorem dX8_name_14 : decode cX8_name 14 = .ok (.aload_n 0, 1) := by decide +kernel
theorem dX8_name_15 : decode cX8_name 15 = .ok (.getfield 21, 3) := by decide +kernel
theorem dX8_name_18 : decode cX8_name 18 = .ok (.iload_n 1, 1) := by decide +kernel
theorem dX8_name_19 : decode cX8_name 19 = .ok (.invokevirtual 107, 3) := by decide +kernel
theorem dX8_name_22 : decode cX8_name 22 = .ok (.ireturn, 1) := by decide +kernel
theorem dX8_node_0 : decode cX8_node 0 = .ok (.aload_n 0, 1) := by decide +kernel
theorem dX8_node_1 : decode cX8_node 1 = .ok (.getfield 21, 3) := by decide +kernel
theorem dX8_node_4 : decode cX8_node 4 = .ok (.iload_n 1, 1) := by decide +kernel
theorem dX8_node_5 : decode cX8_node 5 = .ok (.invokevirtual 111, 3) := by decide +kernel
theorem dX8_node_8 : decode cX8_node 8 = .ok (.ifCond .ne 5, 3) := by decide +kernel
theorem dX8_node_11 : decode cX8_node 11 = .ok (.iconst (-1), 1) := by decide +kernel
theorem dX8_node_12 : decode cX8_node 12 = .ok (.ireturn, 1) := by decide +kernel
theorem dX8_node_13 : decode cX8_node 13 = .ok (.iload_n 2, 1) := by decide +kernel
theorem dX8_node_14 : decode cX8_node 14 = .ok (.iconst (-1), 1) := by decide +kernel
theorem dX8_node_15 : decode cX8_node 15 = .ok (.if_icmp .lt 9, 3) := by decide +kernel
theorem dX8_node_18 : decode cX8_node 18 = .ok (.iload_n 2, 1) := by decide +kernel
theorem dX8_node_19 : decode cX8_node 19 = .ok (.bipush 8, 2) := by decide +kernel
theorem dX8_node_21 : decode cX8_node 21 = .ok (.if_icmp .le 6, 3) := by decide +kernel
theorem dX8_node_24 : decode cX8_node 24 = .ok (.bipush (-2), 2) := by decide +kernel
theorem dX8_node_26 : decode cX8_node 26 = .ok (.ireturn, 1) := by decide +kernel
theorem dX8_node_27 : decode cX8_node 27 = .ok (.iload_n 2, 1) := by decide +kernel
theorem dX8_node_28 : decode cX8_node 28 = .ok (.iconst (-1), 1) := by decide +kernel
theorem dX8_node_29 : decode cX8_node 29 = .ok (.if_icmp .ne 12, 3) := by decide +kernel
theorem dX8_node_32 : decode cX8_node 32 = .ok (.aload_n 0, 1) := by decide +kernel
theorem dX8_node_33 : decode cX8_node 33 = .ok (.getfield 21, 3) := by decide +kernel
theorem dX8_node_36 : decode cX8_node 36 = .ok (.iload_n 1, 1) := by decide +kernel
theorem dX8_node_37 : decode cX8_node 37 = .ok (.invokevirtual 114, 3) := by decide +kernel
theorem dX8_node_40 : decode cX8_node 40 = .ok (.ireturn, 1) := by decide +kernel
theorem dX8_node_41 : decode cX8_node 41 = .ok (.iload_n 2, 1) := by decide +kernel
theorem dX8_node_42 : decode cX8_node 42 = .ok (.bipush 8, 2) := by decide +kernel
theorem dX8_node_44 : decode cX8_node 44 = .ok (.if_icmp .ne 17, 3) := by decide +kernel
theorem dX8_node_47 : decode cX8_node 47 = .ok (.aload_n 0, 1) := by decide +kernel
theorem dX8_node_48 : decode cX8_node 48 = .ok (.getfield 21, 3) := by decide +kernel
theorem dX8_node_51 : decode cX8_node 51 = .ok (.iload_n 1, 1) := by decide +kernel
theorem dX8_node_52 : decode cX8_node 52 = .ok (.invokevirtual 117, 3) := by decide +kernel
theorem dX8_node_55 : decode cX8_node 55 = .ok (.invokestatic 120, 3) := by decide +kernel
theorem dX8_node_58 : decode cX8_node 58 = .ok (.goto 12, 3) := by decide +kernel
theorem dX8_node_61 : decode cX8_node 61 = .ok (.aload_n 0, 1) := by decide +kernel
theorem dX8_node_62 : decode cX8_node 62 = .ok (.getfield 21, 3) := by decide +kernel
theorem dX8_node_65 : decode cX8_node 65 = .ok (.iload_n 1, 1) := by decide +kernel
theorem dX8_node_66 : decode cX8_node 66 = .ok (.iload_n 2, 1) := by decide +kernel
theorem dX8_node_67 : decode cX8_node 67 = .ok (.invokevirtual 125, 3) := by decide +kernel
theorem dX8_node_70 : decode cX8_node 70 = .ok (.ireturn, 1) := by decide +kernel
theorem dX8_may_0 : decode cX8_may 0 = .ok (.aload_n 0, 1) := by decide +kernel
theorem dX8_may_1 : decode cX8_may 1 = .ok (.getfield 21, 3) := by decide +kernel
theorem dX8_may_4 : decode cX8_may 4 = .ok (.iload_n 1, 1) := by decide +kernel
theorem dX8_may_5 : decode cX8_may 5 = .ok (.invokevirtual 111, 3) := by decide +kernel
theorem dX8_may_8 : decode cX8_may 8 = .ok (.ifCond .eq 14, 3) := by decide +kernel
theorem dX8_may_11 : decode cX8_may 11 = .ok (.aload_n 0, 1) := by decide +kernel
theorem dX8_may_12 : decode cX8_may 12 = .ok (.getfield 21, 3) := by decide +kernel
theorem dX8_may_15 : decode cX8_may 15 = .ok (.iload_n 2, 1) := by decide +kernel
theorem dX8_may_16 : decode cX8_may 16 = .ok (.invokevirtual 111, 3) := by decide +kernel
theorem dX8_may_19 : decode cX8_may 19 = .ok (.ifCond .ne 5, 3) := by decide +kernel
theorem dX8_may_22 : decode cX8_may 22 = .ok (.iconst (-1), 1) := by decide +kernel
theorem dX8_may_23 : decode cX8_may 23 = .ok (.ireturn, 1) := by decide +kernel
theorem dX8_may_24 : decode cX8_may 24 = .ok (.aload_n 0, 1) := by decide +kernel
theorem dX8_may_25 : decode cX8_may 25 = .ok (.getfield 39, 3) := by decide +kernel
theorem dX8_may_28 : decode cX8_may 28 = .ok (.invokevirtual 129, 3) := by decide +kernel
theorem dX8_may_31 : decode cX8_may 31 = .ok (.aload_n 0, 1) := by decide +kernel
theorem dX8_may_32 : decode cX8_may 32 = .ok (.getfield 39, 3) := by decide +kernel
theorem dX8_may_35 : decode cX8_may 35 = .ok (.iload_n 1, 1) := by decide +kernel
theorem dX8_may_36 : decode cX8_may 36 = .ok (.iload_n 2, 1) := by decide +kernel
theorem dX8_may_37 : decode cX8_may 37 = .ok (.invokevirtual 132, 3) := by decide +kernel
theorem dX8_may_40 : decode cX8_may 40 = .ok (.ifCond .eq 7, 3) := by decide +kernel
theorem dX8_may_43 : decode cX8_may 43 = .ok (.iconst 1, 1) := by decide +kernel
theorem dX8_may_44 : decode cX8_may 44 = .ok (.goto 4, 3) := by decide +kernel
theorem dX8_may_47 : decode cX8_may 47 = .ok (.iconst 0, 1) := by decide +kernel
theorem dX8_may_48 : decode cX8_may 48 = .ok (.ireturn, 1) := by decide +kernel
theorem dX8_way_0 : decode cX8_way 0 = .ok (.aload_n 0, 1) := by decide +kernel
theorem dX8_way_1 : decode cX8_way 1 = .ok (.getfield 21, 3) := by decide +kernel
theorem dX8_way_4 : decode cX8_way 4 = .ok (.iload_n 1, 1) := by decide +kernel
theorem dX8_way_5 : decode cX8_way 5 = .ok (.invokevirtual 111, 3) := by decide +kernel
theorem dX8_way_8 : decode cX8_way 8 = .ok (.ifCond .eq 14, 3) := by decide +kernel
theorem dX8_way_11 : decode cX8_way 11 = .ok (.aload_n 0, 1) := by decide +kernel
theorem dX8_way_12 : decode cX8_way 12 = .ok (.getfield 21, 3) := by decide +kernel
theorem dX8_way_15 : decode cX8_way 15 = .ok (.iload_n 2, 1) := by decide +kernel
theorem dX8_way_16 : decode cX8_way 16 = .ok (.invokevirtual 111, 3) := by decide +kernel
theorem dX8_way_19 : decode cX8_way 19 = .ok (.ifCond .ne 5, 3) := by decide +kernel
theorem dX8_way_22 : decode cX8_way 22 = .ok (.iconst (-1), 1) := by decide +kernel
theorem dX8_way_23 : decode cX8_way 23 = .ok (.ireturn, 1) := by decide +kernel
theorem dX8_way_24 : decode cX8_way 24 = .ok (.aload_n 0, 1) := by decide +kernel
theorem dX8_way_25 : decode cX8_way 25 = .ok (.getfield 39, 3) := by decide +kernel
theorem dX8_way_28 : decode cX8_way 28 = .ok (.invokevirtual 129, 3) := by decide +kernel
theorem dX8_way_31 : decode cX8_way 31 = .ok (.iload_n 3, 1) := by decide +kernel
theorem dX8_way_32 : decode cX8_way 32 = .ok (.iconst (-1), 1) := by decide +kernel
theorem dX8_way_33 : decode cX8_way 33 = .ok (.if_icmp .ne 15, 3) := by decide +kernel
theorem dX8_way_36 : decode cX8_way 36 = .ok (.aload_n 0, 1) := by decide +kernel
theorem dX8_way_37 : decode cX8_way 37 = .ok (.getfield 39, 3) := by decide +kernel
theorem dX8_way_40 : decode cX8_way 40 = .ok (.iload_n 1, 1) := by decide +kernel
theorem dX8_way_41 : decode cX8_way 41 = .ok (.iload_n 2, 1) := by decide +kernel
theorem dX8_way_42 : decode cX8_way 42 = .ok (.invokevirtual 136, 3) := by decide +kernel
theorem dX8_way_45 : decode cX8_way 45 = .ok (.goto 13, 3) := by decide +kernel
theorem dX8_way_48 : decode cX8_way 48 = .ok (.aload_n 0, 1) := by decide +kernel
theorem dX8_way_49 : decode cX8_way 49 = .ok (.getfield 39, 3) := by decide +kernel
theorem dX8_way_52 : decode cX8_way 52 = .ok (.iload_n 1, 1) := by decide +kernel
theorem dX8_way_53 : decode cX8_way 53 = .ok (.iload_n 2, 1) := by decide +kernel
theorem dX8_way_54 : decode cX8_way 54 = .ok (.iload_n 3, 1) := by decide +kernel
theorem dX8_way_55 : decode cX8_way 55 = .ok (.invokevirtual 139, 3) := by decide +kernel
theorem dX8_way_58 : decode cX8_way 58 = .ok (.ireturn, 1) := by decide +kernel
theorem dX8_end_0 : decode cX8_end 0 = .ok (.aload_n 0, 1) := by decide +kernel
theorem dX8_end_1 : decode cX8_end 1 = .ok (.getfield 21, 3) := by decide +kernel
theorem dX8_end_4 : decode cX8_end 4 = .ok (.iload_n 1, 1) := by decide +kernel
theorem dX8_end_5 : decode cX8_end 5 = .ok (.invokevirtual 111, 3) := by decide +kernel
theorem dX8_end_8 : decode cX8_end 8 = .ok (.ifCond .eq 14, 3) := by decide +kernel
theorem dX8_end_11 : decode cX8_end 11 = .ok (.aload_n 0, 1) := by decide +kernel
theorem dX8_end_12 : decode cX8_end 12 = .ok (.getfield 21, 3) := by decide +kernel
theorem dX8_end_15 : decode cX8_end 15 = .ok (.iload_n 2, 1) := by decide +kernel
theorem dX8_end_16 : decode cX8_end 16 = .ok (.invokevirtual 111, 3) := by decide +kernel
theorem dX8_end_19 : decode cX8_end 19 = .ok (.ifCond .ne 5, 3) := by decide +kernel
theorem dX8_end_22 : decode cX8_end 22 = .ok (.iconst (-1), 1) := by decide +kernel
theorem dX8_end_23 : decode cX8_end 23 = .ok (.ireturn, 1) := by decide +kernel
theorem dX8_end_24 : decode cX8_end 24 = .ok (.aload_n 0, 1) := by decide +kernel
theorem dX8_end_25 : decode cX8_end 25 = .ok (.getfield 39, 3) := by decide +kernel
theorem dX8_end_28 : decode cX8_end 28 = .ok (.invokevirtual 129, 3) := by decide +kernel
theorem dX8_end_31 : decode cX8_end 31 = .ok (.aload_n 0, 1) := by decide +kernel
theorem dX8_end_32 : decode cX8_end 32 = .ok (.getfield 39, 3) := by decide +kernel
theorem dX8_end_35 : decode cX8_end 35 = .ok (.iload_n 1, 1) := by decide +kernel
theorem dX8_end_36 : decode cX8_end 36 = .ok (.iload_n 2, 1) := by decide +kernel
theorem dX8_end_37 : decode cX8_end 37 = .ok (.invokevirtual 143, 3) := by decide +kernel
theorem dX8_end_40 : decode cX8_end 40 = .ok (.ireturn, 1) := by decide +kernel
theorem dX8_alike_0 : decode cX8_alike 0 = .ok (.aload_n 0, 1) := by decide +kernel
theorem dX8_alike_1 : decode cX8_alike 1 = .ok (.getfield 21, 3) := by decide +kernel
theorem dX8_alike_4 : decode cX8_alike 4 = .ok (.iload_n 1, 1) := by decide +kernel
theorem dX8_alike_5 : decode cX8_alike 5 = .ok (.invokevirtual 111, 3) := by decide +kernel
theorem dX8_alike_8 : decode cX8_alike 8 = .ok (.ifCond .eq 14, 3) := by decide +kernel
theorem dX8_alike_11 : decode cX8_alike 11 = .ok (.aload_n 0, 1) := by decide +kernel
theorem dX8_alike_12 : decode cX8_alike 12 = .ok (.getfield 21, 3) := by decide +kernel
theorem dX8_alike_15 : decode cX8_alike 15 = .ok (.iload_n 2, 1) := by decide +kernel
theorem dX8_alike_16 : decode cX8_alike 16 = .ok (.invokevirtual 111, 3) := by decide +kernel
theorem dX8_alike_19 : decode cX8_alike 19 = .ok (.ifCond .ne 5, 3) := by decide +kernel
theorem dX8_alike_22 : decode cX8_alike 22 = .ok (.iconst (-1), 1) := by decide +kernel
theorem dX8_alike_23 : decode cX8_alike 23 = .ok (.ireturn, 1) := by decide +kernel
theorem dX8_alike_24 : decode cX8_alike 24 = .ok (.aload_n 0, 1) := by decide +kernel
theorem dX8_alike_25 : decode cX8_alike 25 = .ok (.getfield 39, 3) := by decide +kernel
theorem dX8_alike_28 : decode cX8_alike 28 = .ok (.invokevirtual 129, 3) := by decide +kernel
theorem dX8_alike_31 : decode cX8_alike 31 = .ok (.aload_n 0, 1) := by decide +kernel
theorem dX8_alike_32 : decode cX8_alike 32 = .ok (.getfield 39, 3) := by decide +kernel
theorem dX8_alike_35 : decode cX8_alike 35 = .ok (.iload_n 1, 1) := by decide +kernel
theorem dX8_alike_36 : decode cX8_alike 36 = .ok (.iload_n 2, 1) := by decide +kernel
theorem dX8_alike_37 : decode cX8_alike 37 = .ok (.invokevirtual 146, 3) := by decide +kernel
theorem dX8_alike_40 : decode cX8_alike 40 = .ok (.ifCond .eq 7, 3) := by decide +kernel
theorem dX8_alike_43 : decode cX8_alike 43 = .ok (.iconst 1, 1) := by decide +kernel
theorem dX8_alike_44 : decode cX8_alike 44 = .ok (.goto 4, 3) := by decide +kernel
theorem dX8_alike_47 : decode cX8_alike 47 = .ok (.iconst 0, 1) := by decide +kernel
theorem dX8_alike_48 : decode cX8_alike 48 = .ok (.ireturn, 1) := by decide +kernel
theorem dX8_pieces_0 : decode cX8_pieces 0 = .ok (.aload_n 0, 1) := by decide +kernel
theorem dX8_pieces_1 : decode cX8_pieces 1 = .ok (.getfield 21, 3) := by decide +kernel
theorem dX8_pieces_4 : decode cX8_pieces 4 = .ok (.iload_n 1, 1) := by decide +kernel
theorem dX8_pieces_5 : decode cX8_pieces 5 = .ok (.invokevirtual 111, 3) := by decide +kernel
theorem dX8_pieces_8 : decode cX8_pieces 8 = .ok (.ifCond .ne 5, 3) := by decide +kernel
theorem dX8_pieces_11 : decode cX8_pieces 11 = .ok (.iconst (-1), 1) := by decide +kernel
theorem dX8_pieces_12 : decode cX8_pieces 12 = .ok (.ireturn, 1) := by decide +kernel
theorem dX8_pieces_13 : decode cX8_pieces 13 = .ok (.aload_n 0, 1) := by decide +kernel
theorem dX8_pieces_14 : decode cX8_pieces 14 = .ok (.getfield 39, 3) := by decide +kernel
theorem dX8_pieces_17 : decode cX8_pieces 17 = .ok (.invokevirtual 129, 3) := by decide +kernel
theorem dX8_pieces_20 : decode cX8_pieces 20 = .ok (.aload_n 0, 1) := by decide +kernel
theorem dX8_pieces_21 : decode cX8_pieces 21 = .ok (.getfield 39, 3) := by decide +kernel
theorem dX8_pieces_24 : decode cX8_pieces 24 = .ok (.iload_n 1, 1) := by decide +kernel
theorem dX8_pieces_25 : decode cX8_pieces 25 = .ok (.invokevirtual 149, 3) := by decide +kernel
theorem dX8_pieces_28 : decode cX8_pieces 28 = .ok (.ireturn, 1) := by decide +kernel
theorem dX8_join_0 : decode cX8_join 0 = .ok (.aload_n 0, 1) := by decide +kernel
theorem dX8_join_1 : decode cX8_join 1 = .ok (.getfield 21, 3) := by decide +kernel
theorem dX8_join_4 : decode cX8_join 4 = .ok (.iload_n 1, 1) := by decide +kernel
theorem dX8_join_5 : decode cX8_join 5 = .ok (.invokevirtual 111, 3) := by decide +kernel
theorem dX8_join_8 : decode cX8_join 8 = .ok (.ifCond .eq 14, 3) := by decide +kernel
theorem dX8_join_11 : decode cX8_join 11 = .ok (.aload_n 0, 1) := by decide +kernel
theorem dX8_join_12 : decode cX8_join 12 = .ok (.getfield 21, 3) := by decide +kernel
theorem dX8_join_15 : decode cX8_join 15 = .ok (.iload_n 2, 1) := by decide +kernel
theorem dX8_join_16 : decode cX8_join 16 = .ok (.invokevirtual 111, 3) := by decide +kernel
theorem dX8_join_19 : decode cX8_join 19 = .ok (.ifCond .ne 5, 3) := by decide +kernel
theorem dX8_join_22 : decode cX8_join 22 = .ok (.iconst (-1), 1) := by decide +kernel
theorem dX8_join_23 : decode cX8_join 23 = .ok (.ireturn, 1) := by decide +kernel
theorem dX8_join_24 : decode cX8_join 24 = .ok (.iload_n 3, 1) := by decide +kernel
theorem dX8_join_25 : decode cX8_join 25 = .ok (.ifCond .eq 11, 3) := by decide +kernel
theorem dX8_join_28 : decode cX8_join 28 = .ok (.iload_n 3, 1) := by decide +kernel
theorem dX8_join_29 : decode cX8_join 29 = .ok (.iconst 1, 1) := by decide +kernel
theorem dX8_join_30 : decode cX8_join 30 = .ok (.if_icmp .eq 6, 3) := by decide +kernel
theorem dX8_join_33 : decode cX8_join 33 = .ok (.bipush (-2), 2) := by decide +kernel
theorem dX8_join_35 : decode cX8_join 35 = .ok (.ireturn, 1) := by decide +kernel
theorem dX8_join_36 : decode cX8_join 36 = .ok (.aload_n 0, 1) := by decide +kernel
theorem dX8_join_37 : decode cX8_join 37 = .ok (.getfield 48, 3) := by decide +kernel
theorem dX8_join_40 : decode cX8_join 40 = .ok (.iload_n 1, 1) := by decide +kernel
theorem dX8_join_41 : decode cX8_join 41 = .ok (.iload_n 2, 1) := by decide +kernel
theorem dX8_join_42 : decode cX8_join 42 = .ok (.iload_n 3, 1) := by decide +kernel
theorem dX8_join_43 : decode cX8_join 43 = .ok (.invokevirtual 152, 3) := by decide +kernel
theorem dX8_join_46 : decode cX8_join 46 = .ok (.ireturn, 1) := by decide +kernel
theorem dX8_slip_0 : decode cX8_slip 0 = .ok (.aload_n 0, 1) := by decide +kernel
theorem dX8_slip_1 : decode cX8_slip 1 = .ok (.getfield 57, 3) := by decide +kernel
theorem dX8_slip_4 : decode cX8_slip 4 = .ok (.bipush (-7), 2) := by decide +kernel
theorem dX8_slip_6 : decode cX8_slip 6 = .ok (.invokevirtual 155, 3) := by decide +kernel
theorem dX8_slip_9 : decode cX8_slip 9 = .ok (.ireturn, 1) := by decide +kernel
theorem dX8_fits_0 : decode cX8_fits 0 = .ok (.aload_n 0, 1) := by decide +kernel
theorem dX8_fits_1 : decode cX8_fits 1 = .ok (.getfield 21, 3) := by decide +kernel
theorem dX8_fits_4 : decode cX8_fits 4 = .ok (.iload_n 1, 1) := by decide +kernel
theorem dX8_fits_5 : decode cX8_fits 5 = .ok (.invokevirtual 111, 3) := by decide +kernel
theorem dX8_fits_8 : decode cX8_fits 8 = .ok (.ifCond .ne 5, 3) := by decide +kernel
theorem dX8_fits_11 : decode cX8_fits 11 = .ok (.iconst (-1), 1) := by decide +kernel
theorem dX8_fits_12 : decode cX8_fits 12 = .ok (.ireturn, 1) := by decide +kernel
theorem dX8_fits_13 : decode cX8_fits 13 = .ok (.aload_n 0, 1) := by decide +kernel
theorem dX8_fits_14 : decode cX8_fits 14 = .ok (.getfield 57, 3) := by decide +kernel
theorem dX8_fits_17 : decode cX8_fits 17 = .ok (.iload_n 1, 1) := by decide +kernel
theorem dX8_fits_18 : decode cX8_fits 18 = .ok (.invokevirtual 155, 3) := by decide +kernel
theorem dX8_fits_21 : decode cX8_fits 21 = .ok (.bipush (-6), 2) := by decide +kernel
theorem dX8_fits_23 : decode cX8_fits 23 = .ok (.if_icmp .ne 13, 3) := by decide +kernel
theorem dX8_fits_26 : decode cX8_fits 26 = .ok (.aload_n 0, 1) := by decide +kernel
theorem dX8_fits_27 : decode cX8_fits 27 = .ok (.getfield 57, 3) := by decide +kernel
theorem dX8_fits_30 : decode cX8_fits 30 = .ok (.invokevirtual 157, 3) := by decide +kernel
theorem dX8_fits_33 : decode cX8_fits 33 = .ok (.goto 5, 3) := by decide +kernel
theorem dX8_fits_36 : decode cX8_fits 36 = .ok (.bipush (-5), 2) := by decide +kernel
theorem dX8_fits_38 : decode cX8_fits 38 = .ok (.ireturn, 1) := by decide +kernel
theorem dX8_size_0 : decode cX8_size 0 = .ok (.aload_n 0, 1) := by decide +kernel
theorem dX8_size_1 : decode cX8_size 1 = .ok (.getfield 57, 3) := by decide +kernel
theorem dX8_size_4 : decode cX8_size 4 = .ok (.bipush (-7), 2) := by decide +kernel
theorem dX8_size_6 : decode cX8_size 6 = .ok (.invokevirtual 155, 3) := by decide +kernel
theorem dX8_size_9 : decode cX8_size 9 = .ok (.bipush (-6), 2) := by decide +kernel
theorem dX8_size_11 : decode cX8_size 11 = .ok (.if_icmp .ne 13, 3) := by decide +kernel
theorem dX8_size_14 : decode cX8_size 14 = .ok (.aload_n 0, 1) := by decide +kernel
theorem dX8_size_15 : decode cX8_size 15 = .ok (.getfield 57, 3) := by decide +kernel
theorem dX8_size_18 : decode cX8_size 18 = .ok (.invokevirtual 160, 3) := by decide +kernel
theorem dX8_size_21 : decode cX8_size 21 = .ok (.goto 5, 3) := by decide +kernel
theorem dX8_size_24 : decode cX8_size 24 = .ok (.bipush (-5), 2) := by decide +kernel
theorem dX8_size_26 : decode cX8_size 26 = .ok (.ireturn, 1) := by decide +kernel
theorem dX8_count_0 : decode cX8_count 0 = .ok (.aload_n 0, 1) := by decide +kernel
theorem dX8_count_1 : decode cX8_count 1 = .ok (.getfield 21, 3) := by decide +kernel
theorem dX8_count_4 : decode cX8_count 4 = .ok (.iload_n 1, 1) := by decide +kernel
theorem dX8_count_5 : decode cX8_count 5 = .ok (.invokevirtual 111, 3) := by decide +kernel
theorem dX8_count_8 : decode cX8_count 8 = .ok (.ifCond .ne 5, 3) := by decide +kernel
theorem dX8_count_11 : decode cX8_count 11 = .ok (.iconst (-1), 1) := by decide +kernel
theorem dX8_count_12 : decode cX8_count 12 = .ok (.ireturn, 1) := by decide +kernel
theorem dX8_count_13 : decode cX8_count 13 = .ok (.iload_n 2, 1) := by decide +kernel
theorem dX8_count_14 : decode cX8_count 14 = .ok (.iconst 1, 1) := by decide +kernel
theorem dX8_count_15 : decode cX8_count 15 = .ok (.if_icmp .lt 9, 3) := by decide +kernel
theorem dX8_count_18 : decode cX8_count 18 = .ok (.iload_n 2, 1) := by decide +kernel
theorem dX8_count_19 : decode cX8_count 19 = .ok (.bipush 12, 2) := by decide +kernel
theorem dX8_count_21 : decode cX8_count 21 = .ok (.if_icmp .le 6, 3) := by decide +kernel
theorem dX8_count_24 : decode cX8_count 24 = .ok (.bipush (-2), 2) := by decide +kernel
theorem dX8_count_26 : decode cX8_count 26 = .ok (.ireturn, 1) := by decide +kernel
theorem dX8_count_27 : decode cX8_count 27 = .ok (.aload_n 0, 1) := by decide +kernel
theorem dX8_count_28 : decode cX8_count 28 = .ok (.getfield 64, 3) := by decide +kernel
theorem dX8_count_31 : decode cX8_count 31 = .ok (.iload_n 1, 1) := by decide +kernel
theorem dX8_count_32 : decode cX8_count 32 = .ok (.iload_n 2, 1) := by decide +kernel
theorem dX8_count_33 : decode cX8_count 33 = .ok (.invokevirtual 163, 3) := by decide +kernel
theorem dX8_count_36 : decode cX8_count 36 = .ok (.ireturn, 1) := by decide +kernel
theorem dX8_least_0 : decode cX8_least 0 = .ok (.aload_n 0, 1) := by decide +kernel
theorem dX8_least_1 : decode cX8_least 1 = .ok (.getfield 21, 3) := by decide +kernel
theorem dX8_least_4 : decode cX8_least 4 = .ok (.iload_n 1, 1) := by decide +kernel
theorem dX8_least_5 : decode cX8_least 5 = .ok (.invokevirtual 111, 3) := by decide +kernel
theorem dX8_least_8 : decode cX8_least 8 = .ok (.ifCond .eq 14, 3) := by decide +kernel
theorem dX8_least_11 : decode cX8_least 11 = .ok (.aload_n 0, 1) := by decide +kernel
theorem dX8_least_12 : decode cX8_least 12 = .ok (.getfield 71, 3) := by decide +kernel
theorem dX8_least_15 : decode cX8_least 15 = .ok (.iload_n 1, 1) := by decide +kernel
theorem dX8_least_16 : decode cX8_least 16 = .ok (.invokevirtual 166, 3) := by decide +kernel
theorem dX8_least_19 : decode cX8_least 19 = .ok (.goto 4, 3) := by decide +kernel
theorem dX8_least_22 : decode cX8_least 22 = .ok (.iconst (-1), 1) := by decide +kernel
theorem dX8_least_23 : decode cX8_least 23 = .ok (.ireturn, 1) := by decide +kernel
theorem dX8_told_0 : decode cX8_told 0 = .ok (.iload_n 1, 1) := by decide +kernel
theorem dX8_told_1 : decode cX8_told 1 = .ok (.tableswitch 82 0 4 #[35, 43, 51, 59, 67], 35) := by decide +kernel
theorem dX8_told_36 : decode cX8_told 36 = .ok (.aload_n 0, 1) := by decide +kernel
theorem dX8_told_37 : decode cX8_told 37 = .ok (.getfield 10, 3) := by decide +kernel
theorem dX8_told_40 : decode cX8_told 40 = .ok (.invokevirtual 79, 3) := by decide +kernel
theorem dX8_told_43 : decode cX8_told 43 = .ok (.ireturn, 1) := by decide +kernel
theorem dX8_told_44 : decode cX8_told 44 = .ok (.aload_n 0, 1) := by decide +kernel
theorem dX8_told_45 : decode cX8_told 45 = .ok (.getfield 21, 3) := by decide +kernel
theorem dX8_told_48 : decode cX8_told 48 = .ok (.invokevirtual 104, 3) := by decide +kernel
theorem dX8_told_51 : decode cX8_told 51 = .ok (.ireturn, 1) := by decide +kernel
theorem dX8_told_52 : decode cX8_told 52 = .ok (.aload_n 0, 1) := by decide +kernel
theorem dX8_told_53 : decode cX8_told 53 = .ok (.getfield 21, 3) := by decide +kernel
theorem dX8_told_56 : decode cX8_told 56 = .ok (.invokevirtual 169, 3) := by decide +kernel
theorem dX8_told_59 : decode cX8_told 59 = .ok (.ireturn, 1) := by decide +kernel
theorem dX8_told_60 : decode cX8_told 60 = .ok (.aload_n 0, 1) := by decide +kernel
theorem dX8_told_61 : decode cX8_told 61 = .ok (.getfield 71, 3) := by decide +kernel
theorem dX8_told_64 : decode cX8_told 64 = .ok (.invokevirtual 172, 3) := by decide +kernel
theorem dX8_told_67 : decode cX8_told 67 = .ok (.ireturn, 1) := by decide +kernel
theorem dX8_told_68 : decode cX8_told 68 = .ok (.aload_n 0, 1) := by decide +kernel
theorem dX8_told_69 : decode cX8_told 69 = .ok (.getfield 39, 3) := by decide +kernel
theorem dX8_told_72 : decode cX8_told 72 = .ok (.invokevirtual 129, 3) := by decide +kernel
theorem dX8_told_75 : decode cX8_told 75 = .ok (.aload_n 0, 1) := by decide +kernel
theorem dX8_told_76 : decode cX8_told 76 = .ok (.getfield 39, 3) := by decide +kernel
theorem dX8_told_79 : decode cX8_told 79 = .ok (.invokevirtual 175, 3) := by decide +kernel
theorem dX8_told_82 : decode cX8_told 82 = .ok (.ireturn, 1) := by decide +kernel
theorem dX8_told_83 : decode cX8_told 83 = .ok (.bipush (-2), 2) := by decide +kernel
theorem dX8_told_85 : decode cX8_told 85 = .ok (.ireturn, 1) := by decide +kernel
