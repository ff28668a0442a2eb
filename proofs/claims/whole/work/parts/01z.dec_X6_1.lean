theorem dX6_readPart_0 : decode cX6_readPart 0 = .ok (.aload_n 0, 1) := by decide +kernel
theorem dX6_readPart_1 : decode cX6_readPart 1 = .ok (.getfield 28, 3) := by decide +kernel
theorem dX6_readPart_4 : decode cX6_readPart 4 = .ok (.ifCond .ne 19, 3) := by decide +kernel
theorem dX6_readPart_7 : decode cX6_readPart 7 = .ok (.aload_n 0, 1) := by decide +kernel
theorem dX6_readPart_8 : decode cX6_readPart 8 = .ok (.getfield 20, 3) := by decide +kernel
theorem dX6_readPart_11 : decode cX6_readPart 11 = .ok (.iload_n 1, 1) := by decide +kernel
theorem dX6_readPart_12 : decode cX6_readPart 12 = .ok (.iload_n 2, 1) := by decide +kernel
theorem dX6_readPart_13 : decode cX6_readPart 13 = .ok (.aload_n 0, 1) := by decide +kernel
theorem dX6_readPart_14 : decode cX6_readPart 14 = .ok (.iload_n 3, 1) := by decide +kernel
theorem dX6_readPart_15 : decode cX6_readPart 15 = .ok (.iconst 1, 1) := by decide +kernel
theorem dX6_readPart_16 : decode cX6_readPart 16 = .ok (.iadd, 1) := by decide +kernel
theorem dX6_readPart_17 : decode cX6_readPart 17 = .ok (.invokevirtual 75, 3) := by decide +kernel
theorem dX6_readPart_20 : decode cX6_readPart 20 = .ok (.invokevirtual 67, 3) := by decide +kernel
theorem dX6_readPart_23 : decode cX6_readPart 23 = .ok (.return_, 1) := by decide +kernel
theorem dX6_isKindSign_0 : decode cX6_isKindSign 0 = .ok (.iload_n 0, 1) := by decide +kernel
theorem dX6_isKindSign_1 : decode cX6_isKindSign 1 = .ok (.lookupswitch 85 #[(33, 83), (42, 83), (46, 83), (62, 83), (91, 83), (110, 83), (115, 83), (116, 83), (123, 83)], 83) := by decide +kernel
theorem dX6_isKindSign_84 : decode cX6_isKindSign 84 = .ok (.iconst 1, 1) := by decide +kernel
theorem dX6_isKindSign_85 : decode cX6_isKindSign 85 = .ok (.ireturn, 1) := by decide +kernel
theorem dX6_isKindSign_86 : decode cX6_isKindSign 86 = .ok (.iconst 0, 1) := by decide +kernel
theorem dX6_isKindSign_87 : decode cX6_isKindSign 87 = .ok (.ireturn, 1) := by decide +kernel
theorem dX6_needsParts_0 : decode cX6_needsParts 0 = .ok (.iload_n 0, 1) := by decide +kernel
theorem dX6_needsParts_1 : decode cX6_needsParts 1 = .ok (.bipush 42, 2) := by decide +kernel
theorem dX6_needsParts_3 : decode cX6_needsParts 3 = .ok (.if_icmp .eq 9, 3) := by decide +kernel
theorem dX6_needsParts_6 : decode cX6_needsParts 6 = .ok (.iload_n 0, 1) := by decide +kernel
theorem dX6_needsParts_7 : decode cX6_needsParts 7 = .ok (.bipush 62, 2) := by decide +kernel
theorem dX6_needsParts_9 : decode cX6_needsParts 9 = .ok (.if_icmp .ne 7, 3) := by decide +kernel
theorem dX6_needsParts_12 : decode cX6_needsParts 12 = .ok (.iconst 1, 1) := by decide +kernel
theorem dX6_needsParts_13 : decode cX6_needsParts 13 = .ok (.goto 4, 3) := by decide +kernel
theorem dX6_needsParts_16 : decode cX6_needsParts 16 = .ok (.iconst 0, 1) := by decide +kernel
theorem dX6_needsParts_17 : decode cX6_needsParts 17 = .ok (.ireturn, 1) := by decide +kernel
