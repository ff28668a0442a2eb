theorem dX9_faultOf_460 : decode cX9_faultOf 460 = .ok (.iload 5, 2) := by decide +kernel
theorem dX9_faultOf_462 : decode cX9_faultOf 462 = .ok (.iload_n 3, 1) := by decide +kernel
theorem dX9_faultOf_463 : decode cX9_faultOf 463 = .ok (.bipush 97, 2) := by decide +kernel
theorem dX9_faultOf_465 : decode cX9_faultOf 465 = .ok (.isub, 1) := by decide +kernel
theorem dX9_faultOf_466 : decode cX9_faultOf 466 = .ok (.iastore, 1) := by decide +kernel
theorem dX9_faultOf_467 : decode cX9_faultOf 467 = .ok (.iconst 2, 1) := by decide +kernel
theorem dX9_faultOf_468 : decode cX9_faultOf 468 = .ok (.istore 4, 2) := by decide +kernel
theorem dX9_faultOf_470 : decode cX9_faultOf 470 = .ok (.goto 30, 3) := by decide +kernel
theorem dX9_faultOf_473 : decode cX9_faultOf 473 = .ok (.iload_n 3, 1) := by decide +kernel
theorem dX9_faultOf_474 : decode cX9_faultOf 474 = .ok (.iload 6, 2) := by decide +kernel
theorem dX9_faultOf_476 : decode cX9_faultOf 476 = .ok (.ifCond .eq 8, 3) := by decide +kernel
theorem dX9_faultOf_479 : decode cX9_faultOf 479 = .ok (.bipush 125, 2) := by decide +kernel
theorem dX9_faultOf_481 : decode cX9_faultOf 481 = .ok (.goto 5, 3) := by decide +kernel
theorem dX9_faultOf_484 : decode cX9_faultOf 484 = .ok (.bipush 93, 2) := by decide +kernel
theorem dX9_faultOf_486 : decode cX9_faultOf 486 = .ok (.if_icmp .ne 14, 3) := by decide +kernel
theorem dX9_faultOf_489 : decode cX9_faultOf 489 = .ok (.aload_n 0, 1) := by decide +kernel
theorem dX9_faultOf_490 : decode cX9_faultOf 490 = .ok (.getfield 34, 3) := by decide +kernel
theorem dX9_faultOf_493 : decode cX9_faultOf 493 = .ok (.iload 5, 2) := by decide +kernel
theorem dX9_faultOf_495 : decode cX9_faultOf 495 = .ok (.iconst 0, 1) := by decide +kernel
theorem dX9_faultOf_496 : decode cX9_faultOf 496 = .ok (.iastore, 1) := by decide +kernel
theorem dX9_faultOf_497 : decode cX9_faultOf 497 = .ok (.iconst 5, 1) := by decide +kernel
theorem dX9_faultOf_498 : decode cX9_faultOf 498 = .ok (.istore 4, 2) := by decide +kernel
theorem dX9_faultOf_500 : decode cX9_faultOf 500 = .ok (.goto 22, 3) := by decide +kernel
theorem dX9_faultOf_503 : decode cX9_faultOf 503 = .ok (.iload_n 1, 1) := by decide +kernel
theorem dX9_faultOf_504 : decode cX9_faultOf 504 = .ok (.iconst 4, 1) := by decide +kernel
theorem dX9_faultOf_505 : decode cX9_faultOf 505 = .ok (.if_icmp .ne 17, 3) := by decide +kernel
theorem dX9_faultOf_508 : decode cX9_faultOf 508 = .ok (.iload_n 3, 1) := by decide +kernel
theorem dX9_faultOf_509 : decode cX9_faultOf 509 = .ok (.bipush 59, 2) := by decide +kernel
theorem dX9_faultOf_511 : decode cX9_faultOf 511 = .ok (.if_icmp .ne 7, 3) := by decide +kernel
theorem dX9_faultOf_514 : decode cX9_faultOf 514 = .ok (.iconst 0, 1) := by decide +kernel
theorem dX9_faultOf_515 : decode cX9_faultOf 515 = .ok (.goto 5, 3) := by decide +kernel
theorem dX9_faultOf_518 : decode cX9_faultOf 518 = .ok (.bipush (-6), 2) := by decide +kernel
theorem dX9_faultOf_520 : decode cX9_faultOf 520 = .ok (.istore 4, 2) := by decide +kernel
theorem dX9_faultOf_522 : decode cX9_faultOf 522 = .ok (.iload 4, 2) := by decide +kernel
theorem dX9_faultOf_524 : decode cX9_faultOf 524 = .ok (.ifCond .ge 5, 3) := by decide +kernel
theorem dX9_faultOf_527 : decode cX9_faultOf 527 = .ok (.iload_n 2, 1) := by decide +kernel
theorem dX9_faultOf_528 : decode cX9_faultOf 528 = .ok (.ireturn, 1) := by decide +kernel
theorem dX9_faultOf_529 : decode cX9_faultOf 529 = .ok (.iload 4, 2) := by decide +kernel
theorem dX9_faultOf_531 : decode cX9_faultOf 531 = .ok (.iconst 5, 1) := by decide +kernel
theorem dX9_faultOf_532 : decode cX9_faultOf 532 = .ok (.if_icmp .ne 32, 3) := by decide +kernel
theorem dX9_faultOf_535 : decode cX9_faultOf 535 = .ok (.aload_n 0, 1) := by decide +kernel
theorem dX9_faultOf_536 : decode cX9_faultOf 536 = .ok (.invokevirtual 105, 3) := by decide +kernel
theorem dX9_faultOf_539 : decode cX9_faultOf 539 = .ok (.istore 5, 2) := by decide +kernel
theorem dX9_faultOf_541 : decode cX9_faultOf 541 = .ok (.iload 5, 2) := by decide +kernel
theorem dX9_faultOf_543 : decode cX9_faultOf 543 = .ok (.iconst 2, 1) := by decide +kernel
theorem dX9_faultOf_544 : decode cX9_faultOf 544 = .ok (.if_icmp .ne 7, 3) := by decide +kernel
theorem dX9_faultOf_547 : decode cX9_faultOf 547 = .ok (.iconst 4, 1) := by decide +kernel
theorem dX9_faultOf_548 : decode cX9_faultOf 548 = .ok (.goto 14, 3) := by decide +kernel
theorem dX9_faultOf_551 : decode cX9_faultOf 551 = .ok (.iload 5, 2) := by decide +kernel
theorem dX9_faultOf_553 : decode cX9_faultOf 553 = .ok (.iconst 1, 1) := by decide +kernel
theorem dX9_faultOf_554 : decode cX9_faultOf 554 = .ok (.if_icmp .ne 7, 3) := by decide +kernel
theorem dX9_faultOf_557 : decode cX9_faultOf 557 = .ok (.iconst 3, 1) := by decide +kernel
theorem dX9_faultOf_558 : decode cX9_faultOf 558 = .ok (.goto 4, 3) := by decide +kernel
theorem dX9_faultOf_561 : decode cX9_faultOf 561 = .ok (.iconst 2, 1) := by decide +kernel
theorem dX9_faultOf_562 : decode cX9_faultOf 562 = .ok (.istore 4, 2) := by decide +kernel
theorem dX9_faultOf_564 : decode cX9_faultOf 564 = .ok (.iload 4, 2) := by decide +kernel
theorem dX9_faultOf_566 : decode cX9_faultOf 566 = .ok (.istore_n 1, 1) := by decide +kernel
theorem dX9_faultOf_567 : decode cX9_faultOf 567 = .ok (.iinc 2 1, 3) := by decide +kernel
theorem dX9_faultOf_570 : decode cX9_faultOf 570 = .ok (.goto (-534), 3) := by decide +kernel
theorem dX9_faultOf_573 : decode cX9_faultOf 573 = .ok (.iload_n 1, 1) := by decide +kernel
theorem dX9_faultOf_574 : decode cX9_faultOf 574 = .ok (.iconst 4, 1) := by decide +kernel
theorem dX9_faultOf_575 : decode cX9_faultOf 575 = .ok (.if_icmp .ne 8, 3) := by decide +kernel
theorem dX9_faultOf_578 : decode cX9_faultOf 578 = .ok (.bipush (-6), 2) := by decide +kernel
theorem dX9_faultOf_580 : decode cX9_faultOf 580 = .ok (.goto 7, 3) := by decide +kernel
theorem dX9_faultOf_583 : decode cX9_faultOf 583 = .ok (.aload_n 0, 1) := by decide +kernel
theorem dX9_faultOf_584 : decode cX9_faultOf 584 = .ok (.getfield 88, 3) := by decide +kernel
theorem dX9_faultOf_587 : decode cX9_faultOf 587 = .ok (.ireturn, 1) := by decide +kernel
theorem dX9_fault_0 : decode cX9_fault 0 = .ok (.aload_n 0, 1) := by decide +kernel
theorem dX9_fault_1 : decode cX9_fault 1 = .ok (.invokevirtual 109, 3) := by decide +kernel
theorem dX9_fault_4 : decode cX9_fault 4 = .ok (.ireturn, 1) := by decide +kernel
theorem dX9_comesTo_0 : decode cX9_comesTo 0 = .ok (.iload_n 1, 1) := by decide +kernel
theorem dX9_comesTo_1 : decode cX9_comesTo 1 = .ok (.istore_n 2, 1) := by decide +kernel
theorem dX9_comesTo_2 : decode cX9_comesTo 2 = .ok (.iconst 0, 1) := by decide +kernel
theorem dX9_comesTo_3 : decode cX9_comesTo 3 = .ok (.istore_n 3, 1) := by decide +kernel
theorem dX9_comesTo_4 : decode cX9_comesTo 4 = .ok (.iload_n 3, 1) := by decide +kernel
theorem dX9_comesTo_5 : decode cX9_comesTo 5 = .ok (.bipush 9, 2) := by decide +kernel
theorem dX9_comesTo_7 : decode cX9_comesTo 7 = .ok (.if_icmp .ge 25, 3) := by decide +kernel
theorem dX9_comesTo_10 : decode cX9_comesTo 10 = .ok (.iload_n 2, 1) := by decide +kernel
theorem dX9_comesTo_11 : decode cX9_comesTo 11 = .ok (.bipush 100, 2) := by decide +kernel
theorem dX9_comesTo_13 : decode cX9_comesTo 13 = .ok (.if_icmp .lt 19, 3) := by decide +kernel
theorem dX9_comesTo_16 : decode cX9_comesTo 16 = .ok (.aload_n 0, 1) := by decide +kernel
theorem dX9_comesTo_17 : decode cX9_comesTo 17 = .ok (.getfield 28, 3) := by decide +kernel
theorem dX9_comesTo_20 : decode cX9_comesTo 20 = .ok (.iload_n 2, 1) := by decide +kernel
theorem dX9_comesTo_21 : decode cX9_comesTo 21 = .ok (.bipush 100, 2) := by decide +kernel
theorem dX9_comesTo_23 : decode cX9_comesTo 23 = .ok (.isub, 1) := by decide +kernel
theorem dX9_comesTo_24 : decode cX9_comesTo 24 = .ok (.iaload, 1) := by decide +kernel
theorem dX9_comesTo_25 : decode cX9_comesTo 25 = .ok (.istore_n 2, 1) := by decide +kernel
theorem dX9_comesTo_26 : decode cX9_comesTo 26 = .ok (.iinc 3 1, 3) := by decide +kernel
theorem dX9_comesTo_29 : decode cX9_comesTo 29 = .ok (.goto (-25), 3) := by decide +kernel
theorem dX9_comesTo_32 : decode cX9_comesTo 32 = .ok (.iload_n 2, 1) := by decide +kernel
theorem dX9_comesTo_33 : decode cX9_comesTo 33 = .ok (.bipush 100, 2) := by decide +kernel
theorem dX9_comesTo_35 : decode cX9_comesTo 35 = .ok (.if_icmp .lt 8, 3) := by decide +kernel
theorem dX9_comesTo_38 : decode cX9_comesTo 38 = .ok (.bipush (-6), 2) := by decide +kernel
theorem dX9_comesTo_40 : decode cX9_comesTo 40 = .ok (.goto 4, 3) := by decide +kernel
theorem dX9_comesTo_43 : decode cX9_comesTo 43 = .ok (.iload_n 2, 1) := by decide +kernel
theorem dX9_comesTo_44 : decode cX9_comesTo 44 = .ok (.ireturn, 1) := by decide +kernel
theorem dX9_take_0 : decode cX9_take 0 = .ok (.aload_n 0, 1) := by decide +kernel
theorem dX9_take_1 : decode cX9_take 1 = .ok (.invokevirtual 109, 3) := by decide +kernel
theorem dX9_take_4 : decode cX9_take 4 = .ok (.ifCond .lt 6, 3) := by decide +kernel
theorem dX9_take_7 : decode cX9_take 7 = .ok (.bipush (-5), 2) := by decide +kernel
theorem dX9_take_9 : decode cX9_take 9 = .ok (.ireturn, 1) := by decide +kernel
theorem dX9_take_10 : decode cX9_take 10 = .ok (.iconst 0, 1) := by decide +kernel
theorem dX9_take_11 : decode cX9_take 11 = .ok (.istore_n 1, 1) := by decide +kernel
theorem dX9_take_12 : decode cX9_take 12 = .ok (.iload_n 1, 1) := by decide +kernel
theorem dX9_take_13 : decode cX9_take 13 = .ok (.bipush 8, 2) := by decide +kernel
theorem dX9_take_15 : decode cX9_take 15 = .ok (.if_icmp .ge 36, 3) := by decide +kernel
theorem dX9_take_18 : decode cX9_take 18 = .ok (.aload_n 0, 1) := by decide +kernel
theorem dX9_take_19 : decode cX9_take 19 = .ok (.getfield 28, 3) := by decide +kernel
theorem dX9_take_22 : decode cX9_take 22 = .ok (.iload_n 1, 1) := by decide +kernel
theorem dX9_take_23 : decode cX9_take 23 = .ok (.iaload, 1) := by decide +kernel
theorem dX9_take_24 : decode cX9_take 24 = .ok (.bipush (-6), 2) := by decide +kernel
theorem dX9_take_26 : decode cX9_take 26 = .ok (.if_icmp .eq 19, 3) := by decide +kernel
theorem dX9_take_29 : decode cX9_take 29 = .ok (.aload_n 0, 1) := by decide +kernel
theorem dX9_take_30 : decode cX9_take 30 = .ok (.aload_n 0, 1) := by decide +kernel
theorem dX9_take_31 : decode cX9_take 31 = .ok (.getfield 28, 3) := by decide +kernel
theorem dX9_take_34 : decode cX9_take 34 = .ok (.iload_n 1, 1) := by decide +kernel
theorem dX9_take_35 : decode cX9_take 35 = .ok (.iaload, 1) := by decide +kernel
theorem dX9_take_36 : decode cX9_take 36 = .ok (.invokevirtual 112, 3) := by decide +kernel
theorem dX9_take_39 : decode cX9_take 39 = .ok (.ifCond .ge 6, 3) := by decide +kernel
theorem dX9_take_42 : decode cX9_take 42 = .ok (.bipush (-5), 2) := by decide +kernel
theorem dX9_take_44 : decode cX9_take 44 = .ok (.ireturn, 1) := by decide +kernel
theorem dX9_take_45 : decode cX9_take 45 = .ok (.iinc 1 1, 3) := by decide +kernel
theorem dX9_take_48 : decode cX9_take 48 = .ok (.goto (-36), 3) := by decide +kernel
theorem dX9_take_51 : decode cX9_take 51 = .ok (.iconst 0, 1) := by decide +kernel
theorem dX9_take_52 : decode cX9_take 52 = .ok (.istore_n 1, 1) := by decide +kernel
theorem dX9_take_53 : decode cX9_take 53 = .ok (.iload_n 1, 1) := by decide +kernel
theorem dX9_take_54 : decode cX9_take 54 = .ok (.bipush 8, 2) := by decide +kernel
theorem dX9_take_56 : decode cX9_take 56 = .ok (.aload_n 0, 1) := by decide +kernel
theorem dX9_take_57 : decode cX9_take 57 = .ok (.getfield 98, 3) := by decide +kernel
theorem dX9_take_60 : decode cX9_take 60 = .ok (.imul, 1) := by decide +kernel
theorem dX9_take_61 : decode cX9_take 61 = .ok (.if_icmp .ge 36, 3) := by decide +kernel
theorem dX9_take_64 : decode cX9_take 64 = .ok (.aload_n 0, 1) := by decide +kernel
theorem dX9_take_65 : decode cX9_take 65 = .ok (.getfield 25, 3) := by decide +kernel
theorem dX9_take_68 : decode cX9_take 68 = .ok (.iload_n 1, 1) := by decide +kernel
theorem dX9_take_69 : decode cX9_take 69 = .ok (.iaload, 1) := by decide +kernel
theorem dX9_take_70 : decode cX9_take 70 = .ok (.bipush (-6), 2) := by decide +kernel
theorem dX9_take_72 : decode cX9_take 72 = .ok (.if_icmp .eq 19, 3) := by decide +kernel
theorem dX9_take_75 : decode cX9_take 75 = .ok (.aload_n 0, 1) := by decide +kernel
theorem dX9_take_76 : decode cX9_take 76 = .ok (.aload_n 0, 1) := by decide +kernel
theorem dX9_take_77 : decode cX9_take 77 = .ok (.getfield 25, 3) := by decide +kernel
theorem dX9_take_80 : decode cX9_take 80 = .ok (.iload_n 1, 1) := by decide +kernel
theorem dX9_take_81 : decode cX9_take 81 = .ok (.iaload, 1) := by decide +kernel
theorem dX9_take_82 : decode cX9_take 82 = .ok (.invokevirtual 112, 3) := by decide +kernel
theorem dX9_take_85 : decode cX9_take 85 = .ok (.ifCond .ge 6, 3) := by decide +kernel
theorem dX9_take_88 : decode cX9_take 88 = .ok (.bipush (-5), 2) := by decide +kernel
theorem dX9_take_90 : decode cX9_take 90 = .ok (.ireturn, 1) := by decide +kernel
theorem dX9_take_91 : decode cX9_take 91 = .ok (.iinc 1 1, 3) := by decide +kernel
theorem dX9_take_94 : decode cX9_take 94 = .ok (.goto (-41), 3) := by decide +kernel
theorem dX9_take_97 : decode cX9_take 97 = .ok (.aload_n 0, 1) := by decide +kernel
theorem dX9_take_98 : decode cX9_take 98 = .ok (.getfield 98, 3) := by decide +kernel
theorem dX9_take_101 : decode cX9_take 101 = .ok (.bipush 40, 2) := by decide +kernel
theorem dX9_take_103 : decode cX9_take 103 = .ok (.if_icmp .le 6, 3) := by decide +kernel
theorem dX9_take_106 : decode cX9_take 106 = .ok (.bipush (-4), 2) := by decide +kernel
theorem dX9_take_108 : decode cX9_take 108 = .ok (.ireturn, 1) := by decide +kernel
theorem dX9_take_109 : decode cX9_take 109 = .ok (.aload_n 0, 1) := by decide +kernel
theorem dX9_take_110 : decode cX9_take 110 = .ok (.aload_n 0, 1) := by decide +kernel
theorem dX9_take_111 : decode cX9_take 111 = .ok (.getfield 98, 3) := by decide +kernel
theorem dX9_take_114 : decode cX9_take 114 = .ok (.putfield 116, 3) := by decide +kernel
theorem dX9_take_117 : decode cX9_take 117 = .ok (.iconst 0, 1) := by decide +kernel
theorem dX9_take_118 : decode cX9_take 118 = .ok (.istore_n 1, 1) := by decide +kernel
theorem dX9_take_119 : decode cX9_take 119 = .ok (.iload_n 1, 1) := by decide +kernel
theorem dX9_take_120 : decode cX9_take 120 = .ok (.aload_n 0, 1) := by decide +kernel
theorem dX9_take_121 : decode cX9_take 121 = .ok (.getfield 98, 3) := by decide +kernel
theorem dX9_take_124 : decode cX9_take 124 = .ok (.if_icmp .ge 21, 3) := by decide +kernel
theorem dX9_take_127 : decode cX9_take 127 = .ok (.aload_n 0, 1) := by decide +kernel
theorem dX9_take_128 : decode cX9_take 128 = .ok (.getfield 13, 3) := by decide +kernel
theorem dX9_take_131 : decode cX9_take 131 = .ok (.iload_n 1, 1) := by decide +kernel
theorem dX9_take_132 : decode cX9_take 132 = .ok (.aload_n 0, 1) := by decide +kernel
theorem dX9_take_133 : decode cX9_take 133 = .ok (.getfield 22, 3) := by decide +kernel
theorem dX9_take_136 : decode cX9_take 136 = .ok (.iload_n 1, 1) := by decide +kernel
theorem dX9_take_137 : decode cX9_take 137 = .ok (.iaload, 1) := by decide +kernel
theorem dX9_take_138 : decode cX9_take 138 = .ok (.iastore, 1) := by decide +kernel
theorem dX9_take_139 : decode cX9_take 139 = .ok (.iinc 1 1, 3) := by decide +kernel
theorem dX9_take_142 : decode cX9_take 142 = .ok (.goto (-23), 3) := by decide +kernel
theorem dX9_take_145 : decode cX9_take 145 = .ok (.iconst 0, 1) := by decide +kernel
theorem dX9_take_146 : decode cX9_take 146 = .ok (.istore_n 1, 1) := by decide +kernel
theorem dX9_take_147 : decode cX9_take 147 = .ok (.iload_n 1, 1) := by decide +kernel
theorem dX9_take_148 : decode cX9_take 148 = .ok (.bipush 8, 2) := by decide +kernel
theorem dX9_take_150 : decode cX9_take 150 = .ok (.aload_n 0, 1) := by decide +kernel
theorem dX9_take_151 : decode cX9_take 151 = .ok (.getfield 98, 3) := by decide +kernel
theorem dX9_take_154 : decode cX9_take 154 = .ok (.imul, 1) := by decide +kernel
theorem dX9_take_155 : decode cX9_take 155 = .ok (.if_icmp .ge 41, 3) := by decide +kernel
theorem dX9_take_158 : decode cX9_take 158 = .ok (.aload_n 0, 1) := by decide +kernel
theorem dX9_take_159 : decode cX9_take 159 = .ok (.getfield 16, 3) := by decide +kernel
theorem dX9_take_162 : decode cX9_take 162 = .ok (.iload_n 1, 1) := by decide +kernel
theorem dX9_take_163 : decode cX9_take 163 = .ok (.aload_n 0, 1) := by decide +kernel
theorem dX9_take_164 : decode cX9_take 164 = .ok (.getfield 25, 3) := by decide +kernel
theorem dX9_take_167 : decode cX9_take 167 = .ok (.iload_n 1, 1) := by decide +kernel
theorem dX9_take_168 : decode cX9_take 168 = .ok (.iaload, 1) := by decide +kernel
theorem dX9_take_169 : decode cX9_take 169 = .ok (.bipush (-6), 2) := by decide +kernel
theorem dX9_take_171 : decode cX9_take 171 = .ok (.if_icmp .ne 8, 3) := by decide +kernel
theorem dX9_take_174 : decode cX9_take 174 = .ok (.bipush (-6), 2) := by decide +kernel
theorem dX9_take_176 : decode cX9_take 176 = .ok (.goto 13, 3) := by decide +kernel
theorem dX9_take_179 : decode cX9_take 179 = .ok (.aload_n 0, 1) := by decide +kernel
theorem dX9_take_180 : decode cX9_take 180 = .ok (.aload_n 0, 1) := by decide +kernel
theorem dX9_take_181 : decode cX9_take 181 = .ok (.getfield 25, 3) := by decide +kernel
theorem dX9_take_184 : decode cX9_take 184 = .ok (.iload_n 1, 1) := by decide +kernel
theorem dX9_take_185 : decode cX9_take 185 = .ok (.iaload, 1) := by decide +kernel
theorem dX9_take_186 : decode cX9_take 186 = .ok (.invokevirtual 112, 3) := by decide +kernel
theorem dX9_take_189 : decode cX9_take 189 = .ok (.iastore, 1) := by decide +kernel
theorem dX9_take_190 : decode cX9_take 190 = .ok (.iinc 1 1, 3) := by decide +kernel
theorem dX9_take_193 : decode cX9_take 193 = .ok (.goto (-46), 3) := by decide +kernel
theorem dX9_take_196 : decode cX9_take 196 = .ok (.iconst 0, 1) := by decide +kernel
theorem dX9_take_197 : decode cX9_take 197 = .ok (.istore_n 1, 1) := by decide +kernel
theorem dX9_take_198 : decode cX9_take 198 = .ok (.iload_n 1, 1) := by decide +kernel
theorem dX9_take_199 : decode cX9_take 199 = .ok (.bipush 8, 2) := by decide +kernel
theorem dX9_take_201 : decode cX9_take 201 = .ok (.if_icmp .ge 41, 3) := by decide +kernel
theorem dX9_take_204 : decode cX9_take 204 = .ok (.aload_n 0, 1) := by decide +kernel
theorem dX9_take_205 : decode cX9_take 205 = .ok (.getfield 19, 3) := by decide +kernel
theorem dX9_take_208 : decode cX9_take 208 = .ok (.iload_n 1, 1) := by decide +kernel
theorem dX9_take_209 : decode cX9_take 209 = .ok (.aload_n 0, 1) := by decide +kernel
theorem dX9_take_210 : decode cX9_take 210 = .ok (.getfield 28, 3) := by decide +kernel
theorem dX9_take_213 : decode cX9_take 213 = .ok (.iload_n 1, 1) := by decide +kernel
theorem dX9_take_214 : decode cX9_take 214 = .ok (.iaload, 1) := by decide +kernel
theorem dX9_take_215 : decode cX9_take 215 = .ok (.bipush (-6), 2) := by decide +kernel
theorem dX9_take_217 : decode cX9_take 217 = .ok (.if_icmp .ne 8, 3) := by decide +kernel
theorem dX9_take_220 : decode cX9_take 220 = .ok (.bipush (-6), 2) := by decide +kernel
theorem dX9_take_222 : decode cX9_take 222 = .ok (.goto 13, 3) := by decide +kernel
theorem dX9_take_225 : decode cX9_take 225 = .ok (.aload_n 0, 1) := by decide +kernel
theorem dX9_take_226 : decode cX9_take 226 = .ok (.aload_n 0, 1) := by decide +kernel
theorem dX9_take_227 : decode cX9_take 227 = .ok (.getfield 28, 3) := by decide +kernel
theorem dX9_take_230 : decode cX9_take 230 = .ok (.iload_n 1, 1) := by decide +kernel
theorem dX9_take_231 : decode cX9_take 231 = .ok (.iaload, 1) := by decide +kernel
theorem dX9_take_232 : decode cX9_take 232 = .ok (.invokevirtual 112, 3) := by decide +kernel
theorem dX9_take_235 : decode cX9_take 235 = .ok (.iastore, 1) := by decide +kernel
theorem dX9_take_236 : decode cX9_take 236 = .ok (.iinc 1 1, 3) := by decide +kernel
theorem dX9_take_239 : decode cX9_take 239 = .ok (.goto (-41), 3) := by decide +kernel
theorem dX9_take_242 : decode cX9_take 242 = .ok (.aload_n 0, 1) := by decide +kernel
theorem dX9_take_243 : decode cX9_take 243 = .ok (.iconst 0, 1) := by decide +kernel
theorem dX9_take_244 : decode cX9_take 244 = .ok (.putfield 88, 3) := by decide +kernel
theorem dX9_take_247 : decode cX9_take 247 = .ok (.aload_n 0, 1) := by decide +kernel
theorem dX9_take_248 : decode cX9_take 248 = .ok (.iconst 0, 1) := by decide +kernel
theorem dX9_take_249 : decode cX9_take 249 = .ok (.putfield 119, 3) := by decide +kernel
theorem dX9_take_252 : decode cX9_take 252 = .ok (.aload_n 0, 1) := by decide +kernel
theorem dX9_take_253 : decode cX9_take 253 = .ok (.getfield 116, 3) := by decide +kernel
theorem dX9_take_256 : decode cX9_take 256 = .ok (.ireturn, 1) := by decide +kernel
theorem dX9_name_0 : decode cX9_name 0 = .ok (.iload_n 1, 1) := by decide +kernel
theorem dX9_name_1 : decode cX9_name 1 = .ok (.iconst 0, 1) := by decide +kernel
theorem dX9_name_2 : decode cX9_name 2 = .ok (.bipush 7, 2) := by decide +kernel
theorem dX9_name_4 : decode cX9_name 4 = .ok (.invokestatic 84, 3) := by decide +kernel
theorem dX9_name_7 : decode cX9_name 7 = .ok (.ifCond .eq 12, 3) := by decide +kernel
theorem dX9_name_10 : decode cX9_name 10 = .ok (.aload_n 0, 1) := by decide +kernel
theorem dX9_name_11 : decode cX9_name 11 = .ok (.getfield 19, 3) := by decide +kernel
theorem dX9_name_14 : decode cX9_name 14 = .ok (.iload_n 1, 1) := by decide +kernel
theorem dX9_name_15 : decode cX9_name 15 = .ok (.iaload, 1) := by decide +kernel
theorem dX9_name_16 : decode cX9_name 16 = .ok (.goto 4, 3) := by decide +kernel
theorem dX9_name_19 : decode cX9_name 19 = .ok (.iconst (-1), 1) := by decide +kernel
theorem dX9_name_20 : decode cX9_name 20 = .ok (.ireturn, 1) := by decide +kernel
theorem dX9_isNode_0 : decode cX9_isNode 0 = .ok (.iload_n 1, 1) := by decide +kernel
theorem dX9_isNode_1 : decode cX9_isNode 1 = .ok (.iconst 0, 1) := by decide +kernel
theorem dX9_isNode_2 : decode cX9_isNode 2 = .ok (.aload_n 0, 1) := by decide +kernel
theorem dX9_isNode_3 : decode cX9_isNode 3 = .ok (.getfield 116, 3) := by decide +kernel
theorem dX9_isNode_6 : decode cX9_isNode 6 = .ok (.iconst 1, 1) := by decide +kernel
theorem dX9_isNode_7 : decode cX9_isNode 7 = .ok (.isub, 1) := by decide +kernel
theorem dX9_isNode_8 : decode cX9_isNode 8 = .ok (.invokestatic 84, 3) := by decide +kernel
theorem dX9_isNode_11 : decode cX9_isNode 11 = .ok (.ireturn, 1) := by decide +kernel
theorem dX9_partsOf_0 : decode cX9_partsOf 0 = .ok (.iconst 0, 1) := by decide +kernel
theorem dX9_partsOf_1 : decode cX9_partsOf 1 = .ok (.istore_n 2, 1) := by decide +kernel
theorem dX9_partsOf_2 : decode cX9_partsOf 2 = .ok (.iconst 0, 1) := by decide +kernel
theorem dX9_partsOf_3 : decode cX9_partsOf 3 = .ok (.istore_n 3, 1) := by decide +kernel
theorem dX9_partsOf_4 : decode cX9_partsOf 4 = .ok (.iload_n 3, 1) := by decide +kernel
theorem dX9_partsOf_5 : decode cX9_partsOf 5 = .ok (.bipush 8, 2) := by decide +kernel
theorem dX9_partsOf_7 : decode cX9_partsOf 7 = .ok (.if_icmp .ge 31, 3) := by decide +kernel
theorem dX9_partsOf_10 : decode cX9_partsOf 10 = .ok (.iload_n 2, 1) := by decide +kernel
theorem dX9_partsOf_11 : decode cX9_partsOf 11 = .ok (.aload_n 0, 1) := by decide +kernel
theorem dX9_partsOf_12 : decode cX9_partsOf 12 = .ok (.getfield 16, 3) := by decide +kernel
theorem dX9_partsOf_15 : decode cX9_partsOf 15 = .ok (.bipush 8, 2) := by decide +kernel
theorem dX9_partsOf_17 : decode cX9_partsOf 17 = .ok (.iload_n 1, 1) := by decide +kernel
theorem dX9_partsOf_18 : decode cX9_partsOf 18 = .ok (.imul, 1) := by decide +kernel
theorem dX9_partsOf_19 : decode cX9_partsOf 19 = .ok (.iload_n 3, 1) := by decide +kernel
theorem dX9_partsOf_20 : decode cX9_partsOf 20 = .ok (.iadd, 1) := by decide +kernel
theorem dX9_partsOf_21 : decode cX9_partsOf 21 = .ok (.iaload, 1) := by decide +kernel
theorem dX9_partsOf_22 : decode cX9_partsOf 22 = .ok (.ifCond .lt 7, 3) := by decide +kernel
theorem dX9_partsOf_25 : decode cX9_partsOf 25 = .ok (.iconst 1, 1) := by decide +kernel
theorem dX9_partsOf_26 : decode cX9_partsOf 26 = .ok (.goto 4, 3) := by decide +kernel
theorem dX9_partsOf_29 : decode cX9_partsOf 29 = .ok (.iconst 0, 1) := by decide +kernel
theorem dX9_partsOf_30 : decode cX9_partsOf 30 = .ok (.iadd, 1) := by decide +kernel
theorem dX9_partsOf_31 : decode cX9_partsOf 31 = .ok (.istore_n 2, 1) := by decide +kernel
theorem dX9_partsOf_32 : decode cX9_partsOf 32 = .ok (.iinc 3 1, 3) := by decide +kernel
theorem dX9_partsOf_35 : decode cX9_partsOf 35 = .ok (.goto (-31), 3) := by decide +kernel
theorem dX9_partsOf_38 : decode cX9_partsOf 38 = .ok (.iload_n 2, 1) := by decide +kernel
theorem dX9_partsOf_39 : decode cX9_partsOf 39 = .ok (.ireturn, 1) := by decide +kernel
theorem dX9_node_0 : decode cX9_node 0 = .ok (.aload_n 0, 1) := by decide +kernel
theorem dX9_node_1 : decode cX9_node 1 = .ok (.iload_n 1, 1) := by decide +kernel
theorem dX9_node_2 : decode cX9_node 2 = .ok (.invokevirtual 123, 3) := by decide +kernel
theorem dX9_node_5 : decode cX9_node 5 = .ok (.ifCond .ne 5, 3) := by decide +kernel
theorem dX9_node_8 : decode cX9_node 8 = .ok (.iconst (-1), 1) := by decide +kernel
theorem dX9_node_9 : decode cX9_node 9 = .ok (.ireturn, 1) := by decide +kernel
theorem dX9_node_10 : decode cX9_node 10 = .ok (.iload_n 2, 1) := by decide +kernel
theorem dX9_node_11 : decode cX9_node 11 = .ok (.iconst (-1), 1) := by decide +kernel
theorem dX9_node_12 : decode cX9_node 12 = .ok (.if_icmp .ne 12, 3) := by decide +kernel
theorem dX9_node_15 : decode cX9_node 15 = .ok (.aload_n 0, 1) := by decide +kernel
theorem dX9_node_16 : decode cX9_node 16 = .ok (.getfield 13, 3) := by decide +kernel
theorem dX9_node_19 : decode cX9_node 19 = .ok (.iload_n 1, 1) := by decide +kernel
theorem dX9_node_20 : decode cX9_node 20 = .ok (.iaload, 1) := by decide +kernel
theorem dX9_node_21 : decode cX9_node 21 = .ok (.goto 43, 3) := by decide +kernel
theorem dX9_node_24 : decode cX9_node 24 = .ok (.iload_n 2, 1) := by decide +kernel
theorem dX9_node_25 : decode cX9_node 25 = .ok (.bipush 8, 2) := by decide +kernel
theorem dX9_node_27 : decode cX9_node 27 = .ok (.if_icmp .ne 11, 3) := by decide +kernel
theorem dX9_node_30 : decode cX9_node 30 = .ok (.aload_n 0, 1) := by decide +kernel
theorem dX9_node_31 : decode cX9_node 31 = .ok (.iload_n 1, 1) := by decide +kernel
theorem dX9_node_32 : decode cX9_node 32 = .ok (.invokevirtual 127, 3) := by decide +kernel
theorem dX9_node_35 : decode cX9_node 35 = .ok (.goto 29, 3) := by decide +kernel
theorem dX9_node_38 : decode cX9_node 38 = .ok (.iload_n 2, 1) := by decide +kernel
theorem dX9_node_39 : decode cX9_node 39 = .ok (.iconst 0, 1) := by decide +kernel
theorem dX9_node_40 : decode cX9_node 40 = .ok (.bipush 7, 2) := by decide +kernel
theorem dX9_node_42 : decode cX9_node 42 = .ok (.invokestatic 84, 3) := by decide +kernel
theorem dX9_node_45 : decode cX9_node 45 = .ok (.ifCond .eq 17, 3) := by decide +kernel
theorem dX9_node_48 : decode cX9_node 48 = .ok (.aload_n 0, 1) := by decide +kernel
theorem dX9_node_49 : decode cX9_node 49 = .ok (.getfield 16, 3) := by decide +kernel
theorem dX9_node_52 : decode cX9_node 52 = .ok (.bipush 8, 2) := by decide +kernel
theorem dX9_node_54 : decode cX9_node 54 = .ok (.iload_n 1, 1) := by decide +kernel
theorem dX9_node_55 : decode cX9_node 55 = .ok (.imul, 1) := by decide +kernel
theorem dX9_node_56 : decode cX9_node 56 = .ok (.iload_n 2, 1) := by decide +kernel
theorem dX9_node_57 : decode cX9_node 57 = .ok (.iadd, 1) := by decide +kernel
theorem dX9_node_58 : decode cX9_node 58 = .ok (.iaload, 1) := by decide +kernel
theorem dX9_node_59 : decode cX9_node 59 = .ok (.goto 5, 3) := by decide +kernel
theorem dX9_node_62 : decode cX9_node 62 = .ok (.bipush (-2), 2) := by decide +kernel
theorem dX9_node_64 : decode cX9_node 64 = .ok (.ireturn, 1) := by decide +kernel
theorem dX9_isBoth_0 : decode cX9_isBoth 0 = .ok (.iload_n 0, 1) := by decide +kernel
theorem dX9_isBoth_1 : decode cX9_isBoth 1 = .ok (.bipush 123, 2) := by decide +kernel
theorem dX9_isBoth_3 : decode cX9_isBoth 3 = .ok (.if_icmp .eq 9, 3) := by decide +kernel
theorem dX9_isBoth_6 : decode cX9_isBoth 6 = .ok (.iload_n 0, 1) := by decide +kernel
theorem dX9_isBoth_7 : decode cX9_isBoth 7 = .ok (.bipush 91, 2) := by decide +kernel
theorem dX9_isBoth_9 : decode cX9_isBoth 9 = .ok (.if_icmp .ne 7, 3) := by decide +kernel
theorem dX9_isBoth_12 : decode cX9_isBoth 12 = .ok (.iconst 1, 1) := by decide +kernel
theorem dX9_isBoth_13 : decode cX9_isBoth 13 = .ok (.goto 4, 3) := by decide +kernel
theorem dX9_isBoth_16 : decode cX9_isBoth 16 = .ok (.iconst 0, 1) := by decide +kernel
theorem dX9_isBoth_17 : decode cX9_isBoth 17 = .ok (.ireturn, 1) := by decide +kernel
theorem dX9_fitsAlone_0 : decode cX9_fitsAlone 0 = .ok (.aload_n 0, 1) := by decide +kernel
theorem dX9_fitsAlone_1 : decode cX9_fitsAlone 1 = .ok (.getfield 13, 3) := by decide +kernel
theorem dX9_fitsAlone_4 : decode cX9_fitsAlone 4 = .ok (.iload_n 1, 1) := by decide +kernel
theorem dX9_fitsAlone_5 : decode cX9_fitsAlone 5 = .ok (.iaload, 1) := by decide +kernel
theorem dX9_fitsAlone_6 : decode cX9_fitsAlone 6 = .ok (.bipush 33, 2) := by decide +kernel
theorem dX9_fitsAlone_8 : decode cX9_fitsAlone 8 = .ok (.if_icmp .eq 14, 3) := by decide +kernel
theorem dX9_fitsAlone_11 : decode cX9_fitsAlone 11 = .ok (.aload_n 0, 1) := by decide +kernel
theorem dX9_fitsAlone_12 : decode cX9_fitsAlone 12 = .ok (.getfield 13, 3) := by decide +kernel
theorem dX9_fitsAlone_15 : decode cX9_fitsAlone 15 = .ok (.iload_n 2, 1) := by decide +kernel
theorem dX9_fitsAlone_16 : decode cX9_fitsAlone 16 = .ok (.iaload, 1) := by decide +kernel
theorem dX9_fitsAlone_17 : decode cX9_fitsAlone 17 = .ok (.bipush 46, 2) := by decide +kernel
theorem dX9_fitsAlone_19 : decode cX9_fitsAlone 19 = .ok (.if_icmp .ne 5, 3) := by decide +kernel
theorem dX9_fitsAlone_22 : decode cX9_fitsAlone 22 = .ok (.iconst 1, 1) := by decide +kernel
theorem dX9_fitsAlone_23 : decode cX9_fitsAlone 23 = .ok (.ireturn, 1) := by decide +kernel
theorem dX9_fitsAlone_24 : decode cX9_fitsAlone 24 = .ok (.aload_n 0, 1) := by decide +kernel
theorem dX9_fitsAlone_25 : decode cX9_fitsAlone 25 = .ok (.getfield 13, 3) := by decide +kernel
theorem dX9_fitsAlone_28 : decode cX9_fitsAlone 28 = .ok (.iload_n 1, 1) := by decide +kernel
theorem dX9_fitsAlone_29 : decode cX9_fitsAlone 29 = .ok (.iaload, 1) := by decide +kernel
theorem dX9_fitsAlone_30 : decode cX9_fitsAlone 30 = .ok (.aload_n 0, 1) := by decide +kernel
theorem dX9_fitsAlone_31 : decode cX9_fitsAlone 31 = .ok (.getfield 13, 3) := by decide +kernel
theorem dX9_fitsAlone_34 : decode cX9_fitsAlone 34 = .ok (.iload_n 2, 1) := by decide +kernel
theorem dX9_fitsAlone_35 : decode cX9_fitsAlone 35 = .ok (.iaload, 1) := by decide +kernel
theorem dX9_fitsAlone_36 : decode cX9_fitsAlone 36 = .ok (.if_icmp .ne 14, 3) := by decide +kernel
theorem dX9_fitsAlone_39 : decode cX9_fitsAlone 39 = .ok (.aload_n 0, 1) := by decide +kernel
theorem dX9_fitsAlone_40 : decode cX9_fitsAlone 40 = .ok (.getfield 13, 3) := by decide +kernel
theorem dX9_fitsAlone_43 : decode cX9_fitsAlone 43 = .ok (.iload_n 1, 1) := by decide +kernel
theorem dX9_fitsAlone_44 : decode cX9_fitsAlone 44 = .ok (.iaload, 1) := by decide +kernel
theorem dX9_fitsAlone_45 : decode cX9_fitsAlone 45 = .ok (.bipush 46, 2) := by decide +kernel
theorem dX9_fitsAlone_47 : decode cX9_fitsAlone 47 = .ok (.if_icmp .ne 5, 3) := by decide +kernel
theorem dX9_fitsAlone_50 : decode cX9_fitsAlone 50 = .ok (.iconst 0, 1) := by decide +kernel
theorem dX9_fitsAlone_51 : decode cX9_fitsAlone 51 = .ok (.ireturn, 1) := by decide +kernel
theorem dX9_fitsAlone_52 : decode cX9_fitsAlone 52 = .ok (.iconst 1, 1) := by decide +kernel
theorem dX9_fitsAlone_53 : decode cX9_fitsAlone 53 = .ok (.istore_n 3, 1) := by decide +kernel
theorem dX9_fitsAlone_54 : decode cX9_fitsAlone 54 = .ok (.iconst 0, 1) := by decide +kernel
theorem dX9_fitsAlone_55 : decode cX9_fitsAlone 55 = .ok (.istore 4, 2) := by decide +kernel
theorem dX9_fitsAlone_57 : decode cX9_fitsAlone 57 = .ok (.iload 4, 2) := by decide +kernel
theorem dX9_fitsAlone_59 : decode cX9_fitsAlone 59 = .ok (.bipush 8, 2) := by decide +kernel
theorem dX9_fitsAlone_61 : decode cX9_fitsAlone 61 = .ok (.if_icmp .ge 109, 3) := by decide +kernel
theorem dX9_fitsAlone_64 : decode cX9_fitsAlone 64 = .ok (.aload_n 0, 1) := by decide +kernel
theorem dX9_fitsAlone_65 : decode cX9_fitsAlone 65 = .ok (.getfield 13, 3) := by decide +kernel
theorem dX9_fitsAlone_68 : decode cX9_fitsAlone 68 = .ok (.iload_n 1, 1) := by decide +kernel
theorem dX9_fitsAlone_69 : decode cX9_fitsAlone 69 = .ok (.iaload, 1) := by decide +kernel
theorem dX9_fitsAlone_70 : decode cX9_fitsAlone 70 = .ok (.invokestatic 130, 3) := by decide +kernel
theorem dX9_fitsAlone_73 : decode cX9_fitsAlone 73 = .ok (.ifCond .eq 97, 3) := by decide +kernel
theorem dX9_fitsAlone_76 : decode cX9_fitsAlone 76 = .ok (.aload_n 0, 1) := by decide +kernel
theorem dX9_fitsAlone_77 : decode cX9_fitsAlone 77 = .ok (.getfield 16, 3) := by decide +kernel
theorem dX9_fitsAlone_80 : decode cX9_fitsAlone 80 = .ok (.bipush 8, 2) := by decide +kernel
theorem dX9_fitsAlone_82 : decode cX9_fitsAlone 82 = .ok (.iload_n 1, 1) := by decide +kernel
theorem dX9_fitsAlone_83 : decode cX9_fitsAlone 83 = .ok (.imul, 1) := by decide +kernel
theorem dX9_fitsAlone_84 : decode cX9_fitsAlone 84 = .ok (.iload 4, 2) := by decide +kernel
theorem dX9_fitsAlone_86 : decode cX9_fitsAlone 86 = .ok (.iadd, 1) := by decide +kernel
theorem dX9_fitsAlone_87 : decode cX9_fitsAlone 87 = .ok (.iaload, 1) := by decide +kernel
theorem dX9_fitsAlone_88 : decode cX9_fitsAlone 88 = .ok (.ifCond .lt 7, 3) := by decide +kernel
theorem dX9_fitsAlone_91 : decode cX9_fitsAlone 91 = .ok (.iconst 1, 1) := by decide +kernel
theorem dX9_fitsAlone_92 : decode cX9_fitsAlone 92 = .ok (.goto 4, 3) := by decide +kernel
theorem dX9_fitsAlone_95 : decode cX9_fitsAlone 95 = .ok (.iconst 0, 1) := by decide +kernel
theorem dX9_fitsAlone_96 : decode cX9_fitsAlone 96 = .ok (.istore 5, 2) := by decide +kernel
theorem dX9_fitsAlone_98 : decode cX9_fitsAlone 98 = .ok (.aload_n 0, 1) := by decide +kernel
theorem dX9_fitsAlone_99 : decode cX9_fitsAlone 99 = .ok (.getfield 16, 3) := by decide +kernel
theorem dX9_fitsAlone_102 : decode cX9_fitsAlone 102 = .ok (.bipush 8, 2) := by decide +kernel
theorem dX9_fitsAlone_104 : decode cX9_fitsAlone 104 = .ok (.iload_n 2, 1) := by decide +kernel
theorem dX9_fitsAlone_105 : decode cX9_fitsAlone 105 = .ok (.imul, 1) := by decide +kernel
theorem dX9_fitsAlone_106 : decode cX9_fitsAlone 106 = .ok (.iload 4, 2) := by decide +kernel
theorem dX9_fitsAlone_108 : decode cX9_fitsAlone 108 = .ok (.iadd, 1) := by decide +kernel
theorem dX9_fitsAlone_109 : decode cX9_fitsAlone 109 = .ok (.iaload, 1) := by decide +kernel
theorem dX9_fitsAlone_110 : decode cX9_fitsAlone 110 = .ok (.ifCond .lt 7, 3) := by decide +kernel
theorem dX9_fitsAlone_113 : decode cX9_fitsAlone 113 = .ok (.iconst 1, 1) := by decide +kernel
theorem dX9_fitsAlone_114 : decode cX9_fitsAlone 114 = .ok (.goto 4, 3) := by decide +kernel
theorem dX9_fitsAlone_117 : decode cX9_fitsAlone 117 = .ok (.iconst 0, 1) := by decide +kernel
theorem dX9_fitsAlone_118 : decode cX9_fitsAlone 118 = .ok (.istore 6, 2) := by decide +kernel
theorem dX9_fitsAlone_120 : decode cX9_fitsAlone 120 = .ok (.iload_n 3, 1) := by decide +kernel
