theorem dX9_layLeast_35 : decode cX9_layLeast 35 = .ok (.aload_n 0, 1) := by decide +kernel
theorem dX9_layLeast_36 : decode cX9_layLeast 36 = .ok (.getfield 116, 3) := by decide +kernel
theorem dX9_layLeast_39 : decode cX9_layLeast 39 = .ok (.if_icmp .ge 182, 3) := by decide +kernel
theorem dX9_layLeast_42 : decode cX9_layLeast 42 = .ok (.aload_n 0, 1) := by decide +kernel
theorem dX9_layLeast_43 : decode cX9_layLeast 43 = .ok (.getfield 13, 3) := by decide +kernel
theorem dX9_layLeast_46 : decode cX9_layLeast 46 = .ok (.iload_n 2, 1) := by decide +kernel
theorem dX9_layLeast_47 : decode cX9_layLeast 47 = .ok (.iaload, 1) := by decide +kernel
theorem dX9_layLeast_48 : decode cX9_layLeast 48 = .ok (.istore_n 3, 1) := by decide +kernel
theorem dX9_layLeast_49 : decode cX9_layLeast 49 = .ok (.iconst 1, 1) := by decide +kernel
theorem dX9_layLeast_50 : decode cX9_layLeast 50 = .ok (.istore 4, 2) := by decide +kernel
theorem dX9_layLeast_52 : decode cX9_layLeast 52 = .ok (.ldc 137, 2) := by decide +kernel
theorem dX9_layLeast_54 : decode cX9_layLeast 54 = .ok (.istore 5, 2) := by decide +kernel
theorem dX9_layLeast_56 : decode cX9_layLeast 56 = .ok (.iconst 0, 1) := by decide +kernel
theorem dX9_layLeast_57 : decode cX9_layLeast 57 = .ok (.istore 6, 2) := by decide +kernel
theorem dX9_layLeast_59 : decode cX9_layLeast 59 = .ok (.iload 6, 2) := by decide +kernel
theorem dX9_layLeast_61 : decode cX9_layLeast 61 = .ok (.bipush 8, 2) := by decide +kernel
theorem dX9_layLeast_63 : decode cX9_layLeast 63 = .ok (.if_icmp .ge 75, 3) := by decide +kernel
theorem dX9_layLeast_66 : decode cX9_layLeast 66 = .ok (.aload_n 0, 1) := by decide +kernel
theorem dX9_layLeast_67 : decode cX9_layLeast 67 = .ok (.getfield 16, 3) := by decide +kernel
theorem dX9_layLeast_70 : decode cX9_layLeast 70 = .ok (.bipush 8, 2) := by decide +kernel
theorem dX9_layLeast_72 : decode cX9_layLeast 72 = .ok (.iload_n 2, 1) := by decide +kernel
theorem dX9_layLeast_73 : decode cX9_layLeast 73 = .ok (.imul, 1) := by decide +kernel
theorem dX9_layLeast_74 : decode cX9_layLeast 74 = .ok (.iload 6, 2) := by decide +kernel
theorem dX9_layLeast_76 : decode cX9_layLeast 76 = .ok (.iadd, 1) := by decide +kernel
theorem dX9_layLeast_77 : decode cX9_layLeast 77 = .ok (.iaload, 1) := by decide +kernel
theorem dX9_layLeast_78 : decode cX9_layLeast 78 = .ok (.istore 7, 2) := by decide +kernel
theorem dX9_layLeast_80 : decode cX9_layLeast 80 = .ok (.iload 4, 2) := by decide +kernel
theorem dX9_layLeast_82 : decode cX9_layLeast 82 = .ok (.iload 7, 2) := by decide +kernel
theorem dX9_layLeast_84 : decode cX9_layLeast 84 = .ok (.ifCond .lt 13, 3) := by decide +kernel
theorem dX9_layLeast_87 : decode cX9_layLeast 87 = .ok (.aload_n 0, 1) := by decide +kernel
theorem dX9_layLeast_88 : decode cX9_layLeast 88 = .ok (.getfield 81, 3) := by decide +kernel
theorem dX9_layLeast_91 : decode cX9_layLeast 91 = .ok (.iload 7, 2) := by decide +kernel
theorem dX9_layLeast_93 : decode cX9_layLeast 93 = .ok (.iaload, 1) := by decide +kernel
theorem dX9_layLeast_94 : decode cX9_layLeast 94 = .ok (.goto 4, 3) := by decide +kernel
theorem dX9_layLeast_97 : decode cX9_layLeast 97 = .ok (.iconst 0, 1) := by decide +kernel
theorem dX9_layLeast_98 : decode cX9_layLeast 98 = .ok (.iadd, 1) := by decide +kernel
theorem dX9_layLeast_99 : decode cX9_layLeast 99 = .ok (.istore 4, 2) := by decide +kernel
theorem dX9_layLeast_101 : decode cX9_layLeast 101 = .ok (.iload 7, 2) := by decide +kernel
theorem dX9_layLeast_103 : decode cX9_layLeast 103 = .ok (.ifCond .lt 25, 3) := by decide +kernel
theorem dX9_layLeast_106 : decode cX9_layLeast 106 = .ok (.aload_n 0, 1) := by decide +kernel
theorem dX9_layLeast_107 : decode cX9_layLeast 107 = .ok (.getfield 81, 3) := by decide +kernel
theorem dX9_layLeast_110 : decode cX9_layLeast 110 = .ok (.iload 7, 2) := by decide +kernel
theorem dX9_layLeast_112 : decode cX9_layLeast 112 = .ok (.iaload, 1) := by decide +kernel
theorem dX9_layLeast_113 : decode cX9_layLeast 113 = .ok (.iload 5, 2) := by decide +kernel
theorem dX9_layLeast_115 : decode cX9_layLeast 115 = .ok (.if_icmp .ge 13, 3) := by decide +kernel
theorem dX9_layLeast_118 : decode cX9_layLeast 118 = .ok (.aload_n 0, 1) := by decide +kernel
theorem dX9_layLeast_119 : decode cX9_layLeast 119 = .ok (.getfield 81, 3) := by decide +kernel
theorem dX9_layLeast_122 : decode cX9_layLeast 122 = .ok (.iload 7, 2) := by decide +kernel
theorem dX9_layLeast_124 : decode cX9_layLeast 124 = .ok (.iaload, 1) := by decide +kernel
theorem dX9_layLeast_125 : decode cX9_layLeast 125 = .ok (.goto 5, 3) := by decide +kernel
theorem dX9_layLeast_128 : decode cX9_layLeast 128 = .ok (.iload 5, 2) := by decide +kernel
theorem dX9_layLeast_130 : decode cX9_layLeast 130 = .ok (.istore 5, 2) := by decide +kernel
theorem dX9_layLeast_132 : decode cX9_layLeast 132 = .ok (.iinc 6 1, 3) := by decide +kernel
theorem dX9_layLeast_135 : decode cX9_layLeast 135 = .ok (.goto (-76), 3) := by decide +kernel
theorem dX9_layLeast_138 : decode cX9_layLeast 138 = .ok (.iload_n 3, 1) := by decide +kernel
theorem dX9_layLeast_139 : decode cX9_layLeast 139 = .ok (.bipush 110, 2) := by decide +kernel
theorem dX9_layLeast_141 : decode cX9_layLeast 141 = .ok (.if_icmp .eq 21, 3) := by decide +kernel
theorem dX9_layLeast_144 : decode cX9_layLeast 144 = .ok (.iload_n 3, 1) := by decide +kernel
theorem dX9_layLeast_145 : decode cX9_layLeast 145 = .ok (.bipush 116, 2) := by decide +kernel
theorem dX9_layLeast_147 : decode cX9_layLeast 147 = .ok (.if_icmp .eq 15, 3) := by decide +kernel
theorem dX9_layLeast_150 : decode cX9_layLeast 150 = .ok (.iload_n 3, 1) := by decide +kernel
theorem dX9_layLeast_151 : decode cX9_layLeast 151 = .ok (.bipush 115, 2) := by decide +kernel
theorem dX9_layLeast_153 : decode cX9_layLeast 153 = .ok (.if_icmp .eq 9, 3) := by decide +kernel
theorem dX9_layLeast_156 : decode cX9_layLeast 156 = .ok (.iload_n 3, 1) := by decide +kernel
theorem dX9_layLeast_157 : decode cX9_layLeast 157 = .ok (.bipush 42, 2) := by decide +kernel
theorem dX9_layLeast_159 : decode cX9_layLeast 159 = .ok (.if_icmp .ne 7, 3) := by decide +kernel
theorem dX9_layLeast_162 : decode cX9_layLeast 162 = .ok (.iconst 1, 1) := by decide +kernel
theorem dX9_layLeast_163 : decode cX9_layLeast 163 = .ok (.goto 29, 3) := by decide +kernel
theorem dX9_layLeast_166 : decode cX9_layLeast 166 = .ok (.iload_n 3, 1) := by decide +kernel
theorem dX9_layLeast_167 : decode cX9_layLeast 167 = .ok (.bipush 123, 2) := by decide +kernel
theorem dX9_layLeast_169 : decode cX9_layLeast 169 = .ok (.if_icmp .ne 8, 3) := by decide +kernel
theorem dX9_layLeast_172 : decode cX9_layLeast 172 = .ok (.iload 4, 2) := by decide +kernel
theorem dX9_layLeast_174 : decode cX9_layLeast 174 = .ok (.goto 18, 3) := by decide +kernel
theorem dX9_layLeast_177 : decode cX9_layLeast 177 = .ok (.iload_n 3, 1) := by decide +kernel
theorem dX9_layLeast_178 : decode cX9_layLeast 178 = .ok (.bipush 91, 2) := by decide +kernel
theorem dX9_layLeast_180 : decode cX9_layLeast 180 = .ok (.if_icmp .ne 10, 3) := by decide +kernel
theorem dX9_layLeast_183 : decode cX9_layLeast 183 = .ok (.iload 5, 2) := by decide +kernel
theorem dX9_layLeast_185 : decode cX9_layLeast 185 = .ok (.iconst 1, 1) := by decide +kernel
theorem dX9_layLeast_186 : decode cX9_layLeast 186 = .ok (.iadd, 1) := by decide +kernel
theorem dX9_layLeast_187 : decode cX9_layLeast 187 = .ok (.goto 5, 3) := by decide +kernel
theorem dX9_layLeast_190 : decode cX9_layLeast 190 = .ok (.ldc 137, 2) := by decide +kernel
theorem dX9_layLeast_192 : decode cX9_layLeast 192 = .ok (.istore 6, 2) := by decide +kernel
theorem dX9_layLeast_194 : decode cX9_layLeast 194 = .ok (.iload 6, 2) := by decide +kernel
theorem dX9_layLeast_196 : decode cX9_layLeast 196 = .ok (.aload_n 0, 1) := by decide +kernel
theorem dX9_layLeast_197 : decode cX9_layLeast 197 = .ok (.getfield 81, 3) := by decide +kernel
theorem dX9_layLeast_200 : decode cX9_layLeast 200 = .ok (.iload_n 2, 1) := by decide +kernel
theorem dX9_layLeast_201 : decode cX9_layLeast 201 = .ok (.iaload, 1) := by decide +kernel
theorem dX9_layLeast_202 : decode cX9_layLeast 202 = .ok (.if_icmp .ge 13, 3) := by decide +kernel
theorem dX9_layLeast_205 : decode cX9_layLeast 205 = .ok (.aload_n 0, 1) := by decide +kernel
theorem dX9_layLeast_206 : decode cX9_layLeast 206 = .ok (.getfield 81, 3) := by decide +kernel
theorem dX9_layLeast_209 : decode cX9_layLeast 209 = .ok (.iload_n 2, 1) := by decide +kernel
theorem dX9_layLeast_210 : decode cX9_layLeast 210 = .ok (.iload 6, 2) := by decide +kernel
theorem dX9_layLeast_212 : decode cX9_layLeast 212 = .ok (.iastore, 1) := by decide +kernel
theorem dX9_layLeast_213 : decode cX9_layLeast 213 = .ok (.iconst 1, 1) := by decide +kernel
theorem dX9_layLeast_214 : decode cX9_layLeast 214 = .ok (.istore_n 1, 1) := by decide +kernel
theorem dX9_layLeast_215 : decode cX9_layLeast 215 = .ok (.iinc 2 1, 3) := by decide +kernel
theorem dX9_layLeast_218 : decode cX9_layLeast 218 = .ok (.goto (-184), 3) := by decide +kernel
theorem dX9_layLeast_221 : decode cX9_layLeast 221 = .ok (.goto (-195), 3) := by decide +kernel
theorem dX9_layLeast_224 : decode cX9_layLeast 224 = .ok (.return_, 1) := by decide +kernel
theorem dX9_least_0 : decode cX9_least 0 = .ok (.aload_n 0, 1) := by decide +kernel
theorem dX9_least_1 : decode cX9_least 1 = .ok (.iload_n 1, 1) := by decide +kernel
theorem dX9_least_2 : decode cX9_least 2 = .ok (.invokevirtual 123, 3) := by decide +kernel
theorem dX9_least_5 : decode cX9_least 5 = .ok (.ifCond .ne 5, 3) := by decide +kernel
theorem dX9_least_8 : decode cX9_least 8 = .ok (.iconst (-1), 1) := by decide +kernel
theorem dX9_least_9 : decode cX9_least 9 = .ok (.ireturn, 1) := by decide +kernel
theorem dX9_least_10 : decode cX9_least 10 = .ok (.aload_n 0, 1) := by decide +kernel
theorem dX9_least_11 : decode cX9_least 11 = .ok (.invokevirtual 206, 3) := by decide +kernel
theorem dX9_least_14 : decode cX9_least 14 = .ok (.aload_n 0, 1) := by decide +kernel
theorem dX9_least_15 : decode cX9_least 15 = .ok (.getfield 81, 3) := by decide +kernel
theorem dX9_least_18 : decode cX9_least 18 = .ok (.iload_n 1, 1) := by decide +kernel
theorem dX9_least_19 : decode cX9_least 19 = .ok (.iaload, 1) := by decide +kernel
theorem dX9_least_20 : decode cX9_least 20 = .ok (.bipush 40, 2) := by decide +kernel
theorem dX9_least_22 : decode cX9_least 22 = .ok (.if_icmp .le 8, 3) := by decide +kernel
theorem dX9_least_25 : decode cX9_least 25 = .ok (.bipush (-6), 2) := by decide +kernel
theorem dX9_least_27 : decode cX9_least 27 = .ok (.goto 9, 3) := by decide +kernel
theorem dX9_least_30 : decode cX9_least 30 = .ok (.aload_n 0, 1) := by decide +kernel
theorem dX9_least_31 : decode cX9_least 31 = .ok (.getfield 81, 3) := by decide +kernel
theorem dX9_least_34 : decode cX9_least 34 = .ok (.iload_n 1, 1) := by decide +kernel
theorem dX9_least_35 : decode cX9_least 35 = .ok (.iaload, 1) := by decide +kernel
theorem dX9_least_36 : decode cX9_least 36 = .ok (.ireturn, 1) := by decide +kernel
theorem dX9_told_0 : decode cX9_told 0 = .ok (.iconst 0, 1) := by decide +kernel
theorem dX9_told_1 : decode cX9_told 1 = .ok (.istore_n 2, 1) := by decide +kernel
theorem dX9_told_2 : decode cX9_told 2 = .ok (.iload_n 1, 1) := by decide +kernel
theorem dX9_told_3 : decode cX9_told 3 = .ok (.tableswitch 186 0 4 #[33, 38, 43, 76, 117], 33) := by decide +kernel
theorem dX9_told_36 : decode cX9_told 36 = .ok (.aload_n 0, 1) := by decide +kernel
theorem dX9_told_37 : decode cX9_told 37 = .ok (.getfield 88, 3) := by decide +kernel
theorem dX9_told_40 : decode cX9_told 40 = .ok (.ireturn, 1) := by decide +kernel
theorem dX9_told_41 : decode cX9_told 41 = .ok (.aload_n 0, 1) := by decide +kernel
theorem dX9_told_42 : decode cX9_told 42 = .ok (.getfield 116, 3) := by decide +kernel
theorem dX9_told_45 : decode cX9_told 45 = .ok (.ireturn, 1) := by decide +kernel
theorem dX9_told_46 : decode cX9_told 46 = .ok (.iconst 0, 1) := by decide +kernel
theorem dX9_told_47 : decode cX9_told 47 = .ok (.istore_n 3, 1) := by decide +kernel
theorem dX9_told_48 : decode cX9_told 48 = .ok (.iload_n 3, 1) := by decide +kernel
theorem dX9_told_49 : decode cX9_told 49 = .ok (.bipush 8, 2) := by decide +kernel
theorem dX9_told_51 : decode cX9_told 51 = .ok (.if_icmp .ge 26, 3) := by decide +kernel
theorem dX9_told_54 : decode cX9_told 54 = .ok (.iload_n 2, 1) := by decide +kernel
theorem dX9_told_55 : decode cX9_told 55 = .ok (.aload_n 0, 1) := by decide +kernel
theorem dX9_told_56 : decode cX9_told 56 = .ok (.getfield 19, 3) := by decide +kernel
theorem dX9_told_59 : decode cX9_told 59 = .ok (.iload_n 3, 1) := by decide +kernel
theorem dX9_told_60 : decode cX9_told 60 = .ok (.iaload, 1) := by decide +kernel
theorem dX9_told_61 : decode cX9_told 61 = .ok (.ifCond .lt 7, 3) := by decide +kernel
theorem dX9_told_64 : decode cX9_told 64 = .ok (.iconst 1, 1) := by decide +kernel
theorem dX9_told_65 : decode cX9_told 65 = .ok (.goto 4, 3) := by decide +kernel
theorem dX9_told_68 : decode cX9_told 68 = .ok (.iconst 0, 1) := by decide +kernel
theorem dX9_told_69 : decode cX9_told 69 = .ok (.iadd, 1) := by decide +kernel
theorem dX9_told_70 : decode cX9_told 70 = .ok (.istore_n 2, 1) := by decide +kernel
theorem dX9_told_71 : decode cX9_told 71 = .ok (.iinc 3 1, 3) := by decide +kernel
theorem dX9_told_74 : decode cX9_told 74 = .ok (.goto (-26), 3) := by decide +kernel
theorem dX9_told_77 : decode cX9_told 77 = .ok (.iload_n 2, 1) := by decide +kernel
theorem dX9_told_78 : decode cX9_told 78 = .ok (.ireturn, 1) := by decide +kernel
theorem dX9_told_79 : decode cX9_told 79 = .ok (.aload_n 0, 1) := by decide +kernel
theorem dX9_told_80 : decode cX9_told 80 = .ok (.invokevirtual 206, 3) := by decide +kernel
theorem dX9_told_83 : decode cX9_told 83 = .ok (.iconst 0, 1) := by decide +kernel
theorem dX9_told_84 : decode cX9_told 84 = .ok (.istore_n 3, 1) := by decide +kernel
theorem dX9_told_85 : decode cX9_told 85 = .ok (.iload_n 3, 1) := by decide +kernel
theorem dX9_told_86 : decode cX9_told 86 = .ok (.aload_n 0, 1) := by decide +kernel
theorem dX9_told_87 : decode cX9_told 87 = .ok (.getfield 116, 3) := by decide +kernel
theorem dX9_told_90 : decode cX9_told 90 = .ok (.if_icmp .ge 28, 3) := by decide +kernel
theorem dX9_told_93 : decode cX9_told 93 = .ok (.iload_n 2, 1) := by decide +kernel
theorem dX9_told_94 : decode cX9_told 94 = .ok (.aload_n 0, 1) := by decide +kernel
theorem dX9_told_95 : decode cX9_told 95 = .ok (.getfield 81, 3) := by decide +kernel
theorem dX9_told_98 : decode cX9_told 98 = .ok (.iload_n 3, 1) := by decide +kernel
theorem dX9_told_99 : decode cX9_told 99 = .ok (.iaload, 1) := by decide +kernel
theorem dX9_told_100 : decode cX9_told 100 = .ok (.bipush 40, 2) := by decide +kernel
theorem dX9_told_102 : decode cX9_told 102 = .ok (.if_icmp .le 7, 3) := by decide +kernel
theorem dX9_told_105 : decode cX9_told 105 = .ok (.iconst 1, 1) := by decide +kernel
theorem dX9_told_106 : decode cX9_told 106 = .ok (.goto 4, 3) := by decide +kernel
theorem dX9_told_109 : decode cX9_told 109 = .ok (.iconst 0, 1) := by decide +kernel
theorem dX9_told_110 : decode cX9_told 110 = .ok (.iadd, 1) := by decide +kernel
theorem dX9_told_111 : decode cX9_told 111 = .ok (.istore_n 2, 1) := by decide +kernel
theorem dX9_told_112 : decode cX9_told 112 = .ok (.iinc 3 1, 3) := by decide +kernel
theorem dX9_told_115 : decode cX9_told 115 = .ok (.goto (-30), 3) := by decide +kernel
theorem dX9_told_118 : decode cX9_told 118 = .ok (.iload_n 2, 1) := by decide +kernel
theorem dX9_told_119 : decode cX9_told 119 = .ok (.ireturn, 1) := by decide +kernel
theorem dX9_told_120 : decode cX9_told 120 = .ok (.aload_n 0, 1) := by decide +kernel
theorem dX9_told_121 : decode cX9_told 121 = .ok (.invokevirtual 145, 3) := by decide +kernel
theorem dX9_told_124 : decode cX9_told 124 = .ok (.iconst 0, 1) := by decide +kernel
theorem dX9_told_125 : decode cX9_told 125 = .ok (.istore_n 3, 1) := by decide +kernel
theorem dX9_told_126 : decode cX9_told 126 = .ok (.iload_n 3, 1) := by decide +kernel
theorem dX9_told_127 : decode cX9_told 127 = .ok (.aload_n 0, 1) := by decide +kernel
theorem dX9_told_128 : decode cX9_told 128 = .ok (.getfield 116, 3) := by decide +kernel
theorem dX9_told_131 : decode cX9_told 131 = .ok (.if_icmp .ge 56, 3) := by decide +kernel
theorem dX9_told_134 : decode cX9_told 134 = .ok (.iconst 0, 1) := by decide +kernel
theorem dX9_told_135 : decode cX9_told 135 = .ok (.istore 4, 2) := by decide +kernel
theorem dX9_told_137 : decode cX9_told 137 = .ok (.iload 4, 2) := by decide +kernel
theorem dX9_told_139 : decode cX9_told 139 = .ok (.aload_n 0, 1) := by decide +kernel
theorem dX9_told_140 : decode cX9_told 140 = .ok (.getfield 116, 3) := by decide +kernel
theorem dX9_told_143 : decode cX9_told 143 = .ok (.if_icmp .ge 38, 3) := by decide +kernel
theorem dX9_told_146 : decode cX9_told 146 = .ok (.iload_n 2, 1) := by decide +kernel
theorem dX9_told_147 : decode cX9_told 147 = .ok (.aload_n 0, 1) := by decide +kernel
theorem dX9_told_148 : decode cX9_told 148 = .ok (.getfield 40, 3) := by decide +kernel
theorem dX9_told_151 : decode cX9_told 151 = .ok (.bipush 60, 2) := by decide +kernel
theorem dX9_told_153 : decode cX9_told 153 = .ok (.iload_n 3, 1) := by decide +kernel
theorem dX9_told_154 : decode cX9_told 154 = .ok (.imul, 1) := by decide +kernel
theorem dX9_told_155 : decode cX9_told 155 = .ok (.iload 4, 2) := by decide +kernel
theorem dX9_told_157 : decode cX9_told 157 = .ok (.iadd, 1) := by decide +kernel
theorem dX9_told_158 : decode cX9_told 158 = .ok (.baload, 1) := by decide +kernel
theorem dX9_told_159 : decode cX9_told 159 = .ok (.ifCond .eq 13, 3) := by decide +kernel
theorem dX9_told_162 : decode cX9_told 162 = .ok (.iload_n 3, 1) := by decide +kernel
theorem dX9_told_163 : decode cX9_told 163 = .ok (.iload 4, 2) := by decide +kernel
theorem dX9_told_165 : decode cX9_told 165 = .ok (.if_icmp .eq 7, 3) := by decide +kernel
theorem dX9_told_168 : decode cX9_told 168 = .ok (.iconst 1, 1) := by decide +kernel
theorem dX9_told_169 : decode cX9_told 169 = .ok (.goto 4, 3) := by decide +kernel
theorem dX9_told_172 : decode cX9_told 172 = .ok (.iconst 0, 1) := by decide +kernel
theorem dX9_told_173 : decode cX9_told 173 = .ok (.iadd, 1) := by decide +kernel
theorem dX9_told_174 : decode cX9_told 174 = .ok (.istore_n 2, 1) := by decide +kernel
theorem dX9_told_175 : decode cX9_told 175 = .ok (.iinc 4 1, 3) := by decide +kernel
theorem dX9_told_178 : decode cX9_told 178 = .ok (.goto (-41), 3) := by decide +kernel
theorem dX9_told_181 : decode cX9_told 181 = .ok (.iinc 3 1, 3) := by decide +kernel
theorem dX9_told_184 : decode cX9_told 184 = .ok (.goto (-58), 3) := by decide +kernel
theorem dX9_told_187 : decode cX9_told 187 = .ok (.iload_n 2, 1) := by decide +kernel
theorem dX9_told_188 : decode cX9_told 188 = .ok (.ireturn, 1) := by decide +kernel
theorem dX9_told_189 : decode cX9_told 189 = .ok (.bipush (-2), 2) := by decide +kernel
theorem dX9_told_191 : decode cX9_told 191 = .ok (.ireturn, 1) := by decide +kernel
