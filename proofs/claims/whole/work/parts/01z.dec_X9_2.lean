theorem dX9_fitsAlone_121 : decode cX9_fitsAlone 121 = .ok (.ifCond .eq 41, 3) := by decide +kernel
theorem dX9_fitsAlone_124 : decode cX9_fitsAlone 124 = .ok (.aload_n 0, 1) := by decide +kernel
theorem dX9_fitsAlone_125 : decode cX9_fitsAlone 125 = .ok (.getfield 13, 3) := by decide +kernel
theorem dX9_fitsAlone_128 : decode cX9_fitsAlone 128 = .ok (.iload_n 1, 1) := by decide +kernel
theorem dX9_fitsAlone_129 : decode cX9_fitsAlone 129 = .ok (.iaload, 1) := by decide +kernel
theorem dX9_fitsAlone_130 : decode cX9_fitsAlone 130 = .ok (.bipush 123, 2) := by decide +kernel
theorem dX9_fitsAlone_132 : decode cX9_fitsAlone 132 = .ok (.if_icmp .ne 16, 3) := by decide +kernel
theorem dX9_fitsAlone_135 : decode cX9_fitsAlone 135 = .ok (.iload 5, 2) := by decide +kernel
theorem dX9_fitsAlone_137 : decode cX9_fitsAlone 137 = .ok (.ifCond .ne 21, 3) := by decide +kernel
theorem dX9_fitsAlone_140 : decode cX9_fitsAlone 140 = .ok (.iload 6, 2) := by decide +kernel
theorem dX9_fitsAlone_142 : decode cX9_fitsAlone 142 = .ok (.ifCond .ne 20, 3) := by decide +kernel
theorem dX9_fitsAlone_145 : decode cX9_fitsAlone 145 = .ok (.goto 13, 3) := by decide +kernel
theorem dX9_fitsAlone_148 : decode cX9_fitsAlone 148 = .ok (.iload 6, 2) := by decide +kernel
theorem dX9_fitsAlone_150 : decode cX9_fitsAlone 150 = .ok (.ifCond .ne 8, 3) := by decide +kernel
theorem dX9_fitsAlone_153 : decode cX9_fitsAlone 153 = .ok (.iload 5, 2) := by decide +kernel
theorem dX9_fitsAlone_155 : decode cX9_fitsAlone 155 = .ok (.ifCond .ne 7, 3) := by decide +kernel
theorem dX9_fitsAlone_158 : decode cX9_fitsAlone 158 = .ok (.iconst 1, 1) := by decide +kernel
theorem dX9_fitsAlone_159 : decode cX9_fitsAlone 159 = .ok (.goto 4, 3) := by decide +kernel
theorem dX9_fitsAlone_162 : decode cX9_fitsAlone 162 = .ok (.iconst 0, 1) := by decide +kernel
theorem dX9_fitsAlone_163 : decode cX9_fitsAlone 163 = .ok (.istore_n 3, 1) := by decide +kernel
theorem dX9_fitsAlone_164 : decode cX9_fitsAlone 164 = .ok (.iinc 4 1, 3) := by decide +kernel
theorem dX9_fitsAlone_167 : decode cX9_fitsAlone 167 = .ok (.goto (-110), 3) := by decide +kernel
theorem dX9_fitsAlone_170 : decode cX9_fitsAlone 170 = .ok (.iload_n 3, 1) := by decide +kernel
theorem dX9_fitsAlone_171 : decode cX9_fitsAlone 171 = .ok (.ireturn, 1) := by decide +kernel
theorem dX9_stepTo_0 : decode cX9_stepTo 0 = .ok (.aload_n 0, 1) := by decide +kernel
theorem dX9_stepTo_1 : decode cX9_stepTo 1 = .ok (.getfield 13, 3) := by decide +kernel
theorem dX9_stepTo_4 : decode cX9_stepTo 4 = .ok (.iload_n 1, 1) := by decide +kernel
theorem dX9_stepTo_5 : decode cX9_stepTo 5 = .ok (.iaload, 1) := by decide +kernel
theorem dX9_stepTo_6 : decode cX9_stepTo 6 = .ok (.istore 4, 2) := by decide +kernel
theorem dX9_stepTo_8 : decode cX9_stepTo 8 = .ok (.iload 4, 2) := by decide +kernel
theorem dX9_stepTo_10 : decode cX9_stepTo 10 = .ok (.bipush 33, 2) := by decide +kernel
theorem dX9_stepTo_12 : decode cX9_stepTo 12 = .ok (.if_icmp .eq 14, 3) := by decide +kernel
theorem dX9_stepTo_15 : decode cX9_stepTo 15 = .ok (.aload_n 0, 1) := by decide +kernel
theorem dX9_stepTo_16 : decode cX9_stepTo 16 = .ok (.getfield 13, 3) := by decide +kernel
theorem dX9_stepTo_19 : decode cX9_stepTo 19 = .ok (.iload_n 2, 1) := by decide +kernel
theorem dX9_stepTo_20 : decode cX9_stepTo 20 = .ok (.iaload, 1) := by decide +kernel
theorem dX9_stepTo_21 : decode cX9_stepTo 21 = .ok (.bipush 46, 2) := by decide +kernel
theorem dX9_stepTo_23 : decode cX9_stepTo 23 = .ok (.if_icmp .ne 6, 3) := by decide +kernel
theorem dX9_stepTo_26 : decode cX9_stepTo 26 = .ok (.bipush (-6), 2) := by decide +kernel
theorem dX9_stepTo_28 : decode cX9_stepTo 28 = .ok (.ireturn, 1) := by decide +kernel
theorem dX9_stepTo_29 : decode cX9_stepTo 29 = .ok (.iload_n 3, 1) := by decide +kernel
theorem dX9_stepTo_30 : decode cX9_stepTo 30 = .ok (.bipush 8, 2) := by decide +kernel
theorem dX9_stepTo_32 : decode cX9_stepTo 32 = .ok (.if_icmp .ge 83, 3) := by decide +kernel
theorem dX9_stepTo_35 : decode cX9_stepTo 35 = .ok (.iload 4, 2) := by decide +kernel
theorem dX9_stepTo_37 : decode cX9_stepTo 37 = .ok (.invokestatic 130, 3) := by decide +kernel
theorem dX9_stepTo_40 : decode cX9_stepTo 40 = .ok (.ifCond .eq 35, 3) := by decide +kernel
theorem dX9_stepTo_43 : decode cX9_stepTo 43 = .ok (.aload_n 0, 1) := by decide +kernel
theorem dX9_stepTo_44 : decode cX9_stepTo 44 = .ok (.getfield 16, 3) := by decide +kernel
theorem dX9_stepTo_47 : decode cX9_stepTo 47 = .ok (.bipush 8, 2) := by decide +kernel
theorem dX9_stepTo_49 : decode cX9_stepTo 49 = .ok (.iload_n 1, 1) := by decide +kernel
theorem dX9_stepTo_50 : decode cX9_stepTo 50 = .ok (.imul, 1) := by decide +kernel
theorem dX9_stepTo_51 : decode cX9_stepTo 51 = .ok (.iload_n 3, 1) := by decide +kernel
theorem dX9_stepTo_52 : decode cX9_stepTo 52 = .ok (.iadd, 1) := by decide +kernel
theorem dX9_stepTo_53 : decode cX9_stepTo 53 = .ok (.iaload, 1) := by decide +kernel
theorem dX9_stepTo_54 : decode cX9_stepTo 54 = .ok (.ifCond .lt 21, 3) := by decide +kernel
theorem dX9_stepTo_57 : decode cX9_stepTo 57 = .ok (.aload_n 0, 1) := by decide +kernel
theorem dX9_stepTo_58 : decode cX9_stepTo 58 = .ok (.getfield 16, 3) := by decide +kernel
theorem dX9_stepTo_61 : decode cX9_stepTo 61 = .ok (.bipush 8, 2) := by decide +kernel
theorem dX9_stepTo_63 : decode cX9_stepTo 63 = .ok (.iload_n 2, 1) := by decide +kernel
theorem dX9_stepTo_64 : decode cX9_stepTo 64 = .ok (.imul, 1) := by decide +kernel
theorem dX9_stepTo_65 : decode cX9_stepTo 65 = .ok (.iload_n 3, 1) := by decide +kernel
theorem dX9_stepTo_66 : decode cX9_stepTo 66 = .ok (.iadd, 1) := by decide +kernel
theorem dX9_stepTo_67 : decode cX9_stepTo 67 = .ok (.iaload, 1) := by decide +kernel
theorem dX9_stepTo_68 : decode cX9_stepTo 68 = .ok (.ifCond .lt 7, 3) := by decide +kernel
theorem dX9_stepTo_71 : decode cX9_stepTo 71 = .ok (.iconst 1, 1) := by decide +kernel
theorem dX9_stepTo_72 : decode cX9_stepTo 72 = .ok (.goto 4, 3) := by decide +kernel
theorem dX9_stepTo_75 : decode cX9_stepTo 75 = .ok (.iconst 0, 1) := by decide +kernel
theorem dX9_stepTo_76 : decode cX9_stepTo 76 = .ok (.istore 5, 2) := by decide +kernel
theorem dX9_stepTo_78 : decode cX9_stepTo 78 = .ok (.iload 5, 2) := by decide +kernel
theorem dX9_stepTo_80 : decode cX9_stepTo 80 = .ok (.ifCond .eq 32, 3) := by decide +kernel
theorem dX9_stepTo_83 : decode cX9_stepTo 83 = .ok (.bipush 60, 2) := by decide +kernel
theorem dX9_stepTo_85 : decode cX9_stepTo 85 = .ok (.aload_n 0, 1) := by decide +kernel
theorem dX9_stepTo_86 : decode cX9_stepTo 86 = .ok (.getfield 16, 3) := by decide +kernel
theorem dX9_stepTo_89 : decode cX9_stepTo 89 = .ok (.bipush 8, 2) := by decide +kernel
theorem dX9_stepTo_91 : decode cX9_stepTo 91 = .ok (.iload_n 1, 1) := by decide +kernel
theorem dX9_stepTo_92 : decode cX9_stepTo 92 = .ok (.imul, 1) := by decide +kernel
theorem dX9_stepTo_93 : decode cX9_stepTo 93 = .ok (.iload_n 3, 1) := by decide +kernel
theorem dX9_stepTo_94 : decode cX9_stepTo 94 = .ok (.iadd, 1) := by decide +kernel
theorem dX9_stepTo_95 : decode cX9_stepTo 95 = .ok (.iaload, 1) := by decide +kernel
theorem dX9_stepTo_96 : decode cX9_stepTo 96 = .ok (.imul, 1) := by decide +kernel
theorem dX9_stepTo_97 : decode cX9_stepTo 97 = .ok (.aload_n 0, 1) := by decide +kernel
theorem dX9_stepTo_98 : decode cX9_stepTo 98 = .ok (.getfield 16, 3) := by decide +kernel
theorem dX9_stepTo_101 : decode cX9_stepTo 101 = .ok (.bipush 8, 2) := by decide +kernel
theorem dX9_stepTo_103 : decode cX9_stepTo 103 = .ok (.iload_n 2, 1) := by decide +kernel
theorem dX9_stepTo_104 : decode cX9_stepTo 104 = .ok (.imul, 1) := by decide +kernel
theorem dX9_stepTo_105 : decode cX9_stepTo 105 = .ok (.iload_n 3, 1) := by decide +kernel
theorem dX9_stepTo_106 : decode cX9_stepTo 106 = .ok (.iadd, 1) := by decide +kernel
theorem dX9_stepTo_107 : decode cX9_stepTo 107 = .ok (.iaload, 1) := by decide +kernel
theorem dX9_stepTo_108 : decode cX9_stepTo 108 = .ok (.iadd, 1) := by decide +kernel
theorem dX9_stepTo_109 : decode cX9_stepTo 109 = .ok (.goto 5, 3) := by decide +kernel
theorem dX9_stepTo_112 : decode cX9_stepTo 112 = .ok (.bipush (-6), 2) := by decide +kernel
theorem dX9_stepTo_114 : decode cX9_stepTo 114 = .ok (.ireturn, 1) := by decide +kernel
theorem dX9_stepTo_115 : decode cX9_stepTo 115 = .ok (.iload_n 3, 1) := by decide +kernel
theorem dX9_stepTo_116 : decode cX9_stepTo 116 = .ok (.bipush 8, 2) := by decide +kernel
theorem dX9_stepTo_118 : decode cX9_stepTo 118 = .ok (.if_icmp .ne 38, 3) := by decide +kernel
theorem dX9_stepTo_121 : decode cX9_stepTo 121 = .ok (.iload 4, 2) := by decide +kernel
theorem dX9_stepTo_123 : decode cX9_stepTo 123 = .ok (.bipush 42, 2) := by decide +kernel
theorem dX9_stepTo_125 : decode cX9_stepTo 125 = .ok (.if_icmp .ne 28, 3) := by decide +kernel
theorem dX9_stepTo_128 : decode cX9_stepTo 128 = .ok (.bipush 60, 2) := by decide +kernel
theorem dX9_stepTo_130 : decode cX9_stepTo 130 = .ok (.aload_n 0, 1) := by decide +kernel
theorem dX9_stepTo_131 : decode cX9_stepTo 131 = .ok (.getfield 16, 3) := by decide +kernel
theorem dX9_stepTo_134 : decode cX9_stepTo 134 = .ok (.bipush 8, 2) := by decide +kernel
theorem dX9_stepTo_136 : decode cX9_stepTo 136 = .ok (.iload_n 1, 1) := by decide +kernel
theorem dX9_stepTo_137 : decode cX9_stepTo 137 = .ok (.imul, 1) := by decide +kernel
theorem dX9_stepTo_138 : decode cX9_stepTo 138 = .ok (.iaload, 1) := by decide +kernel
theorem dX9_stepTo_139 : decode cX9_stepTo 139 = .ok (.imul, 1) := by decide +kernel
theorem dX9_stepTo_140 : decode cX9_stepTo 140 = .ok (.aload_n 0, 1) := by decide +kernel
theorem dX9_stepTo_141 : decode cX9_stepTo 141 = .ok (.getfield 16, 3) := by decide +kernel
theorem dX9_stepTo_144 : decode cX9_stepTo 144 = .ok (.bipush 8, 2) := by decide +kernel
theorem dX9_stepTo_146 : decode cX9_stepTo 146 = .ok (.iload_n 2, 1) := by decide +kernel
theorem dX9_stepTo_147 : decode cX9_stepTo 147 = .ok (.imul, 1) := by decide +kernel
theorem dX9_stepTo_148 : decode cX9_stepTo 148 = .ok (.iaload, 1) := by decide +kernel
theorem dX9_stepTo_149 : decode cX9_stepTo 149 = .ok (.iadd, 1) := by decide +kernel
theorem dX9_stepTo_150 : decode cX9_stepTo 150 = .ok (.goto 5, 3) := by decide +kernel
theorem dX9_stepTo_153 : decode cX9_stepTo 153 = .ok (.bipush (-6), 2) := by decide +kernel
theorem dX9_stepTo_155 : decode cX9_stepTo 155 = .ok (.ireturn, 1) := by decide +kernel
theorem dX9_stepTo_156 : decode cX9_stepTo 156 = .ok (.iload 4, 2) := by decide +kernel
theorem dX9_stepTo_158 : decode cX9_stepTo 158 = .ok (.bipush 62, 2) := by decide +kernel
theorem dX9_stepTo_160 : decode cX9_stepTo 160 = .ok (.if_icmp .eq 6, 3) := by decide +kernel
theorem dX9_stepTo_163 : decode cX9_stepTo 163 = .ok (.bipush (-6), 2) := by decide +kernel
theorem dX9_stepTo_165 : decode cX9_stepTo 165 = .ok (.ireturn, 1) := by decide +kernel
theorem dX9_stepTo_166 : decode cX9_stepTo 166 = .ok (.iload_n 3, 1) := by decide +kernel
theorem dX9_stepTo_167 : decode cX9_stepTo 167 = .ok (.bipush 9, 2) := by decide +kernel
theorem dX9_stepTo_169 : decode cX9_stepTo 169 = .ok (.if_icmp .ne 28, 3) := by decide +kernel
theorem dX9_stepTo_172 : decode cX9_stepTo 172 = .ok (.bipush 60, 2) := by decide +kernel
theorem dX9_stepTo_174 : decode cX9_stepTo 174 = .ok (.aload_n 0, 1) := by decide +kernel
theorem dX9_stepTo_175 : decode cX9_stepTo 175 = .ok (.getfield 16, 3) := by decide +kernel
theorem dX9_stepTo_178 : decode cX9_stepTo 178 = .ok (.bipush 8, 2) := by decide +kernel
theorem dX9_stepTo_180 : decode cX9_stepTo 180 = .ok (.iload_n 2, 1) := by decide +kernel
theorem dX9_stepTo_181 : decode cX9_stepTo 181 = .ok (.imul, 1) := by decide +kernel
theorem dX9_stepTo_182 : decode cX9_stepTo 182 = .ok (.iaload, 1) := by decide +kernel
theorem dX9_stepTo_183 : decode cX9_stepTo 183 = .ok (.imul, 1) := by decide +kernel
theorem dX9_stepTo_184 : decode cX9_stepTo 184 = .ok (.aload_n 0, 1) := by decide +kernel
theorem dX9_stepTo_185 : decode cX9_stepTo 185 = .ok (.getfield 16, 3) := by decide +kernel
theorem dX9_stepTo_188 : decode cX9_stepTo 188 = .ok (.bipush 8, 2) := by decide +kernel
theorem dX9_stepTo_190 : decode cX9_stepTo 190 = .ok (.iload_n 1, 1) := by decide +kernel
theorem dX9_stepTo_191 : decode cX9_stepTo 191 = .ok (.imul, 1) := by decide +kernel
theorem dX9_stepTo_192 : decode cX9_stepTo 192 = .ok (.iaload, 1) := by decide +kernel
theorem dX9_stepTo_193 : decode cX9_stepTo 193 = .ok (.iadd, 1) := by decide +kernel
theorem dX9_stepTo_194 : decode cX9_stepTo 194 = .ok (.goto 29, 3) := by decide +kernel
theorem dX9_stepTo_197 : decode cX9_stepTo 197 = .ok (.bipush 60, 2) := by decide +kernel
theorem dX9_stepTo_199 : decode cX9_stepTo 199 = .ok (.aload_n 0, 1) := by decide +kernel
theorem dX9_stepTo_200 : decode cX9_stepTo 200 = .ok (.getfield 16, 3) := by decide +kernel
theorem dX9_stepTo_203 : decode cX9_stepTo 203 = .ok (.bipush 8, 2) := by decide +kernel
theorem dX9_stepTo_205 : decode cX9_stepTo 205 = .ok (.iload_n 1, 1) := by decide +kernel
theorem dX9_stepTo_206 : decode cX9_stepTo 206 = .ok (.imul, 1) := by decide +kernel
theorem dX9_stepTo_207 : decode cX9_stepTo 207 = .ok (.iconst 1, 1) := by decide +kernel
theorem dX9_stepTo_208 : decode cX9_stepTo 208 = .ok (.iadd, 1) := by decide +kernel
theorem dX9_stepTo_209 : decode cX9_stepTo 209 = .ok (.iaload, 1) := by decide +kernel
theorem dX9_stepTo_210 : decode cX9_stepTo 210 = .ok (.imul, 1) := by decide +kernel
theorem dX9_stepTo_211 : decode cX9_stepTo 211 = .ok (.aload_n 0, 1) := by decide +kernel
theorem dX9_stepTo_212 : decode cX9_stepTo 212 = .ok (.getfield 16, 3) := by decide +kernel
theorem dX9_stepTo_215 : decode cX9_stepTo 215 = .ok (.bipush 8, 2) := by decide +kernel
theorem dX9_stepTo_217 : decode cX9_stepTo 217 = .ok (.iload_n 2, 1) := by decide +kernel
theorem dX9_stepTo_218 : decode cX9_stepTo 218 = .ok (.imul, 1) := by decide +kernel
theorem dX9_stepTo_219 : decode cX9_stepTo 219 = .ok (.iconst 1, 1) := by decide +kernel
theorem dX9_stepTo_220 : decode cX9_stepTo 220 = .ok (.iadd, 1) := by decide +kernel
theorem dX9_stepTo_221 : decode cX9_stepTo 221 = .ok (.iaload, 1) := by decide +kernel
theorem dX9_stepTo_222 : decode cX9_stepTo 222 = .ok (.iadd, 1) := by decide +kernel
theorem dX9_stepTo_223 : decode cX9_stepTo 223 = .ok (.ireturn, 1) := by decide +kernel
theorem dX9_lay_0 : decode cX9_lay 0 = .ok (.aload_n 0, 1) := by decide +kernel
theorem dX9_lay_1 : decode cX9_lay 1 = .ok (.getfield 119, 3) := by decide +kernel
theorem dX9_lay_4 : decode cX9_lay 4 = .ok (.ifCond .eq 4, 3) := by decide +kernel
theorem dX9_lay_7 : decode cX9_lay 7 = .ok (.return_, 1) := by decide +kernel
theorem dX9_lay_8 : decode cX9_lay 8 = .ok (.aload_n 0, 1) := by decide +kernel
theorem dX9_lay_9 : decode cX9_lay 9 = .ok (.iconst 1, 1) := by decide +kernel
theorem dX9_lay_10 : decode cX9_lay 10 = .ok (.putfield 119, 3) := by decide +kernel
theorem dX9_lay_13 : decode cX9_lay 13 = .ok (.iconst 0, 1) := by decide +kernel
theorem dX9_lay_14 : decode cX9_lay 14 = .ok (.istore_n 1, 1) := by decide +kernel
theorem dX9_lay_15 : decode cX9_lay 15 = .ok (.iload_n 1, 1) := by decide +kernel
theorem dX9_lay_16 : decode cX9_lay 16 = .ok (.aload_n 0, 1) := by decide +kernel
theorem dX9_lay_17 : decode cX9_lay 17 = .ok (.getfield 116, 3) := by decide +kernel
theorem dX9_lay_20 : decode cX9_lay 20 = .ok (.if_icmp .ge 51, 3) := by decide +kernel
theorem dX9_lay_23 : decode cX9_lay 23 = .ok (.iconst 0, 1) := by decide +kernel
theorem dX9_lay_24 : decode cX9_lay 24 = .ok (.istore_n 2, 1) := by decide +kernel
theorem dX9_lay_25 : decode cX9_lay 25 = .ok (.iload_n 2, 1) := by decide +kernel
theorem dX9_lay_26 : decode cX9_lay 26 = .ok (.aload_n 0, 1) := by decide +kernel
theorem dX9_lay_27 : decode cX9_lay 27 = .ok (.getfield 116, 3) := by decide +kernel
theorem dX9_lay_30 : decode cX9_lay 30 = .ok (.if_icmp .ge 35, 3) := by decide +kernel
theorem dX9_lay_33 : decode cX9_lay 33 = .ok (.aload_n 0, 1) := by decide +kernel
theorem dX9_lay_34 : decode cX9_lay 34 = .ok (.getfield 44, 3) := by decide +kernel
theorem dX9_lay_37 : decode cX9_lay 37 = .ok (.bipush 60, 2) := by decide +kernel
theorem dX9_lay_39 : decode cX9_lay 39 = .ok (.iload_n 1, 1) := by decide +kernel
theorem dX9_lay_40 : decode cX9_lay 40 = .ok (.imul, 1) := by decide +kernel
theorem dX9_lay_41 : decode cX9_lay 41 = .ok (.iload_n 2, 1) := by decide +kernel
theorem dX9_lay_42 : decode cX9_lay 42 = .ok (.iadd, 1) := by decide +kernel
theorem dX9_lay_43 : decode cX9_lay 43 = .ok (.aload_n 0, 1) := by decide +kernel
theorem dX9_lay_44 : decode cX9_lay 44 = .ok (.iload_n 1, 1) := by decide +kernel
theorem dX9_lay_45 : decode cX9_lay 45 = .ok (.iload_n 2, 1) := by decide +kernel
theorem dX9_lay_46 : decode cX9_lay 46 = .ok (.invokevirtual 133, 3) := by decide +kernel
theorem dX9_lay_49 : decode cX9_lay 49 = .ok (.ifCond .eq 8, 3) := by decide +kernel
theorem dX9_lay_52 : decode cX9_lay 52 = .ok (.ldc 137, 2) := by decide +kernel
theorem dX9_lay_54 : decode cX9_lay 54 = .ok (.goto 4, 3) := by decide +kernel
theorem dX9_lay_57 : decode cX9_lay 57 = .ok (.iconst 0, 1) := by decide +kernel
theorem dX9_lay_58 : decode cX9_lay 58 = .ok (.iastore, 1) := by decide +kernel
theorem dX9_lay_59 : decode cX9_lay 59 = .ok (.iinc 2 1, 3) := by decide +kernel
theorem dX9_lay_62 : decode cX9_lay 62 = .ok (.goto (-37), 3) := by decide +kernel
theorem dX9_lay_65 : decode cX9_lay 65 = .ok (.iinc 1 1, 3) := by decide +kernel
theorem dX9_lay_68 : decode cX9_lay 68 = .ok (.goto (-53), 3) := by decide +kernel
theorem dX9_lay_71 : decode cX9_lay 71 = .ok (.iconst 1, 1) := by decide +kernel
theorem dX9_lay_72 : decode cX9_lay 72 = .ok (.istore_n 1, 1) := by decide +kernel
theorem dX9_lay_73 : decode cX9_lay 73 = .ok (.iconst 1, 1) := by decide +kernel
theorem dX9_lay_74 : decode cX9_lay 74 = .ok (.istore_n 2, 1) := by decide +kernel
theorem dX9_lay_75 : decode cX9_lay 75 = .ok (.iload_n 1, 1) := by decide +kernel
theorem dX9_lay_76 : decode cX9_lay 76 = .ok (.ifCond .eq 142, 3) := by decide +kernel
theorem dX9_lay_79 : decode cX9_lay 79 = .ok (.iconst 0, 1) := by decide +kernel
theorem dX9_lay_80 : decode cX9_lay 80 = .ok (.istore_n 1, 1) := by decide +kernel
theorem dX9_lay_81 : decode cX9_lay 81 = .ok (.iconst 0, 1) := by decide +kernel
theorem dX9_lay_82 : decode cX9_lay 82 = .ok (.istore_n 3, 1) := by decide +kernel
theorem dX9_lay_83 : decode cX9_lay 83 = .ok (.iload_n 3, 1) := by decide +kernel
theorem dX9_lay_84 : decode cX9_lay 84 = .ok (.aload_n 0, 1) := by decide +kernel
theorem dX9_lay_85 : decode cX9_lay 85 = .ok (.getfield 116, 3) := by decide +kernel
theorem dX9_lay_88 : decode cX9_lay 88 = .ok (.if_icmp .ge 124, 3) := by decide +kernel
theorem dX9_lay_91 : decode cX9_lay 91 = .ok (.iconst 0, 1) := by decide +kernel
theorem dX9_lay_92 : decode cX9_lay 92 = .ok (.istore 4, 2) := by decide +kernel
theorem dX9_lay_94 : decode cX9_lay 94 = .ok (.iload 4, 2) := by decide +kernel
theorem dX9_lay_96 : decode cX9_lay 96 = .ok (.aload_n 0, 1) := by decide +kernel
theorem dX9_lay_97 : decode cX9_lay 97 = .ok (.getfield 116, 3) := by decide +kernel
theorem dX9_lay_100 : decode cX9_lay 100 = .ok (.if_icmp .ge 106, 3) := by decide +kernel
theorem dX9_lay_103 : decode cX9_lay 103 = .ok (.iconst 0, 1) := by decide +kernel
theorem dX9_lay_104 : decode cX9_lay 104 = .ok (.istore 5, 2) := by decide +kernel
theorem dX9_lay_106 : decode cX9_lay 106 = .ok (.iconst 0, 1) := by decide +kernel
theorem dX9_lay_107 : decode cX9_lay 107 = .ok (.istore 6, 2) := by decide +kernel
theorem dX9_lay_109 : decode cX9_lay 109 = .ok (.iload 6, 2) := by decide +kernel
theorem dX9_lay_111 : decode cX9_lay 111 = .ok (.bipush 11, 2) := by decide +kernel
theorem dX9_lay_113 : decode cX9_lay 113 = .ok (.if_icmp .ge 67, 3) := by decide +kernel
theorem dX9_lay_116 : decode cX9_lay 116 = .ok (.aload_n 0, 1) := by decide +kernel
theorem dX9_lay_117 : decode cX9_lay 117 = .ok (.getfield 44, 3) := by decide +kernel
theorem dX9_lay_120 : decode cX9_lay 120 = .ok (.bipush 60, 2) := by decide +kernel
theorem dX9_lay_122 : decode cX9_lay 122 = .ok (.iload_n 3, 1) := by decide +kernel
theorem dX9_lay_123 : decode cX9_lay 123 = .ok (.imul, 1) := by decide +kernel
theorem dX9_lay_124 : decode cX9_lay 124 = .ok (.iload 4, 2) := by decide +kernel
theorem dX9_lay_126 : decode cX9_lay 126 = .ok (.iadd, 1) := by decide +kernel
theorem dX9_lay_127 : decode cX9_lay 127 = .ok (.iaload, 1) := by decide +kernel
theorem dX9_lay_128 : decode cX9_lay 128 = .ok (.ldc 137, 2) := by decide +kernel
theorem dX9_lay_130 : decode cX9_lay 130 = .ok (.if_icmp .ne 50, 3) := by decide +kernel
theorem dX9_lay_133 : decode cX9_lay 133 = .ok (.iload 5, 2) := by decide +kernel
theorem dX9_lay_135 : decode cX9_lay 135 = .ok (.ifCond .ne 45, 3) := by decide +kernel
theorem dX9_lay_138 : decode cX9_lay 138 = .ok (.aload_n 0, 1) := by decide +kernel
theorem dX9_lay_139 : decode cX9_lay 139 = .ok (.iload_n 3, 1) := by decide +kernel
theorem dX9_lay_140 : decode cX9_lay 140 = .ok (.iload 4, 2) := by decide +kernel
theorem dX9_lay_142 : decode cX9_lay 142 = .ok (.iload 6, 2) := by decide +kernel
theorem dX9_lay_144 : decode cX9_lay 144 = .ok (.invokevirtual 138, 3) := by decide +kernel
theorem dX9_lay_147 : decode cX9_lay 147 = .ok (.istore 7, 2) := by decide +kernel
theorem dX9_lay_149 : decode cX9_lay 149 = .ok (.iload 7, 2) := by decide +kernel
theorem dX9_lay_151 : decode cX9_lay 151 = .ok (.ifCond .lt 20, 3) := by decide +kernel
theorem dX9_lay_154 : decode cX9_lay 154 = .ok (.aload_n 0, 1) := by decide +kernel
theorem dX9_lay_155 : decode cX9_lay 155 = .ok (.getfield 44, 3) := by decide +kernel
theorem dX9_lay_158 : decode cX9_lay 158 = .ok (.iload 7, 2) := by decide +kernel
theorem dX9_lay_160 : decode cX9_lay 160 = .ok (.iaload, 1) := by decide +kernel
theorem dX9_lay_161 : decode cX9_lay 161 = .ok (.iload_n 2, 1) := by decide +kernel
theorem dX9_lay_162 : decode cX9_lay 162 = .ok (.iconst 1, 1) := by decide +kernel
theorem dX9_lay_163 : decode cX9_lay 163 = .ok (.isub, 1) := by decide +kernel
theorem dX9_lay_164 : decode cX9_lay 164 = .ok (.if_icmp .ne 7, 3) := by decide +kernel
theorem dX9_lay_167 : decode cX9_lay 167 = .ok (.iconst 1, 1) := by decide +kernel
theorem dX9_lay_168 : decode cX9_lay 168 = .ok (.goto 4, 3) := by decide +kernel
theorem dX9_lay_171 : decode cX9_lay 171 = .ok (.iconst 0, 1) := by decide +kernel
theorem dX9_lay_172 : decode cX9_lay 172 = .ok (.istore 5, 2) := by decide +kernel
theorem dX9_lay_174 : decode cX9_lay 174 = .ok (.iinc 6 1, 3) := by decide +kernel
theorem dX9_lay_177 : decode cX9_lay 177 = .ok (.goto (-68), 3) := by decide +kernel
theorem dX9_lay_180 : decode cX9_lay 180 = .ok (.iload 5, 2) := by decide +kernel
theorem dX9_lay_182 : decode cX9_lay 182 = .ok (.ifCond .eq 18, 3) := by decide +kernel
theorem dX9_lay_185 : decode cX9_lay 185 = .ok (.aload_n 0, 1) := by decide +kernel
theorem dX9_lay_186 : decode cX9_lay 186 = .ok (.getfield 44, 3) := by decide +kernel
theorem dX9_lay_189 : decode cX9_lay 189 = .ok (.bipush 60, 2) := by decide +kernel
theorem dX9_lay_191 : decode cX9_lay 191 = .ok (.iload_n 3, 1) := by decide +kernel
theorem dX9_lay_192 : decode cX9_lay 192 = .ok (.imul, 1) := by decide +kernel
theorem dX9_lay_193 : decode cX9_lay 193 = .ok (.iload 4, 2) := by decide +kernel
theorem dX9_lay_195 : decode cX9_lay 195 = .ok (.iadd, 1) := by decide +kernel
theorem dX9_lay_196 : decode cX9_lay 196 = .ok (.iload_n 2, 1) := by decide +kernel
theorem dX9_lay_197 : decode cX9_lay 197 = .ok (.iastore, 1) := by decide +kernel
theorem dX9_lay_198 : decode cX9_lay 198 = .ok (.iconst 1, 1) := by decide +kernel
theorem dX9_lay_199 : decode cX9_lay 199 = .ok (.istore_n 1, 1) := by decide +kernel
theorem dX9_lay_200 : decode cX9_lay 200 = .ok (.iinc 4 1, 3) := by decide +kernel
theorem dX9_lay_203 : decode cX9_lay 203 = .ok (.goto (-109), 3) := by decide +kernel
theorem dX9_lay_206 : decode cX9_lay 206 = .ok (.iinc 3 1, 3) := by decide +kernel
theorem dX9_lay_209 : decode cX9_lay 209 = .ok (.goto (-126), 3) := by decide +kernel
theorem dX9_lay_212 : decode cX9_lay 212 = .ok (.iinc 2 1, 3) := by decide +kernel
theorem dX9_lay_215 : decode cX9_lay 215 = .ok (.goto (-140), 3) := by decide +kernel
theorem dX9_lay_218 : decode cX9_lay 218 = .ok (.iconst 0, 1) := by decide +kernel
theorem dX9_lay_219 : decode cX9_lay 219 = .ok (.istore_n 2, 1) := by decide +kernel
theorem dX9_lay_220 : decode cX9_lay 220 = .ok (.iload_n 2, 1) := by decide +kernel
theorem dX9_lay_221 : decode cX9_lay 221 = .ok (.aload_n 0, 1) := by decide +kernel
theorem dX9_lay_222 : decode cX9_lay 222 = .ok (.getfield 116, 3) := by decide +kernel
theorem dX9_lay_225 : decode cX9_lay 225 = .ok (.if_icmp .ge 57, 3) := by decide +kernel
theorem dX9_lay_228 : decode cX9_lay 228 = .ok (.iconst 0, 1) := by decide +kernel
theorem dX9_lay_229 : decode cX9_lay 229 = .ok (.istore_n 3, 1) := by decide +kernel
theorem dX9_lay_230 : decode cX9_lay 230 = .ok (.iload_n 3, 1) := by decide +kernel
theorem dX9_lay_231 : decode cX9_lay 231 = .ok (.aload_n 0, 1) := by decide +kernel
theorem dX9_lay_232 : decode cX9_lay 232 = .ok (.getfield 116, 3) := by decide +kernel
theorem dX9_lay_235 : decode cX9_lay 235 = .ok (.if_icmp .ge 41, 3) := by decide +kernel
theorem dX9_lay_238 : decode cX9_lay 238 = .ok (.aload_n 0, 1) := by decide +kernel
theorem dX9_lay_239 : decode cX9_lay 239 = .ok (.getfield 40, 3) := by decide +kernel
theorem dX9_lay_242 : decode cX9_lay 242 = .ok (.bipush 60, 2) := by decide +kernel
theorem dX9_lay_244 : decode cX9_lay 244 = .ok (.iload_n 2, 1) := by decide +kernel
theorem dX9_lay_245 : decode cX9_lay 245 = .ok (.imul, 1) := by decide +kernel
theorem dX9_lay_246 : decode cX9_lay 246 = .ok (.iload_n 3, 1) := by decide +kernel
theorem dX9_lay_247 : decode cX9_lay 247 = .ok (.iadd, 1) := by decide +kernel
theorem dX9_lay_248 : decode cX9_lay 248 = .ok (.aload_n 0, 1) := by decide +kernel
theorem dX9_lay_249 : decode cX9_lay 249 = .ok (.getfield 44, 3) := by decide +kernel
theorem dX9_lay_252 : decode cX9_lay 252 = .ok (.bipush 60, 2) := by decide +kernel
theorem dX9_lay_254 : decode cX9_lay 254 = .ok (.iload_n 2, 1) := by decide +kernel
theorem dX9_lay_255 : decode cX9_lay 255 = .ok (.imul, 1) := by decide +kernel
theorem dX9_lay_256 : decode cX9_lay 256 = .ok (.iload_n 3, 1) := by decide +kernel
theorem dX9_lay_257 : decode cX9_lay 257 = .ok (.iadd, 1) := by decide +kernel
theorem dX9_lay_258 : decode cX9_lay 258 = .ok (.iaload, 1) := by decide +kernel
theorem dX9_lay_259 : decode cX9_lay 259 = .ok (.ldc 137, 2) := by decide +kernel
theorem dX9_lay_261 : decode cX9_lay 261 = .ok (.if_icmp .ne 7, 3) := by decide +kernel
theorem dX9_lay_264 : decode cX9_lay 264 = .ok (.iconst 1, 1) := by decide +kernel
theorem dX9_lay_265 : decode cX9_lay 265 = .ok (.goto 4, 3) := by decide +kernel
theorem dX9_lay_268 : decode cX9_lay 268 = .ok (.iconst 0, 1) := by decide +kernel
theorem dX9_lay_269 : decode cX9_lay 269 = .ok (.bastore, 1) := by decide +kernel
theorem dX9_lay_270 : decode cX9_lay 270 = .ok (.iinc 3 1, 3) := by decide +kernel
theorem dX9_lay_273 : decode cX9_lay 273 = .ok (.goto (-43), 3) := by decide +kernel
theorem dX9_lay_276 : decode cX9_lay 276 = .ok (.iinc 2 1, 3) := by decide +kernel
theorem dX9_lay_279 : decode cX9_lay 279 = .ok (.goto (-59), 3) := by decide +kernel
theorem dX9_lay_282 : decode cX9_lay 282 = .ok (.return_, 1) := by decide +kernel
theorem dX9_areNodes_0 : decode cX9_areNodes 0 = .ok (.aload_n 0, 1) := by decide +kernel
theorem dX9_areNodes_1 : decode cX9_areNodes 1 = .ok (.iload_n 1, 1) := by decide +kernel
theorem dX9_areNodes_2 : decode cX9_areNodes 2 = .ok (.invokevirtual 123, 3) := by decide +kernel
theorem dX9_areNodes_5 : decode cX9_areNodes 5 = .ok (.ifCond .eq 15, 3) := by decide +kernel
theorem dX9_areNodes_8 : decode cX9_areNodes 8 = .ok (.aload_n 0, 1) := by decide +kernel
theorem dX9_areNodes_9 : decode cX9_areNodes 9 = .ok (.iload_n 2, 1) := by decide +kernel
theorem dX9_areNodes_10 : decode cX9_areNodes 10 = .ok (.invokevirtual 123, 3) := by decide +kernel
theorem dX9_areNodes_13 : decode cX9_areNodes 13 = .ok (.ifCond .eq 7, 3) := by decide +kernel
theorem dX9_areNodes_16 : decode cX9_areNodes 16 = .ok (.iconst 1, 1) := by decide +kernel
theorem dX9_areNodes_17 : decode cX9_areNodes 17 = .ok (.goto 4, 3) := by decide +kernel
theorem dX9_areNodes_20 : decode cX9_areNodes 20 = .ok (.iconst 0, 1) := by decide +kernel
theorem dX9_areNodes_21 : decode cX9_areNodes 21 = .ok (.ireturn, 1) := by decide +kernel
theorem dX9_may_0 : decode cX9_may 0 = .ok (.aload_n 0, 1) := by decide +kernel
theorem dX9_may_1 : decode cX9_may 1 = .ok (.iload_n 1, 1) := by decide +kernel
theorem dX9_may_2 : decode cX9_may 2 = .ok (.iload_n 2, 1) := by decide +kernel
theorem dX9_may_3 : decode cX9_may 3 = .ok (.invokevirtual 142, 3) := by decide +kernel
theorem dX9_may_6 : decode cX9_may 6 = .ok (.ifCond .ne 5, 3) := by decide +kernel
theorem dX9_may_9 : decode cX9_may 9 = .ok (.iconst (-1), 1) := by decide +kernel
theorem dX9_may_10 : decode cX9_may 10 = .ok (.ireturn, 1) := by decide +kernel
theorem dX9_may_11 : decode cX9_may 11 = .ok (.aload_n 0, 1) := by decide +kernel
theorem dX9_may_12 : decode cX9_may 12 = .ok (.invokevirtual 145, 3) := by decide +kernel
theorem dX9_may_15 : decode cX9_may 15 = .ok (.aload_n 0, 1) := by decide +kernel
theorem dX9_may_16 : decode cX9_may 16 = .ok (.getfield 40, 3) := by decide +kernel
theorem dX9_may_19 : decode cX9_may 19 = .ok (.bipush 60, 2) := by decide +kernel
theorem dX9_may_21 : decode cX9_may 21 = .ok (.iload_n 1, 1) := by decide +kernel
theorem dX9_may_22 : decode cX9_may 22 = .ok (.imul, 1) := by decide +kernel
theorem dX9_may_23 : decode cX9_may 23 = .ok (.iload_n 2, 1) := by decide +kernel
theorem dX9_may_24 : decode cX9_may 24 = .ok (.iadd, 1) := by decide +kernel
theorem dX9_may_25 : decode cX9_may 25 = .ok (.baload, 1) := by decide +kernel
theorem dX9_may_26 : decode cX9_may 26 = .ok (.ifCond .eq 7, 3) := by decide +kernel
theorem dX9_may_29 : decode cX9_may 29 = .ok (.iconst 1, 1) := by decide +kernel
theorem dX9_may_30 : decode cX9_may 30 = .ok (.goto 4, 3) := by decide +kernel
theorem dX9_may_33 : decode cX9_may 33 = .ok (.iconst 0, 1) := by decide +kernel
theorem dX9_may_34 : decode cX9_may 34 = .ok (.ireturn, 1) := by decide +kernel
theorem dX9_follow_0 : decode cX9_follow 0 = .ok (.aload_n 0, 1) := by decide +kernel
theorem dX9_follow_1 : decode cX9_follow 1 = .ok (.bipush 60, 2) := by decide +kernel
theorem dX9_follow_3 : decode cX9_follow 3 = .ok (.iload_n 1, 1) := by decide +kernel
theorem dX9_follow_4 : decode cX9_follow 4 = .ok (.imul, 1) := by decide +kernel
theorem dX9_follow_5 : decode cX9_follow 5 = .ok (.iload_n 2, 1) := by decide +kernel
theorem dX9_follow_6 : decode cX9_follow 6 = .ok (.iadd, 1) := by decide +kernel
theorem dX9_follow_7 : decode cX9_follow 7 = .ok (.putfield 148, 3) := by decide +kernel
theorem dX9_follow_10 : decode cX9_follow 10 = .ok (.bipush (-6), 2) := by decide +kernel
theorem dX9_follow_12 : decode cX9_follow 12 = .ok (.istore 4, 2) := by decide +kernel
theorem dX9_follow_14 : decode cX9_follow 14 = .ok (.iconst 0, 1) := by decide +kernel
theorem dX9_follow_15 : decode cX9_follow 15 = .ok (.istore 5, 2) := by decide +kernel
theorem dX9_follow_17 : decode cX9_follow 17 = .ok (.aload_n 0, 1) := by decide +kernel
theorem dX9_follow_18 : decode cX9_follow 18 = .ok (.getfield 44, 3) := by decide +kernel
theorem dX9_follow_21 : decode cX9_follow 21 = .ok (.aload_n 0, 1) := by decide +kernel
theorem dX9_follow_22 : decode cX9_follow 22 = .ok (.getfield 148, 3) := by decide +kernel
theorem dX9_follow_25 : decode cX9_follow 25 = .ok (.iaload, 1) := by decide +kernel
theorem dX9_follow_26 : decode cX9_follow 26 = .ok (.ifCond .le 107, 3) := by decide +kernel
theorem dX9_follow_29 : decode cX9_follow 29 = .ok (.aload_n 0, 1) := by decide +kernel
theorem dX9_follow_30 : decode cX9_follow 30 = .ok (.getfield 148, 3) := by decide +kernel
theorem dX9_follow_33 : decode cX9_follow 33 = .ok (.bipush 60, 2) := by decide +kernel
theorem dX9_follow_35 : decode cX9_follow 35 = .ok (.idiv, 1) := by decide +kernel
theorem dX9_follow_36 : decode cX9_follow 36 = .ok (.istore 6, 2) := by decide +kernel
theorem dX9_follow_38 : decode cX9_follow 38 = .ok (.aload_n 0, 1) := by decide +kernel
theorem dX9_follow_39 : decode cX9_follow 39 = .ok (.getfield 148, 3) := by decide +kernel
theorem dX9_follow_42 : decode cX9_follow 42 = .ok (.bipush 60, 2) := by decide +kernel
theorem dX9_follow_44 : decode cX9_follow 44 = .ok (.irem, 1) := by decide +kernel
theorem dX9_follow_45 : decode cX9_follow 45 = .ok (.istore 7, 2) := by decide +kernel
theorem dX9_follow_47 : decode cX9_follow 47 = .ok (.iconst 0, 1) := by decide +kernel
theorem dX9_follow_48 : decode cX9_follow 48 = .ok (.istore 8, 2) := by decide +kernel
theorem dX9_follow_50 : decode cX9_follow 50 = .ok (.aload_n 0, 1) := by decide +kernel
theorem dX9_follow_51 : decode cX9_follow 51 = .ok (.iload 6, 2) := by decide +kernel
theorem dX9_follow_53 : decode cX9_follow 53 = .ok (.iload 7, 2) := by decide +kernel
theorem dX9_follow_55 : decode cX9_follow 55 = .ok (.iload 8, 2) := by decide +kernel
theorem dX9_follow_57 : decode cX9_follow 57 = .ok (.invokevirtual 138, 3) := by decide +kernel
theorem dX9_follow_60 : decode cX9_follow 60 = .ok (.ifCond .lt 32, 3) := by decide +kernel
theorem dX9_follow_63 : decode cX9_follow 63 = .ok (.aload_n 0, 1) := by decide +kernel
theorem dX9_follow_64 : decode cX9_follow 64 = .ok (.getfield 44, 3) := by decide +kernel
theorem dX9_follow_67 : decode cX9_follow 67 = .ok (.aload_n 0, 1) := by decide +kernel
theorem dX9_follow_68 : decode cX9_follow 68 = .ok (.iload 6, 2) := by decide +kernel
theorem dX9_follow_70 : decode cX9_follow 70 = .ok (.iload 7, 2) := by decide +kernel
theorem dX9_follow_72 : decode cX9_follow 72 = .ok (.iload 8, 2) := by decide +kernel
theorem dX9_follow_74 : decode cX9_follow 74 = .ok (.invokevirtual 138, 3) := by decide +kernel
theorem dX9_follow_77 : decode cX9_follow 77 = .ok (.iaload, 1) := by decide +kernel
theorem dX9_follow_78 : decode cX9_follow 78 = .ok (.aload_n 0, 1) := by decide +kernel
theorem dX9_follow_79 : decode cX9_follow 79 = .ok (.getfield 44, 3) := by decide +kernel
theorem dX9_follow_82 : decode cX9_follow 82 = .ok (.aload_n 0, 1) := by decide +kernel
theorem dX9_follow_83 : decode cX9_follow 83 = .ok (.getfield 148, 3) := by decide +kernel
theorem dX9_follow_86 : decode cX9_follow 86 = .ok (.iaload, 1) := by decide +kernel
theorem dX9_follow_87 : decode cX9_follow 87 = .ok (.iconst 1, 1) := by decide +kernel
