set_option maxRecDepth 20000 in
theorem cv_X8_say : CV yX8_say cX8_say 2 (some .int) 1 := ⟨q_mem 320 rfl rfl, q_mem 318 rfl rfl, q_mem 319 rfl rfl, q_mem 73 rfl rfl, by decide +kernel, by decide⟩
set_option maxRecDepth 20000 in
theorem cv_X9_say : CV yX9_say cX9_say 2 (some .int) 1 := ⟨q_mem 931 rfl rfl, q_mem 929 rfl rfl, q_mem 930 rfl rfl, q_mem 83 rfl rfl, by decide +kernel, by decide⟩
set_option maxRecDepth 20000 in
theorem cv_X8_wipe : CV yX8_wipe cX8_wipe 2 (some .int) 0 := ⟨q_mem 332 rfl rfl, q_mem 330 rfl rfl, q_mem 331 rfl rfl, q_mem 73 rfl rfl, by decide +kernel, by decide⟩
set_option maxRecDepth 20000 in
theorem cv_X9_wipe : CV yX9_wipe cX9_wipe 2 (some .int) 0 := ⟨q_mem 938 rfl rfl, q_mem 936 rfl rfl, q_mem 937 rfl rfl, q_mem 83 rfl rfl, by decide +kernel, by decide⟩
set_option maxRecDepth 20000 in
theorem cv_X8_fault : CV yX8_fault cX8_fault 1 (some .int) 0 := ⟨q_mem 340 rfl rfl, q_mem 338 rfl rfl, q_mem 339 rfl rfl, q_mem 73 rfl rfl, by decide +kernel, by decide⟩
set_option maxRecDepth 20000 in
theorem cv_X9_fault : CV yX9_fault cX9_fault 1 (some .int) 0 := ⟨q_mem 942 rfl rfl, q_mem 940 rfl rfl, q_mem 941 rfl rfl, q_mem 83 rfl rfl, by decide +kernel, by decide⟩
set_option maxRecDepth 20000 in
theorem cv_X8_take : CV yX8_take cX8_take 1 (some .int) 0 := ⟨q_mem 395 rfl rfl, q_mem 393 rfl rfl, q_mem 394 rfl rfl, q_mem 73 rfl rfl, by decide +kernel, by decide⟩
set_option maxRecDepth 20000 in
theorem cv_X9_take : CV yX9_take cX9_take 2 (some .int) 0 := ⟨q_mem 958 rfl rfl, q_mem 956 rfl rfl, q_mem 957 rfl rfl, q_mem 83 rfl rfl, by decide +kernel, by decide⟩
set_option maxRecDepth 20000 in
theorem cv_X8_name : CV yX8_name cX8_name 2 (some .int) 1 := ⟨q_mem 440 rfl rfl, q_mem 438 rfl rfl, q_mem 439 rfl rfl, q_mem 73 rfl rfl, by decide +kernel, by decide⟩
set_option maxRecDepth 20000 in
theorem cv_X9_name : CV yX9_name cX9_name 2 (some .int) 1 := ⟨q_mem 966 rfl rfl, q_mem 964 rfl rfl, q_mem 965 rfl rfl, q_mem 83 rfl rfl, by decide +kernel, by decide⟩
set_option maxRecDepth 20000 in
theorem cv_X8_node : CV yX8_node cX8_node 3 (some .int) 2 := ⟨q_mem 445 rfl rfl, q_mem 443 rfl rfl, q_mem 444 rfl rfl, q_mem 73 rfl rfl, by decide +kernel, by decide⟩
set_option maxRecDepth 20000 in
theorem cv_X9_node : CV yX9_node cX9_node 3 (some .int) 2 := ⟨q_mem 970 rfl rfl, q_mem 968 rfl rfl, q_mem 969 rfl rfl, q_mem 83 rfl rfl, by decide +kernel, by decide⟩
set_option maxRecDepth 20000 in
theorem cv_X8_may : CV yX8_may cX8_may 3 (some .int) 2 := ⟨q_mem 465 rfl rfl, q_mem 463 rfl rfl, q_mem 464 rfl rfl, q_mem 73 rfl rfl, by decide +kernel, by decide⟩
set_option maxRecDepth 20000 in
theorem cv_X9_may : CV yX9_may cX9_may 3 (some .int) 2 := ⟨q_mem 982 rfl rfl, q_mem 980 rfl rfl, q_mem 981 rfl rfl, q_mem 83 rfl rfl, by decide +kernel, by decide⟩
set_option maxRecDepth 20000 in
theorem cv_X8_way : CV yX8_way cX8_way 4 (some .int) 3 := ⟨q_mem 517 rfl rfl, q_mem 515 rfl rfl, q_mem 516 rfl rfl, q_mem 73 rfl rfl, by decide +kernel, by decide⟩
set_option maxRecDepth 20000 in
theorem cv_X9_way : CV yX9_way cX9_way 4 (some .int) 3 := ⟨q_mem 1006 rfl rfl, q_mem 1004 rfl rfl, q_mem 1005 rfl rfl, q_mem 83 rfl rfl, by decide +kernel, by decide⟩
set_option maxRecDepth 20000 in
theorem cv_X8_end : CV yX8_end cX8_end 3 (some .int) 2 := ⟨q_mem 542 rfl rfl, q_mem 540 rfl rfl, q_mem 541 rfl rfl, q_mem 73 rfl rfl, by decide +kernel, by decide⟩
set_option maxRecDepth 20000 in
theorem cv_X9_end : CV yX9_end cX9_end 3 (some .int) 2 := ⟨q_mem 1014 rfl rfl, q_mem 1012 rfl rfl, q_mem 1013 rfl rfl, q_mem 83 rfl rfl, by decide +kernel, by decide⟩
set_option maxRecDepth 20000 in
theorem cv_X8_alike : CV yX8_alike cX8_alike 3 (some .int) 2 := ⟨q_mem 550 rfl rfl, q_mem 548 rfl rfl, q_mem 549 rfl rfl, q_mem 73 rfl rfl, by decide +kernel, by decide⟩
set_option maxRecDepth 20000 in
theorem cv_X9_alike : CV yX9_alike cX9_alike 3 (some .int) 2 := ⟨q_mem 1018 rfl rfl, q_mem 1016 rfl rfl, q_mem 1017 rfl rfl, q_mem 83 rfl rfl, by decide +kernel, by decide⟩
set_option maxRecDepth 20000 in
theorem cv_X8_pieces : CV yX8_pieces cX8_pieces 2 (some .int) 1 := ⟨q_mem 558 rfl rfl, q_mem 556 rfl rfl, q_mem 557 rfl rfl, q_mem 73 rfl rfl, by decide +kernel, by decide⟩
set_option maxRecDepth 20000 in
theorem cv_X9_pieces : CV yX9_pieces cX9_pieces 6 (some .int) 1 := ⟨q_mem 1026 rfl rfl, q_mem 1024 rfl rfl, q_mem 1025 rfl rfl, q_mem 83 rfl rfl, by decide +kernel, by decide⟩
set_option maxRecDepth 20000 in
theorem cv_X8_join : CV yX8_join cX8_join 4 (some .int) 3 := ⟨q_mem 583 rfl rfl, q_mem 581 rfl rfl, q_mem 582 rfl rfl, q_mem 73 rfl rfl, by decide +kernel, by decide⟩
set_option maxRecDepth 20000 in
theorem cv_X9_join : CV yX9_join cX9_join 11 (some .int) 3 := ⟨q_mem 1030 rfl rfl, q_mem 1028 rfl rfl, q_mem 1029 rfl rfl, q_mem 83 rfl rfl, by decide +kernel, by decide⟩
set_option maxRecDepth 20000 in
theorem cv_X8_slip : CV yX8_slip cX8_slip 1 (some .int) 0 := ⟨q_mem 634 rfl rfl, q_mem 632 rfl rfl, q_mem 633 rfl rfl, q_mem 73 rfl rfl, by decide +kernel, by decide⟩
set_option maxRecDepth 20000 in
theorem cv_X9_slip : CV yX9_slip cX9_slip 1 (some .int) 0 := ⟨q_mem 1046 rfl rfl, q_mem 1044 rfl rfl, q_mem 1045 rfl rfl, q_mem 83 rfl rfl, by decide +kernel, by decide⟩
set_option maxRecDepth 20000 in
theorem cv_X8_fits : CV yX8_fits cX8_fits 2 (some .int) 1 := ⟨q_mem 702 rfl rfl, q_mem 700 rfl rfl, q_mem 701 rfl rfl, q_mem 73 rfl rfl, by decide +kernel, by decide⟩
set_option maxRecDepth 20000 in
theorem cv_X9_fits : CV yX9_fits cX9_fits 10 (some .int) 1 := ⟨q_mem 1058 rfl rfl, q_mem 1056 rfl rfl, q_mem 1057 rfl rfl, q_mem 83 rfl rfl, by decide +kernel, by decide⟩
set_option maxRecDepth 20000 in
theorem cv_X8_size : CV yX8_size cX8_size 1 (some .int) 0 := ⟨q_mem 710 rfl rfl, q_mem 708 rfl rfl, q_mem 709 rfl rfl, q_mem 73 rfl rfl, by decide +kernel, by decide⟩
set_option maxRecDepth 20000 in
theorem cv_X9_size : CV yX9_size cX9_size 1 (some .int) 0 := ⟨q_mem 1054 rfl rfl, q_mem 1052 rfl rfl, q_mem 1053 rfl rfl, q_mem 83 rfl rfl, by decide +kernel, by decide⟩
set_option maxRecDepth 20000 in
theorem cv_X8_count : CV yX8_count cX8_count 3 (some .int) 2 := ⟨q_mem 718 rfl rfl, q_mem 716 rfl rfl, q_mem 717 rfl rfl, q_mem 73 rfl rfl, by decide +kernel, by decide⟩
set_option maxRecDepth 20000 in
theorem cv_X9_count : CV yX9_count cX9_count 8 (some .int) 2 := ⟨q_mem 1070 rfl rfl, q_mem 1068 rfl rfl, q_mem 1069 rfl rfl, q_mem 83 rfl rfl, by decide +kernel, by decide⟩
set_option maxRecDepth 20000 in
theorem cv_X8_least : CV yX8_least cX8_least 2 (some .int) 1 := ⟨q_mem 768 rfl rfl, q_mem 766 rfl rfl, q_mem 767 rfl rfl, q_mem 73 rfl rfl, by decide +kernel, by decide⟩
set_option maxRecDepth 20000 in
theorem cv_X9_least : CV yX9_least cX9_least 2 (some .int) 1 := ⟨q_mem 1093 rfl rfl, q_mem 1091 rfl rfl, q_mem 1092 rfl rfl, q_mem 83 rfl rfl, by decide +kernel, by decide⟩
set_option maxRecDepth 20000 in
theorem cv_X8_told : CV yX8_told cX8_told 2 (some .int) 1 := ⟨q_mem 804 rfl rfl, q_mem 802 rfl rfl, q_mem 803 rfl rfl, q_mem 73 rfl rfl, by decide +kernel, by decide⟩
set_option maxRecDepth 20000 in
theorem cv_X9_told : CV yX9_told cX9_told 5 (some .int) 1 := ⟨q_mem 1101 rfl rfl, q_mem 1099 rfl rfl, q_mem 1100 rfl rfl, q_mem 83 rfl rfl, by decide +kernel, by decide⟩
set_option maxRecDepth 20000 in
theorem kb_31 : (Int8.ofInt (31)).toInt32 = 31 := by decide
def RL : String := "KindNetsLaw"
abbrev cL_law : ByteArray := code
theorem dL_law_0 : decode cL_law 0 = .ok (.new 7, 3) := by decide +kernel
theorem dL_law_3 : decode cL_law 3 = .ok (.dup, 1) := by decide +kernel
theorem dL_law_4 : decode cL_law 4 = .ok (.invokespecial 9, 3) := by decide +kernel
theorem dL_law_7 : decode cL_law 7 = .ok (.astore_n 1, 1) := by decide +kernel
theorem dL_law_8 : decode cL_law 8 = .ok (.new 10, 3) := by decide +kernel
theorem dL_law_11 : decode cL_law 11 = .ok (.dup, 1) := by decide +kernel
theorem dL_law_12 : decode cL_law 12 = .ok (.invokespecial 12, 3) := by decide +kernel
theorem dL_law_15 : decode cL_law 15 = .ok (.astore_n 2, 1) := by decide +kernel
theorem dL_law_16 : decode cL_law 16 = .ok (.iconst 0, 1) := by decide +kernel
theorem dL_law_17 : decode cL_law 17 = .ok (.istore_n 3, 1) := by decide +kernel
theorem dL_law_18 : decode cL_law 18 = .ok (.iload_n 3, 1) := by decide +kernel
theorem dL_law_19 : decode cL_law 19 = .ok (.aload_n 0, 1) := by decide +kernel
theorem dL_law_20 : decode cL_law 20 = .ok (.arraylength, 1) := by decide +kernel
theorem dL_law_21 : decode cL_law 21 = .ok (.iconst 4, 1) := by decide +kernel
theorem dL_law_22 : decode cL_law 22 = .ok (.isub, 1) := by decide +kernel
theorem dL_law_23 : decode cL_law 23 = .ok (.if_icmp .gt 557, 3) := by decide +kernel
theorem dL_law_26 : decode cL_law 26 = .ok (.aload_n 0, 1) := by decide +kernel
theorem dL_law_27 : decode cL_law 27 = .ok (.iload_n 3, 1) := by decide +kernel
theorem dL_law_28 : decode cL_law 28 = .ok (.iaload, 1) := by decide +kernel
theorem dL_law_29 : decode cL_law 29 = .ok (.bipush 31, 2) := by decide +kernel
theorem dL_law_31 : decode cL_law 31 = .ok (.iand, 1) := by decide +kernel
theorem dL_law_32 : decode cL_law 32 = .ok (.tableswitch 542 0 17 #[88, 111, 124, 137, 150, 173, 206, 239, 282, 315, 348, 371, 414, 427, 450, 463, 496, 519], 88) := by decide +kernel
theorem dL_law_120 : decode cL_law 120 = .ok (.aload_n 1, 1) := by decide +kernel
theorem dL_law_121 : decode cL_law 121 = .ok (.aload_n 0, 1) := by decide +kernel
theorem dL_law_122 : decode cL_law 122 = .ok (.iload_n 3, 1) := by decide +kernel
theorem dL_law_123 : decode cL_law 123 = .ok (.iconst 1, 1) := by decide +kernel
theorem dL_law_124 : decode cL_law 124 = .ok (.iadd, 1) := by decide +kernel
theorem dL_law_125 : decode cL_law 125 = .ok (.iaload, 1) := by decide +kernel
theorem dL_law_126 : decode cL_law 126 = .ok (.invokevirtual 13, 3) := by decide +kernel
theorem dL_law_129 : decode cL_law 129 = .ok (.aload_n 2, 1) := by decide +kernel
theorem dL_law_130 : decode cL_law 130 = .ok (.aload_n 0, 1) := by decide +kernel
theorem dL_law_131 : decode cL_law 131 = .ok (.iload_n 3, 1) := by decide +kernel
theorem dL_law_132 : decode cL_law 132 = .ok (.iconst 1, 1) := by decide +kernel
theorem dL_law_133 : decode cL_law 133 = .ok (.iadd, 1) := by decide +kernel
theorem dL_law_134 : decode cL_law 134 = .ok (.iaload, 1) := by decide +kernel
theorem dL_law_135 : decode cL_law 135 = .ok (.invokevirtual 17, 3) := by decide +kernel
theorem dL_law_138 : decode cL_law 138 = .ok (.if_icmp .eq 436, 3) := by decide +kernel
theorem dL_law_141 : decode cL_law 141 = .ok (.iconst 0, 1) := by decide +kernel
theorem dL_law_142 : decode cL_law 142 = .ok (.ireturn, 1) := by decide +kernel
theorem dL_law_143 : decode cL_law 143 = .ok (.aload_n 1, 1) := by decide +kernel
theorem dL_law_144 : decode cL_law 144 = .ok (.invokevirtual 18, 3) := by decide +kernel
theorem dL_law_147 : decode cL_law 147 = .ok (.aload_n 2, 1) := by decide +kernel
theorem dL_law_148 : decode cL_law 148 = .ok (.invokevirtual 22, 3) := by decide +kernel
theorem dL_law_151 : decode cL_law 151 = .ok (.if_icmp .eq 423, 3) := by decide +kernel
theorem dL_law_154 : decode cL_law 154 = .ok (.iconst 0, 1) := by decide +kernel
theorem dL_law_155 : decode cL_law 155 = .ok (.ireturn, 1) := by decide +kernel
theorem dL_law_156 : decode cL_law 156 = .ok (.aload_n 1, 1) := by decide +kernel
theorem dL_law_157 : decode cL_law 157 = .ok (.invokevirtual 23, 3) := by decide +kernel
theorem dL_law_160 : decode cL_law 160 = .ok (.aload_n 2, 1) := by decide +kernel
theorem dL_law_161 : decode cL_law 161 = .ok (.invokevirtual 26, 3) := by decide +kernel
theorem dL_law_164 : decode cL_law 164 = .ok (.if_icmp .eq 410, 3) := by decide +kernel
theorem dL_law_167 : decode cL_law 167 = .ok (.iconst 0, 1) := by decide +kernel
theorem dL_law_168 : decode cL_law 168 = .ok (.ireturn, 1) := by decide +kernel
theorem dL_law_169 : decode cL_law 169 = .ok (.aload_n 1, 1) := by decide +kernel
theorem dL_law_170 : decode cL_law 170 = .ok (.invokevirtual 27, 3) := by decide +kernel
theorem dL_law_173 : decode cL_law 173 = .ok (.aload_n 2, 1) := by decide +kernel
theorem dL_law_174 : decode cL_law 174 = .ok (.invokevirtual 30, 3) := by decide +kernel
theorem dL_law_177 : decode cL_law 177 = .ok (.if_icmp .eq 397, 3) := by decide +kernel
theorem dL_law_180 : decode cL_law 180 = .ok (.iconst 0, 1) := by decide +kernel
theorem dL_law_181 : decode cL_law 181 = .ok (.ireturn, 1) := by decide +kernel
theorem dL_law_182 : decode cL_law 182 = .ok (.aload_n 1, 1) := by decide +kernel
theorem dL_law_183 : decode cL_law 183 = .ok (.aload_n 0, 1) := by decide +kernel
theorem dL_law_184 : decode cL_law 184 = .ok (.iload_n 3, 1) := by decide +kernel
theorem dL_law_185 : decode cL_law 185 = .ok (.iconst 1, 1) := by decide +kernel
theorem dL_law_186 : decode cL_law 186 = .ok (.iadd, 1) := by decide +kernel
theorem dL_law_187 : decode cL_law 187 = .ok (.iaload, 1) := by decide +kernel
theorem dL_law_188 : decode cL_law 188 = .ok (.invokevirtual 31, 3) := by decide +kernel
theorem dL_law_191 : decode cL_law 191 = .ok (.aload_n 2, 1) := by decide +kernel
theorem dL_law_192 : decode cL_law 192 = .ok (.aload_n 0, 1) := by decide +kernel
theorem dL_law_193 : decode cL_law 193 = .ok (.iload_n 3, 1) := by decide +kernel
theorem dL_law_194 : decode cL_law 194 = .ok (.iconst 1, 1) := by decide +kernel
theorem dL_law_195 : decode cL_law 195 = .ok (.iadd, 1) := by decide +kernel
theorem dL_law_196 : decode cL_law 196 = .ok (.iaload, 1) := by decide +kernel
theorem dL_law_197 : decode cL_law 197 = .ok (.invokevirtual 34, 3) := by decide +kernel
theorem dL_law_200 : decode cL_law 200 = .ok (.if_icmp .eq 374, 3) := by decide +kernel
theorem dL_law_203 : decode cL_law 203 = .ok (.iconst 0, 1) := by decide +kernel
theorem dL_law_204 : decode cL_law 204 = .ok (.ireturn, 1) := by decide +kernel
theorem dL_law_205 : decode cL_law 205 = .ok (.aload_n 1, 1) := by decide +kernel
theorem dL_law_206 : decode cL_law 206 = .ok (.aload_n 0, 1) := by decide +kernel
theorem dL_law_207 : decode cL_law 207 = .ok (.iload_n 3, 1) := by decide +kernel
theorem dL_law_208 : decode cL_law 208 = .ok (.iconst 1, 1) := by decide +kernel
theorem dL_law_209 : decode cL_law 209 = .ok (.iadd, 1) := by decide +kernel
theorem dL_law_210 : decode cL_law 210 = .ok (.iaload, 1) := by decide +kernel
theorem dL_law_211 : decode cL_law 211 = .ok (.aload_n 0, 1) := by decide +kernel
theorem dL_law_212 : decode cL_law 212 = .ok (.iload_n 3, 1) := by decide +kernel
theorem dL_law_213 : decode cL_law 213 = .ok (.iconst 2, 1) := by decide +kernel
theorem dL_law_214 : decode cL_law 214 = .ok (.iadd, 1) := by decide +kernel
theorem dL_law_215 : decode cL_law 215 = .ok (.iaload, 1) := by decide +kernel
theorem dL_law_216 : decode cL_law 216 = .ok (.invokevirtual 35, 3) := by decide +kernel
theorem dL_law_219 : decode cL_law 219 = .ok (.aload_n 2, 1) := by decide +kernel
theorem dL_law_220 : decode cL_law 220 = .ok (.aload_n 0, 1) := by decide +kernel
theorem dL_law_221 : decode cL_law 221 = .ok (.iload_n 3, 1) := by decide +kernel
theorem dL_law_222 : decode cL_law 222 = .ok (.iconst 1, 1) := by decide +kernel
theorem dL_law_223 : decode cL_law 223 = .ok (.iadd, 1) := by decide +kernel
theorem dL_law_224 : decode cL_law 224 = .ok (.iaload, 1) := by decide +kernel
theorem dL_law_225 : decode cL_law 225 = .ok (.aload_n 0, 1) := by decide +kernel
theorem dL_law_226 : decode cL_law 226 = .ok (.iload_n 3, 1) := by decide +kernel
theorem dL_law_227 : decode cL_law 227 = .ok (.iconst 2, 1) := by decide +kernel
theorem dL_law_228 : decode cL_law 228 = .ok (.iadd, 1) := by decide +kernel
theorem dL_law_229 : decode cL_law 229 = .ok (.iaload, 1) := by decide +kernel
theorem dL_law_230 : decode cL_law 230 = .ok (.invokevirtual 39, 3) := by decide +kernel
theorem dL_law_233 : decode cL_law 233 = .ok (.if_icmp .eq 341, 3) := by decide +kernel
theorem dL_law_236 : decode cL_law 236 = .ok (.iconst 0, 1) := by decide +kernel
theorem dL_law_237 : decode cL_law 237 = .ok (.ireturn, 1) := by decide +kernel
theorem dL_law_238 : decode cL_law 238 = .ok (.aload_n 1, 1) := by decide +kernel
theorem dL_law_239 : decode cL_law 239 = .ok (.aload_n 0, 1) := by decide +kernel
theorem dL_law_240 : decode cL_law 240 = .ok (.iload_n 3, 1) := by decide +kernel
theorem dL_law_241 : decode cL_law 241 = .ok (.iconst 1, 1) := by decide +kernel
theorem dL_law_242 : decode cL_law 242 = .ok (.iadd, 1) := by decide +kernel
theorem dL_law_243 : decode cL_law 243 = .ok (.iaload, 1) := by decide +kernel
theorem dL_law_244 : decode cL_law 244 = .ok (.aload_n 0, 1) := by decide +kernel
theorem dL_law_245 : decode cL_law 245 = .ok (.iload_n 3, 1) := by decide +kernel
theorem dL_law_246 : decode cL_law 246 = .ok (.iconst 2, 1) := by decide +kernel
theorem dL_law_247 : decode cL_law 247 = .ok (.iadd, 1) := by decide +kernel
theorem dL_law_248 : decode cL_law 248 = .ok (.iaload, 1) := by decide +kernel
theorem dL_law_249 : decode cL_law 249 = .ok (.invokevirtual 40, 3) := by decide +kernel
theorem dL_law_252 : decode cL_law 252 = .ok (.aload_n 2, 1) := by decide +kernel
theorem dL_law_253 : decode cL_law 253 = .ok (.aload_n 0, 1) := by decide +kernel
theorem dL_law_254 : decode cL_law 254 = .ok (.iload_n 3, 1) := by decide +kernel
theorem dL_law_255 : decode cL_law 255 = .ok (.iconst 1, 1) := by decide +kernel
theorem dL_law_256 : decode cL_law 256 = .ok (.iadd, 1) := by decide +kernel
theorem dL_law_257 : decode cL_law 257 = .ok (.iaload, 1) := by decide +kernel
theorem dL_law_258 : decode cL_law 258 = .ok (.aload_n 0, 1) := by decide +kernel
theorem dL_law_259 : decode cL_law 259 = .ok (.iload_n 3, 1) := by decide +kernel
theorem dL_law_260 : decode cL_law 260 = .ok (.iconst 2, 1) := by decide +kernel
theorem dL_law_261 : decode cL_law 261 = .ok (.iadd, 1) := by decide +kernel
theorem dL_law_262 : decode cL_law 262 = .ok (.iaload, 1) := by decide +kernel
theorem dL_law_263 : decode cL_law 263 = .ok (.invokevirtual 43, 3) := by decide +kernel
theorem dL_law_266 : decode cL_law 266 = .ok (.if_icmp .eq 308, 3) := by decide +kernel
theorem dL_law_269 : decode cL_law 269 = .ok (.iconst 0, 1) := by decide +kernel
theorem dL_law_270 : decode cL_law 270 = .ok (.ireturn, 1) := by decide +kernel
theorem dL_law_271 : decode cL_law 271 = .ok (.aload_n 1, 1) := by decide +kernel
theorem dL_law_272 : decode cL_law 272 = .ok (.aload_n 0, 1) := by decide +kernel
theorem dL_law_273 : decode cL_law 273 = .ok (.iload_n 3, 1) := by decide +kernel
theorem dL_law_274 : decode cL_law 274 = .ok (.iconst 1, 1) := by decide +kernel
theorem dL_law_275 : decode cL_law 275 = .ok (.iadd, 1) := by decide +kernel
theorem dL_law_276 : decode cL_law 276 = .ok (.iaload, 1) := by decide +kernel
theorem dL_law_277 : decode cL_law 277 = .ok (.aload_n 0, 1) := by decide +kernel
theorem dL_law_278 : decode cL_law 278 = .ok (.iload_n 3, 1) := by decide +kernel
theorem dL_law_279 : decode cL_law 279 = .ok (.iconst 2, 1) := by decide +kernel
theorem dL_law_280 : decode cL_law 280 = .ok (.iadd, 1) := by decide +kernel
theorem dL_law_281 : decode cL_law 281 = .ok (.iaload, 1) := by decide +kernel
theorem dL_law_282 : decode cL_law 282 = .ok (.aload_n 0, 1) := by decide +kernel
theorem dL_law_283 : decode cL_law 283 = .ok (.iload_n 3, 1) := by decide +kernel
theorem dL_law_284 : decode cL_law 284 = .ok (.iconst 3, 1) := by decide +kernel
theorem dL_law_285 : decode cL_law 285 = .ok (.iadd, 1) := by decide +kernel
theorem dL_law_286 : decode cL_law 286 = .ok (.iaload, 1) := by decide +kernel
theorem dL_law_287 : decode cL_law 287 = .ok (.invokevirtual 44, 3) := by decide +kernel
theorem dL_law_290 : decode cL_law 290 = .ok (.aload_n 2, 1) := by decide +kernel
theorem dL_law_291 : decode cL_law 291 = .ok (.aload_n 0, 1) := by decide +kernel
theorem dL_law_292 : decode cL_law 292 = .ok (.iload_n 3, 1) := by decide +kernel
theorem dL_law_293 : decode cL_law 293 = .ok (.iconst 1, 1) := by decide +kernel
theorem dL_law_294 : decode cL_law 294 = .ok (.iadd, 1) := by decide +kernel
theorem dL_law_295 : decode cL_law 295 = .ok (.iaload, 1) := by decide +kernel
theorem dL_law_296 : decode cL_law 296 = .ok (.aload_n 0, 1) := by decide +kernel
theorem dL_law_297 : decode cL_law 297 = .ok (.iload_n 3, 1) := by decide +kernel
theorem dL_law_298 : decode cL_law 298 = .ok (.iconst 2, 1) := by decide +kernel
theorem dL_law_299 : decode cL_law 299 = .ok (.iadd, 1) := by decide +kernel
theorem dL_law_300 : decode cL_law 300 = .ok (.iaload, 1) := by decide +kernel
theorem dL_law_301 : decode cL_law 301 = .ok (.aload_n 0, 1) := by decide +kernel
theorem dL_law_302 : decode cL_law 302 = .ok (.iload_n 3, 1) := by decide +kernel
theorem dL_law_303 : decode cL_law 303 = .ok (.iconst 3, 1) := by decide +kernel
theorem dL_law_304 : decode cL_law 304 = .ok (.iadd, 1) := by decide +kernel
theorem dL_law_305 : decode cL_law 305 = .ok (.iaload, 1) := by decide +kernel
theorem dL_law_306 : decode cL_law 306 = .ok (.invokevirtual 48, 3) := by decide +kernel
theorem dL_law_309 : decode cL_law 309 = .ok (.if_icmp .eq 265, 3) := by decide +kernel
theorem dL_law_312 : decode cL_law 312 = .ok (.iconst 0, 1) := by decide +kernel
theorem dL_law_313 : decode cL_law 313 = .ok (.ireturn, 1) := by decide +kernel
theorem dL_law_314 : decode cL_law 314 = .ok (.aload_n 1, 1) := by decide +kernel
theorem dL_law_315 : decode cL_law 315 = .ok (.aload_n 0, 1) := by decide +kernel
theorem dL_law_316 : decode cL_law 316 = .ok (.iload_n 3, 1) := by decide +kernel
theorem dL_law_317 : decode cL_law 317 = .ok (.iconst 1, 1) := by decide +kernel
theorem dL_law_318 : decode cL_law 318 = .ok (.iadd, 1) := by decide +kernel
theorem dL_law_319 : decode cL_law 319 = .ok (.iaload, 1) := by decide +kernel
theorem dL_law_320 : decode cL_law 320 = .ok (.aload_n 0, 1) := by decide +kernel
theorem dL_law_321 : decode cL_law 321 = .ok (.iload_n 3, 1) := by decide +kernel
theorem dL_law_322 : decode cL_law 322 = .ok (.iconst 2, 1) := by decide +kernel
theorem dL_law_323 : decode cL_law 323 = .ok (.iadd, 1) := by decide +kernel
theorem dL_law_324 : decode cL_law 324 = .ok (.iaload, 1) := by decide +kernel
theorem dL_law_325 : decode cL_law 325 = .ok (.invokevirtual 49, 3) := by decide +kernel
theorem dL_law_328 : decode cL_law 328 = .ok (.aload_n 2, 1) := by decide +kernel
theorem dL_law_329 : decode cL_law 329 = .ok (.aload_n 0, 1) := by decide +kernel
theorem dL_law_330 : decode cL_law 330 = .ok (.iload_n 3, 1) := by decide +kernel
theorem dL_law_331 : decode cL_law 331 = .ok (.iconst 1, 1) := by decide +kernel
theorem dL_law_332 : decode cL_law 332 = .ok (.iadd, 1) := by decide +kernel
theorem dL_law_333 : decode cL_law 333 = .ok (.iaload, 1) := by decide +kernel
theorem dL_law_334 : decode cL_law 334 = .ok (.aload_n 0, 1) := by decide +kernel
theorem dL_law_335 : decode cL_law 335 = .ok (.iload_n 3, 1) := by decide +kernel
theorem dL_law_336 : decode cL_law 336 = .ok (.iconst 2, 1) := by decide +kernel
theorem dL_law_337 : decode cL_law 337 = .ok (.iadd, 1) := by decide +kernel
theorem dL_law_338 : decode cL_law 338 = .ok (.iaload, 1) := by decide +kernel
theorem dL_law_339 : decode cL_law 339 = .ok (.invokevirtual 52, 3) := by decide +kernel
theorem dL_law_342 : decode cL_law 342 = .ok (.if_icmp .eq 232, 3) := by decide +kernel
theorem dL_law_345 : decode cL_law 345 = .ok (.iconst 0, 1) := by decide +kernel
theorem dL_law_346 : decode cL_law 346 = .ok (.ireturn, 1) := by decide +kernel
theorem dL_law_347 : decode cL_law 347 = .ok (.aload_n 1, 1) := by decide +kernel
theorem dL_law_348 : decode cL_law 348 = .ok (.aload_n 0, 1) := by decide +kernel
theorem dL_law_349 : decode cL_law 349 = .ok (.iload_n 3, 1) := by decide +kernel
theorem dL_law_350 : decode cL_law 350 = .ok (.iconst 1, 1) := by decide +kernel
theorem dL_law_351 : decode cL_law 351 = .ok (.iadd, 1) := by decide +kernel
theorem dL_law_352 : decode cL_law 352 = .ok (.iaload, 1) := by decide +kernel
theorem dL_law_353 : decode cL_law 353 = .ok (.aload_n 0, 1) := by decide +kernel
theorem dL_law_354 : decode cL_law 354 = .ok (.iload_n 3, 1) := by decide +kernel
theorem dL_law_355 : decode cL_law 355 = .ok (.iconst 2, 1) := by decide +kernel
theorem dL_law_356 : decode cL_law 356 = .ok (.iadd, 1) := by decide +kernel
theorem dL_law_357 : decode cL_law 357 = .ok (.iaload, 1) := by decide +kernel
theorem dL_law_358 : decode cL_law 358 = .ok (.invokevirtual 53, 3) := by decide +kernel
theorem dL_law_361 : decode cL_law 361 = .ok (.aload_n 2, 1) := by decide +kernel
theorem dL_law_362 : decode cL_law 362 = .ok (.aload_n 0, 1) := by decide +kernel
theorem dL_law_363 : decode cL_law 363 = .ok (.iload_n 3, 1) := by decide +kernel
theorem dL_law_364 : decode cL_law 364 = .ok (.iconst 1, 1) := by decide +kernel
theorem dL_law_365 : decode cL_law 365 = .ok (.iadd, 1) := by decide +kernel
theorem dL_law_366 : decode cL_law 366 = .ok (.iaload, 1) := by decide +kernel
theorem dL_law_367 : decode cL_law 367 = .ok (.aload_n 0, 1) := by decide +kernel
theorem dL_law_368 : decode cL_law 368 = .ok (.iload_n 3, 1) := by decide +kernel
theorem dL_law_369 : decode cL_law 369 = .ok (.iconst 2, 1) := by decide +kernel
theorem dL_law_370 : decode cL_law 370 = .ok (.iadd, 1) := by decide +kernel
theorem dL_law_371 : decode cL_law 371 = .ok (.iaload, 1) := by decide +kernel
theorem dL_law_372 : decode cL_law 372 = .ok (.invokevirtual 56, 3) := by decide +kernel
theorem dL_law_375 : decode cL_law 375 = .ok (.if_icmp .eq 199, 3) := by decide +kernel
theorem dL_law_378 : decode cL_law 378 = .ok (.iconst 0, 1) := by decide +kernel
theorem dL_law_379 : decode cL_law 379 = .ok (.ireturn, 1) := by decide +kernel
theorem dL_law_380 : decode cL_law 380 = .ok (.aload_n 1, 1) := by decide +kernel
theorem dL_law_381 : decode cL_law 381 = .ok (.aload_n 0, 1) := by decide +kernel
theorem dL_law_382 : decode cL_law 382 = .ok (.iload_n 3, 1) := by decide +kernel
theorem dL_law_383 : decode cL_law 383 = .ok (.iconst 1, 1) := by decide +kernel
theorem dL_law_384 : decode cL_law 384 = .ok (.iadd, 1) := by decide +kernel
theorem dL_law_385 : decode cL_law 385 = .ok (.iaload, 1) := by decide +kernel
theorem dL_law_386 : decode cL_law 386 = .ok (.invokevirtual 57, 3) := by decide +kernel
theorem dL_law_389 : decode cL_law 389 = .ok (.aload_n 2, 1) := by decide +kernel
theorem dL_law_390 : decode cL_law 390 = .ok (.aload_n 0, 1) := by decide +kernel
theorem dL_law_391 : decode cL_law 391 = .ok (.iload_n 3, 1) := by decide +kernel
theorem dL_law_392 : decode cL_law 392 = .ok (.iconst 1, 1) := by decide +kernel
theorem dL_law_393 : decode cL_law 393 = .ok (.iadd, 1) := by decide +kernel
theorem dL_law_394 : decode cL_law 394 = .ok (.iaload, 1) := by decide +kernel
theorem dL_law_395 : decode cL_law 395 = .ok (.invokevirtual 60, 3) := by decide +kernel
theorem dL_law_398 : decode cL_law 398 = .ok (.if_icmp .eq 176, 3) := by decide +kernel
theorem dL_law_401 : decode cL_law 401 = .ok (.iconst 0, 1) := by decide +kernel
theorem dL_law_402 : decode cL_law 402 = .ok (.ireturn, 1) := by decide +kernel
theorem dL_law_403 : decode cL_law 403 = .ok (.aload_n 1, 1) := by decide +kernel
theorem dL_law_404 : decode cL_law 404 = .ok (.aload_n 0, 1) := by decide +kernel
theorem dL_law_405 : decode cL_law 405 = .ok (.iload_n 3, 1) := by decide +kernel
theorem dL_law_406 : decode cL_law 406 = .ok (.iconst 1, 1) := by decide +kernel
theorem dL_law_407 : decode cL_law 407 = .ok (.iadd, 1) := by decide +kernel
theorem dL_law_408 : decode cL_law 408 = .ok (.iaload, 1) := by decide +kernel
theorem dL_law_409 : decode cL_law 409 = .ok (.aload_n 0, 1) := by decide +kernel
theorem dL_law_410 : decode cL_law 410 = .ok (.iload_n 3, 1) := by decide +kernel
theorem dL_law_411 : decode cL_law 411 = .ok (.iconst 2, 1) := by decide +kernel
theorem dL_law_412 : decode cL_law 412 = .ok (.iadd, 1) := by decide +kernel
theorem dL_law_413 : decode cL_law 413 = .ok (.iaload, 1) := by decide +kernel
theorem dL_law_414 : decode cL_law 414 = .ok (.aload_n 0, 1) := by decide +kernel
theorem dL_law_415 : decode cL_law 415 = .ok (.iload_n 3, 1) := by decide +kernel
theorem dL_law_416 : decode cL_law 416 = .ok (.iconst 3, 1) := by decide +kernel
theorem dL_law_417 : decode cL_law 417 = .ok (.iadd, 1) := by decide +kernel
theorem dL_law_418 : decode cL_law 418 = .ok (.iaload, 1) := by decide +kernel
theorem dL_law_419 : decode cL_law 419 = .ok (.invokevirtual 61, 3) := by decide +kernel
theorem dL_law_422 : decode cL_law 422 = .ok (.aload_n 2, 1) := by decide +kernel
theorem dL_law_423 : decode cL_law 423 = .ok (.aload_n 0, 1) := by decide +kernel
theorem dL_law_424 : decode cL_law 424 = .ok (.iload_n 3, 1) := by decide +kernel
theorem dL_law_425 : decode cL_law 425 = .ok (.iconst 1, 1) := by decide +kernel
theorem dL_law_426 : decode cL_law 426 = .ok (.iadd, 1) := by decide +kernel
theorem dL_law_427 : decode cL_law 427 = .ok (.iaload, 1) := by decide +kernel
theorem dL_law_428 : decode cL_law 428 = .ok (.aload_n 0, 1) := by decide +kernel
theorem dL_law_429 : decode cL_law 429 = .ok (.iload_n 3, 1) := by decide +kernel
theorem dL_law_430 : decode cL_law 430 = .ok (.iconst 2, 1) := by decide +kernel
theorem dL_law_431 : decode cL_law 431 = .ok (.iadd, 1) := by decide +kernel
theorem dL_law_432 : decode cL_law 432 = .ok (.iaload, 1) := by decide +kernel
theorem dL_law_433 : decode cL_law 433 = .ok (.aload_n 0, 1) := by decide +kernel
theorem dL_law_434 : decode cL_law 434 = .ok (.iload_n 3, 1) := by decide +kernel
theorem dL_law_435 : decode cL_law 435 = .ok (.iconst 3, 1) := by decide +kernel
theorem dL_law_436 : decode cL_law 436 = .ok (.iadd, 1) := by decide +kernel
theorem dL_law_437 : decode cL_law 437 = .ok (.iaload, 1) := by decide +kernel
theorem dL_law_438 : decode cL_law 438 = .ok (.invokevirtual 64, 3) := by decide +kernel
theorem dL_law_441 : decode cL_law 441 = .ok (.if_icmp .eq 133, 3) := by decide +kernel
theorem dL_law_444 : decode cL_law 444 = .ok (.iconst 0, 1) := by decide +kernel
theorem dL_law_445 : decode cL_law 445 = .ok (.ireturn, 1) := by decide +kernel
theorem dL_law_446 : decode cL_law 446 = .ok (.aload_n 1, 1) := by decide +kernel
theorem dL_law_447 : decode cL_law 447 = .ok (.invokevirtual 65, 3) := by decide +kernel
theorem dL_law_450 : decode cL_law 450 = .ok (.aload_n 2, 1) := by decide +kernel
theorem dL_law_451 : decode cL_law 451 = .ok (.invokevirtual 68, 3) := by decide +kernel
theorem dL_law_454 : decode cL_law 454 = .ok (.if_icmp .eq 120, 3) := by decide +kernel
theorem dL_law_457 : decode cL_law 457 = .ok (.iconst 0, 1) := by decide +kernel
theorem dL_law_458 : decode cL_law 458 = .ok (.ireturn, 1) := by decide +kernel
theorem dL_law_459 : decode cL_law 459 = .ok (.aload_n 1, 1) := by decide +kernel
theorem dL_law_460 : decode cL_law 460 = .ok (.aload_n 0, 1) := by decide +kernel
theorem dL_law_461 : decode cL_law 461 = .ok (.iload_n 3, 1) := by decide +kernel
theorem dL_law_462 : decode cL_law 462 = .ok (.iconst 1, 1) := by decide +kernel
theorem dL_law_463 : decode cL_law 463 = .ok (.iadd, 1) := by decide +kernel
theorem dL_law_464 : decode cL_law 464 = .ok (.iaload, 1) := by decide +kernel
theorem dL_law_465 : decode cL_law 465 = .ok (.invokevirtual 69, 3) := by decide +kernel
theorem dL_law_468 : decode cL_law 468 = .ok (.aload_n 2, 1) := by decide +kernel
theorem dL_law_469 : decode cL_law 469 = .ok (.aload_n 0, 1) := by decide +kernel
theorem dL_law_470 : decode cL_law 470 = .ok (.iload_n 3, 1) := by decide +kernel
theorem dL_law_471 : decode cL_law 471 = .ok (.iconst 1, 1) := by decide +kernel
theorem dL_law_472 : decode cL_law 472 = .ok (.iadd, 1) := by decide +kernel
theorem dL_law_473 : decode cL_law 473 = .ok (.iaload, 1) := by decide +kernel
theorem dL_law_474 : decode cL_law 474 = .ok (.invokevirtual 72, 3) := by decide +kernel
theorem dL_law_477 : decode cL_law 477 = .ok (.if_icmp .eq 97, 3) := by decide +kernel
theorem dL_law_480 : decode cL_law 480 = .ok (.iconst 0, 1) := by decide +kernel
theorem dL_law_481 : decode cL_law 481 = .ok (.ireturn, 1) := by decide +kernel
theorem dL_law_482 : decode cL_law 482 = .ok (.aload_n 1, 1) := by decide +kernel
theorem dL_law_483 : decode cL_law 483 = .ok (.invokevirtual 73, 3) := by decide +kernel
theorem dL_law_486 : decode cL_law 486 = .ok (.aload_n 2, 1) := by decide +kernel
theorem dL_law_487 : decode cL_law 487 = .ok (.invokevirtual 76, 3) := by decide +kernel
theorem dL_law_490 : decode cL_law 490 = .ok (.if_icmp .eq 84, 3) := by decide +kernel
theorem dL_law_493 : decode cL_law 493 = .ok (.iconst 0, 1) := by decide +kernel
theorem dL_law_494 : decode cL_law 494 = .ok (.ireturn, 1) := by decide +kernel
theorem dL_law_495 : decode cL_law 495 = .ok (.aload_n 1, 1) := by decide +kernel
theorem dL_law_496 : decode cL_law 496 = .ok (.aload_n 0, 1) := by decide +kernel
theorem dL_law_497 : decode cL_law 497 = .ok (.iload_n 3, 1) := by decide +kernel
theorem dL_law_498 : decode cL_law 498 = .ok (.iconst 1, 1) := by decide +kernel
theorem dL_law_499 : decode cL_law 499 = .ok (.iadd, 1) := by decide +kernel
theorem dL_law_500 : decode cL_law 500 = .ok (.iaload, 1) := by decide +kernel
theorem dL_law_501 : decode cL_law 501 = .ok (.aload_n 0, 1) := by decide +kernel
theorem dL_law_502 : decode cL_law 502 = .ok (.iload_n 3, 1) := by decide +kernel
theorem dL_law_503 : decode cL_law 503 = .ok (.iconst 2, 1) := by decide +kernel
theorem dL_law_504 : decode cL_law 504 = .ok (.iadd, 1) := by decide +kernel
theorem dL_law_505 : decode cL_law 505 = .ok (.iaload, 1) := by decide +kernel
theorem dL_law_506 : decode cL_law 506 = .ok (.invokevirtual 77, 3) := by decide +kernel
theorem dL_law_509 : decode cL_law 509 = .ok (.aload_n 2, 1) := by decide +kernel
theorem dL_law_510 : decode cL_law 510 = .ok (.aload_n 0, 1) := by decide +kernel
theorem dL_law_511 : decode cL_law 511 = .ok (.iload_n 3, 1) := by decide +kernel
theorem dL_law_512 : decode cL_law 512 = .ok (.iconst 1, 1) := by decide +kernel
theorem dL_law_513 : decode cL_law 513 = .ok (.iadd, 1) := by decide +kernel
theorem dL_law_514 : decode cL_law 514 = .ok (.iaload, 1) := by decide +kernel
theorem dL_law_515 : decode cL_law 515 = .ok (.aload_n 0, 1) := by decide +kernel
theorem dL_law_516 : decode cL_law 516 = .ok (.iload_n 3, 1) := by decide +kernel
theorem dL_law_517 : decode cL_law 517 = .ok (.iconst 2, 1) := by decide +kernel
theorem dL_law_518 : decode cL_law 518 = .ok (.iadd, 1) := by decide +kernel
theorem dL_law_519 : decode cL_law 519 = .ok (.iaload, 1) := by decide +kernel
theorem dL_law_520 : decode cL_law 520 = .ok (.invokevirtual 80, 3) := by decide +kernel
theorem dL_law_523 : decode cL_law 523 = .ok (.if_icmp .eq 51, 3) := by decide +kernel
theorem dL_law_526 : decode cL_law 526 = .ok (.iconst 0, 1) := by decide +kernel
theorem dL_law_527 : decode cL_law 527 = .ok (.ireturn, 1) := by decide +kernel
theorem dL_law_528 : decode cL_law 528 = .ok (.aload_n 1, 1) := by decide +kernel
theorem dL_law_529 : decode cL_law 529 = .ok (.aload_n 0, 1) := by decide +kernel
theorem dL_law_530 : decode cL_law 530 = .ok (.iload_n 3, 1) := by decide +kernel
theorem dL_law_531 : decode cL_law 531 = .ok (.iconst 1, 1) := by decide +kernel
theorem dL_law_532 : decode cL_law 532 = .ok (.iadd, 1) := by decide +kernel
theorem dL_law_533 : decode cL_law 533 = .ok (.iaload, 1) := by decide +kernel
theorem dL_law_534 : decode cL_law 534 = .ok (.invokevirtual 81, 3) := by decide +kernel
theorem dL_law_537 : decode cL_law 537 = .ok (.aload_n 2, 1) := by decide +kernel
theorem dL_law_538 : decode cL_law 538 = .ok (.aload_n 0, 1) := by decide +kernel
theorem dL_law_539 : decode cL_law 539 = .ok (.iload_n 3, 1) := by decide +kernel
theorem dL_law_540 : decode cL_law 540 = .ok (.iconst 1, 1) := by decide +kernel
theorem dL_law_541 : decode cL_law 541 = .ok (.iadd, 1) := by decide +kernel
theorem dL_law_542 : decode cL_law 542 = .ok (.iaload, 1) := by decide +kernel
theorem dL_law_543 : decode cL_law 543 = .ok (.invokevirtual 84, 3) := by decide +kernel
theorem dL_law_546 : decode cL_law 546 = .ok (.if_icmp .eq 28, 3) := by decide +kernel
theorem dL_law_549 : decode cL_law 549 = .ok (.iconst 0, 1) := by decide +kernel
theorem dL_law_550 : decode cL_law 550 = .ok (.ireturn, 1) := by decide +kernel
theorem dL_law_551 : decode cL_law 551 = .ok (.aload_n 1, 1) := by decide +kernel
theorem dL_law_552 : decode cL_law 552 = .ok (.aload_n 0, 1) := by decide +kernel
theorem dL_law_553 : decode cL_law 553 = .ok (.iload_n 3, 1) := by decide +kernel
theorem dL_law_554 : decode cL_law 554 = .ok (.iconst 1, 1) := by decide +kernel
theorem dL_law_555 : decode cL_law 555 = .ok (.iadd, 1) := by decide +kernel
theorem dL_law_556 : decode cL_law 556 = .ok (.iaload, 1) := by decide +kernel
theorem dL_law_557 : decode cL_law 557 = .ok (.invokevirtual 85, 3) := by decide +kernel
theorem dL_law_560 : decode cL_law 560 = .ok (.aload_n 2, 1) := by decide +kernel
theorem dL_law_561 : decode cL_law 561 = .ok (.aload_n 0, 1) := by decide +kernel
theorem dL_law_562 : decode cL_law 562 = .ok (.iload_n 3, 1) := by decide +kernel
theorem dL_law_563 : decode cL_law 563 = .ok (.iconst 1, 1) := by decide +kernel
theorem dL_law_564 : decode cL_law 564 = .ok (.iadd, 1) := by decide +kernel
theorem dL_law_565 : decode cL_law 565 = .ok (.iaload, 1) := by decide +kernel
theorem dL_law_566 : decode cL_law 566 = .ok (.invokevirtual 88, 3) := by decide +kernel
theorem dL_law_569 : decode cL_law 569 = .ok (.if_icmp .eq 5, 3) := by decide +kernel
theorem dL_law_572 : decode cL_law 572 = .ok (.iconst 0, 1) := by decide +kernel
theorem dL_law_573 : decode cL_law 573 = .ok (.ireturn, 1) := by decide +kernel
theorem dL_law_574 : decode cL_law 574 = .ok (.iinc 3 4, 3) := by decide +kernel
theorem dL_law_577 : decode cL_law 577 = .ok (.goto (-559), 3) := by decide +kernel
theorem dL_law_580 : decode cL_law 580 = .ok (.iconst 1, 1) := by decide +kernel
theorem dL_law_581 : decode cL_law 581 = .ok (.ireturn, 1) := by decide +kernel
def R_law : String := "KindNetsLaw"
def lw_P (b : Addr) (xs : List Int32) (args : Array Value) (s : State) : Prop := args = #[.ref b] ∧ s.IntsAt b xs ∧ xs.length ≤ 2048 ∧ (Jvm.Cond.and given_1 narrow_1).before args s = true
def lw_Q (_ : Array Value) (s : State) (o : Outcome) (t : State) : Prop := o = .returned (some (.int 1)) ∧ Framed s o t [] 600000 7302250
def lw_Z (below : List Frame) (a : Array Value) (s : State) : State → Prop := fun t => ∃ o, t.status = .running ∧ Ended t below o ∧ lw_Q a s o t
/-- the law's own end, with 1 on the stack, nothing written that was there before, its room as the claim has it -/
theorem lw_ret {p : Program} {l : Launch} {e : Env} {s : State} {m : MethodId} {below : List Frame} {meth : Method} {c : Code} {b : Nat} (hx : p.tables.exec = Jvm.exec) (hb : c.code = code) (hr : meth.sig.returnType = ret) (hlocks : meth.locks = false) {pc : Nat} {H : Heap} {ls : Array Slot} (hdg : decode code pc = .ok (.ireturn, 1)) : W p l e room_1 s m #[Value.ref b] below meth c H [] 600000 7302250 (lw_Z below #[Value.ref b] s) (F0 m pc ls [.int 1]) := by
  intro T hT X
  obtain ⟨fs, hret, hrun, hended, hW, hframe⟩ := X.leave (v := some (.int 1)) (hlocks := hlocks) (fun h => by rw [hr] at h; cases h)
  have hmeth' : T.vm.method? m = some meth := X.method'
  refine ⟨T.setFrames fs, ?_, .returned (some (.int 1)), hrun, hended, rfl, ⟨_, rfl⟩, hW, hframe⟩
  jvm_step X.here [X.here.top, hx, hb, hdg, hmeth', hr, ret, narrow_b1]
  (try refine ⟨rfl, ?_⟩); (try refine ⟨rfl, ?_⟩)
  first | (intro acts; rw [hret _ acts rfl rfl rfl]) | rw [hret _ _ rfl rfl rfl]
  exact Steps.refl _
/-- what holds at the law's entry: the machine, the code, the tables' words (any of lw_tbl by 'hts w (by decide +kernel)'), the script of L ints xs at the cell b, what the Statement gives of the start (any of its parts by flat_of_before) -/
def lw_At (p : Program) (s : State) (m : MethodId) (meth : Method) (c : Code) (b L : Nat) (xs : Nat → Int32) : Prop :=
  p.tables.exec = Jvm.exec ∧ c.code = code ∧ meth.sig.returnType = ret ∧ c.maxLocals = 4 ∧ s.vm.findClass R_law = some m.cls ∧ (∀ w ∈ lw_tbl, w.before #[Value.ref b] s = true) ∧ va_X b L xs s s.heap ∧ b < s.heap.size ∧ meth.locks = false ∧ (Jvm.Cond.and given_1 narrow_1).before #[Value.ref b] s = true
def MK0 : QM := (fun o k => match o with
  | 3 => (fun k => if k = 0 then 60 else 0) k
  | 7 => (zf_1.1 0) k
  | 9 => (fun k => if k = 0 then 100 else 0) k
  | 13 => (zf_1.1 0) k
  | 24 => (fun k => if k = 7 then -7 else if k = 9 then -6 else 0) k
  | _ => 0, fun _ _ => 0)
def MM0 : QM := (fun o k => match o with
  | 4 => (upd (upd (upd (upd (upd (upd (upd (upd (fun _ => 0) (Int32.toNatClampNeg (0 : Int32)) (-6 : Int32)) (Int32.toNatClampNeg (1 : Int32)) (-6 : Int32)) (Int32.toNatClampNeg (2 : Int32)) (-6 : Int32)) (Int32.toNatClampNeg (3 : Int32)) (-6 : Int32)) (Int32.toNatClampNeg (4 : Int32)) (-6 : Int32)) (Int32.toNatClampNeg (5 : Int32)) (-6 : Int32)) (Int32.toNatClampNeg (6 : Int32)) (-6 : Int32)) (Int32.toNatClampNeg (7 : Int32)) (-6 : Int32)) k
  | _ => 0, fun _ _ => 0)
def Stp_say (Rel : Nat → QM → QM → Prop) : Prop := ∀ (n : Nat) (MK MM : QM), n < 512 → Rel n MK MM → (∀ a1 : Int32, ∃ (r : Int32) (MK2 MM2 : QM), Kn_say a1 MK = some (r, MK2) ∧ Mo_say a1 MM = some (r, MM2) ∧ Rel (n + 1) MK2 MM2)
def Stp_wipe (Rel : Nat → QM → QM → Prop) : Prop := ∀ (n : Nat) (MK MM : QM), n < 512 → Rel n MK MM → (∃ (r : Int32) (MK2 MM2 : QM), Kn_wipe MK = some (r, MK2) ∧ Mo_wipe MM = some (r, MM2) ∧ Rel (n + 1) MK2 MM2)
def Stp_fault (Rel : Nat → QM → QM → Prop) : Prop := ∀ (n : Nat) (MK MM : QM), n < 512 → Rel n MK MM → (∃ (r : Int32) (MK2 MM2 : QM), Kn_fault MK = some (r, MK2) ∧ Mo_fault MM = some (r, MM2) ∧ Rel (n + 1) MK2 MM2)
def Stp_take (Rel : Nat → QM → QM → Prop) : Prop := ∀ (n : Nat) (MK MM : QM), n < 512 → Rel n MK MM → (∃ (r : Int32) (MK2 MM2 : QM), Kn_take MK = some (r, MK2) ∧ Mo_take MM = some (r, MM2) ∧ Rel (n + 1) MK2 MM2)
def Stp_name (Rel : Nat → QM → QM → Prop) : Prop := ∀ (n : Nat) (MK MM : QM), n < 512 → Rel n MK MM → (∀ a1 : Int32, ∃ r : Int32, Kn_name a1 MK = some r ∧ Mo_name a1 MM = some r)
def Stp_node (Rel : Nat → QM → QM → Prop) : Prop := ∀ (n : Nat) (MK MM : QM), n < 512 → Rel n MK MM → (∀ a1 a2 : Int32, ∃ r : Int32, Kn_node a1 a2 MK = some r ∧ Mo_node a1 a2 MM = some r)
def Stp_may (Rel : Nat → QM → QM → Prop) : Prop := ∀ (n : Nat) (MK MM : QM), n < 512 → Rel n MK MM → (∀ a1 a2 : Int32, ∃ (r : Int32) (MK2 MM2 : QM), Kn_may a1 a2 MK = some (r, MK2) ∧ Mo_may a1 a2 MM = some (r, MM2) ∧ Rel (n + 1) MK2 MM2)
def Stp_way (Rel : Nat → QM → QM → Prop) : Prop := ∀ (n : Nat) (MK MM : QM), n < 512 → Rel n MK MM → (∀ a1 a2 a3 : Int32, ∃ (r : Int32) (MK2 MM2 : QM), Kn_way a1 a2 a3 MK = some (r, MK2) ∧ Mo_way a1 a2 a3 MM = some (r, MM2) ∧ Rel (n + 1) MK2 MM2)
def Stp_end (Rel : Nat → QM → QM → Prop) : Prop := ∀ (n : Nat) (MK MM : QM), n < 512 → Rel n MK MM → (∀ a1 a2 : Int32, ∃ (r : Int32) (MK2 MM2 : QM), Kn_end a1 a2 MK = some (r, MK2) ∧ Mo_end a1 a2 MM = some (r, MM2) ∧ Rel (n + 1) MK2 MM2)
def Stp_alike (Rel : Nat → QM → QM → Prop) : Prop := ∀ (n : Nat) (MK MM : QM), n < 512 → Rel n MK MM → (∀ a1 a2 : Int32, ∃ (r : Int32) (MK2 MM2 : QM), Kn_alike a1 a2 MK = some (r, MK2) ∧ Mo_alike a1 a2 MM = some (r, MM2) ∧ Rel (n + 1) MK2 MM2)
def Stp_pieces (Rel : Nat → QM → QM → Prop) : Prop := ∀ (n : Nat) (MK MM : QM), n < 512 → Rel n MK MM → (∀ a1 : Int32, ∃ (r : Int32) (MK2 MM2 : QM), Kn_pieces a1 MK = some (r, MK2) ∧ Mo_pieces a1 MM = some (r, MM2) ∧ Rel (n + 1) MK2 MM2)
def Stp_join (Rel : Nat → QM → QM → Prop) : Prop := ∀ (n : Nat) (MK MM : QM), n < 512 → Rel n MK MM → (∀ a1 a2 a3 : Int32, ∃ (r : Int32) (MK2 MM2 : QM), Kn_join a1 a2 a3 MK = some (r, MK2) ∧ Mo_join a1 a2 a3 MM = some (r, MM2) ∧ Rel (n + 1) MK2 MM2)
def Stp_slip (Rel : Nat → QM → QM → Prop) : Prop := ∀ (n : Nat) (MK MM : QM), n < 512 → Rel n MK MM → (∃ (r : Int32) (MK2 MM2 : QM), Kn_slip MK = some (r, MK2) ∧ Mo_slip MM = some (r, MM2) ∧ Rel (n + 1) MK2 MM2)
def Stp_fits (Rel : Nat → QM → QM → Prop) : Prop := ∀ (n : Nat) (MK MM : QM), n < 512 → Rel n MK MM → (∀ a1 : Int32, ∃ (r : Int32) (MK2 MM2 : QM), Kn_fits a1 MK = some (r, MK2) ∧ Mo_fits a1 MM = some (r, MM2) ∧ Rel (n + 1) MK2 MM2)
def Stp_size (Rel : Nat → QM → QM → Prop) : Prop := ∀ (n : Nat) (MK MM : QM), n < 512 → Rel n MK MM → (∃ (r : Int32) (MK2 MM2 : QM), Kn_size MK = some (r, MK2) ∧ Mo_size MM = some (r, MM2) ∧ Rel (n + 1) MK2 MM2)
def Stp_count (Rel : Nat → QM → QM → Prop) : Prop := ∀ (n : Nat) (MK MM : QM), n < 512 → Rel n MK MM → (∀ a1 a2 : Int32, ∃ (r : Int32) (MK2 MM2 : QM), Kn_count a1 a2 MK = some (r, MK2) ∧ Mo_count a1 a2 MM = some (r, MM2) ∧ Rel (n + 1) MK2 MM2)
def Stp_least (Rel : Nat → QM → QM → Prop) : Prop := ∀ (n : Nat) (MK MM : QM), n < 512 → Rel n MK MM → (∀ a1 : Int32, ∃ (r : Int32) (MK2 MM2 : QM), Kn_least a1 MK = some (r, MK2) ∧ Mo_least a1 MM = some (r, MM2) ∧ Rel (n + 1) MK2 MM2)
def Stp_told (Rel : Nat → QM → QM → Prop) : Prop := ∀ (n : Nat) (MK MM : QM), n < 512 → Rel n MK MM → (∀ a1 : Int32, ∃ (r : Int32) (MK2 MM2 : QM), Kn_told a1 MK = some (r, MK2) ∧ Mo_told a1 MM = some (r, MM2) ∧ Rel (n + 1) MK2 MM2)
def Stq (Rel : Nat → QM → QM → Prop) : Prop := (∀ (n : Nat) (MK MM : QM), n < 512 → Rel n MK MM → Rel (n + 1) MK MM) ∧ Stp_say Rel ∧ Stp_wipe Rel ∧ Stp_fault Rel ∧ Stp_take Rel ∧ Stp_name Rel ∧ Stp_node Rel ∧ Stp_may Rel ∧ Stp_way Rel ∧ Stp_end Rel ∧ Stp_alike Rel ∧ Stp_pieces Rel ∧ Stp_join Rel ∧ Stp_slip Rel ∧ Stp_fits Rel ∧ Stp_size Rel ∧ Stp_count Rel ∧ Stp_least Rel ∧ Stp_told Rel
theorem q_rng {α : Type} (a b : List α) {n : Nat} (hn : a.length = n) : (List.range n).map (fun i => (a ++ b)[i]?) = a.map some := by
  subst hn
  apply List.ext_getElem?
  intro i
  rw [List.getElem?_map, List.getElem?_map]
  by_cases h : i < a.length
  · rw [List.getElem?_range h, Option.map_some, List.getElem?_append_left h, List.getElem?_eq_getElem h]
    rfl
  · rw [List.getElem?_eq_none (by simp; omega), List.getElem?_eq_none (by omega)]
    rfl
theorem q_rng2 {α : Type} (a b : List α) {n m : Nat} (hn : a.length = n) (hm : b.length = m) : ((List.range m).map (fun i => n + i)).map (fun i => (a ++ b)[i]?) = b.map some := by
  subst hn
  subst hm
  apply List.ext_getElem?
  intro i
  rw [List.getElem?_map, List.getElem?_map, List.getElem?_map]
  by_cases h : i < b.length
  · rw [List.getElem?_range h, Option.map_some, Option.map_some, List.getElem?_append_right (by omega), List.getElem?_eq_getElem h, Nat.add_sub_cancel_left, List.getElem?_eq_getElem h]
    rfl
  · rw [List.getElem?_eq_none (by simp; omega), List.getElem?_eq_none (by omega)]
    rfl
theorem q_wlen (w : QW) (SH : List QS) (M : QM) : (q_wl w SH M).length = SH.length := by simp [q_wl]
theorem z_lK (w : QW) (M : QM) : (q_wl w SHK M).length = 33 := q_wlen w SHK M
theorem z_lM (w : QW) (M : QM) : (q_wl w SHM M).length = 25 := q_wlen w SHM M

set_option maxRecDepth 100000 in
theorem z_callK {C : QD} {own : String} {cc : ByteArray} {nL : Nat} {rm : Room} (hc : OKY C own cc nL rm) {pc : Nat} {L : List (Nat × Value)} {st : List Value} {cells slots : Nat} {idx n d1 maxL : Nat} {y : MethodName} {cy : ByteArray} {As : List Value} {v : Int32} {Mx My M1 : QM} (hd : decode cc pc = .ok (.invokevirtual idx, 3)) (hy : CV y cy maxL (some .int) n) (hlk : Cond.methodLink own idx y ∈ lw_good) (ad ad2 : Nat → Nat) (hinj : q_inj ((d_w C).1, ad, (d_w C).2.2) SHK) (hci : (vwCl[8]?).map (fun q => q.1) = some y.cls) (hAs : As.map (q_cv ((d_w C).1, ad, (d_w C).2.2)) = As) (hn : As.length = n) (hM : Cn y cy maxL (some .int) d1 SHK (.ref 0 :: As) Mx (some (.int v)) M1) (hroom : d1 + 1 ≤ rm.frames ∧ 8 + (maxL + 11) + 40 * d1 ≤ rm.locals) (hcs : cells ≤ rm.cells ∧ slots ≤ rm.slots) (hst : (st.map fun v => v.category).sum ≤ 8)
    (kk : WY C nL (pc + 3) L (.int v :: st) (q_wl ((d_w C).1, ad2, (d_w C).2.2) SHM My ++ q_wl ((d_w C).1, ad, (d_w C).2.2) SHK M1) cells slots) : WY C nL pc L (As.reverse ++ .ref (ad 0) :: st) (q_wl ((d_w C).1, ad, (d_w C).2.2) SHK Mx ++ q_wl ((d_w C).1, ad2, (d_w C).2.2) SHM My) cells slots :=
  y_callV (wr := q_wl ((d_w C).1, ad2, (d_w C).2.2) SHM My) hc hd hy hlk ad hinj sh_0 hci hAs hn hM (List.range 33) ((List.range 25).map (fun i => 33 + i)) (q_rng _ _ (z_lK _ _)) (q_rng2 _ _ (z_lK _ _) (z_lM _ _)) (by decide) (by decide) (by decide) hroom hcs hst kk

set_option maxRecDepth 100000 in
theorem z_callM {C : QD} {own : String} {cc : ByteArray} {nL : Nat} {rm : Room} (hc : OKY C own cc nL rm) {pc : Nat} {L : List (Nat × Value)} {st : List Value} {cells slots : Nat} {idx n d1 maxL : Nat} {y : MethodName} {cy : ByteArray} {As : List Value} {v : Int32} {Mx My M1 : QM} (hd : decode cc pc = .ok (.invokevirtual idx, 3)) (hy : CV y cy maxL (some .int) n) (hlk : Cond.methodLink own idx y ∈ lw_good) (ad ad2 : Nat → Nat) (hinj : q_inj ((d_w C).1, ad, (d_w C).2.2) SHM) (hci : (vwCl[9]?).map (fun q => q.1) = some y.cls) (hAs : As.map (q_cv ((d_w C).1, ad, (d_w C).2.2)) = As) (hn : As.length = n) (hM : Cn y cy maxL (some .int) d1 SHM (.ref 0 :: As) Mx (some (.int v)) M1) (hroom : d1 + 1 ≤ rm.frames ∧ 8 + (maxL + 11) + 40 * d1 ≤ rm.locals) (hcs : cells ≤ rm.cells ∧ slots ≤ rm.slots) (hst : (st.map fun v => v.category).sum ≤ 8)
    (kk : WY C nL (pc + 3) L (.int v :: st) (q_wl ((d_w C).1, ad2, (d_w C).2.2) SHK My ++ q_wl ((d_w C).1, ad, (d_w C).2.2) SHM M1) cells slots) : WY C nL pc L (As.reverse ++ .ref (ad 0) :: st) (q_wl ((d_w C).1, ad, (d_w C).2.2) SHM Mx ++ q_wl ((d_w C).1, ad2, (d_w C).2.2) SHK My) cells slots :=
  y_callV (wr := q_wl ((d_w C).1, ad2, (d_w C).2.2) SHK My) hc hd hy hlk ad hinj sm_0 hci hAs hn hM (List.range 25) ((List.range 33).map (fun i => 25 + i)) (q_rng _ _ (z_lM _ _)) (q_rng2 _ _ (z_lM _ _) (z_lK _ _)) (by decide) (by decide) (by decide) hroom hcs hst kk

def OKL : QD → Nat → Nat → (Nat → Int32) → Prop := fun (p, l, e, R, s, m, args, below, meth, c, w, A, Q) b Ln xs => va_X b Ln xs s s.heap ∧ b < s.heap.size ∧ ¬ A b
theorem z_sld {C : QD} {own : String} {cc : ByteArray} {nL : Nat} {rm : Room} (hc : OKY C own cc nL rm) {pc : Nat} {L : List (Nat × Value)} {st : List Value} {ws : va_W} {cells slots : Nat} {b Ln : Nat} {xs : Nat → Int32} {i : Int32} (hL : OKL C b Ln xs) (hin : vp_in i Ln) (hd : decode cc pc = .ok (.iaload, 1)) (k : WY C nL (pc + 1) L (.int (xs i.toNatClampNeg) :: st) ws cells slots) : WY C nL pc L (.int i :: .ref b :: st) ws cells slots := by
  obtain ⟨p, l, e, R, s, m, args, below, meth, c, w, A, Q⟩ := C
  intro ls H locs hl hP hD hS
  exact va_sld hc.1 hc.2.1 hL.1 hL.2.1 hL.2.2 hS hin hd (k ls H locs hl hP hD hS)
theorem z_slen {C : QD} {own : String} {cc : ByteArray} {nL : Nat} {rm : Room} (hc : OKY C own cc nL rm) {pc : Nat} {L : List (Nat × Value)} {st : List Value} {ws : va_W} {cells slots : Nat} {b Ln : Nat} {xs : Nat → Int32} (hL : OKL C b Ln xs) (hd : decode cc pc = .ok (.arraylength, 1)) (k : WY C nL (pc + 1) L (.int (Int32.ofNat Ln) :: st) ws cells slots) : WY C nL pc L (.ref b :: st) ws cells slots := by
  obtain ⟨p, l, e, R, s, m, args, below, meth, c, w, A, Q⟩ := C
  intro ls H locs hl hP hD hS
  exact va_slen hc.1 hc.2.1 hL.1 hL.2.1 hL.2.2 hS hd (k ls H locs hl hP hD hS)

theorem z_iadd {C : QD} {own : String} {cc : ByteArray} {nL : Nat} {rm : Room} (hc : OKY C own cc nL rm) {pc : Nat} {L : List (Nat × Value)} {st : List Value} {ws : va_W} {cells slots : Nat} {x y : Int32} (hd : decode cc pc = .ok (.iadd, 1)) (k : WY C nL (pc + 1) L (.int (x + y) :: st) ws cells slots) : WY C nL pc L (.int y :: .int x :: st) ws cells slots := by
  obtain ⟨p, l, e, R, s, m, args, below, meth, c, w, A, Q⟩ := C
  intro ls H locs hl hP hD hS
  exact lv_iadd hc.1 hc.2.1 hd (k ls H locs hl hP hD hS)

theorem z_isub {C : QD} {own : String} {cc : ByteArray} {nL : Nat} {rm : Room} (hc : OKY C own cc nL rm) {pc : Nat} {L : List (Nat × Value)} {st : List Value} {ws : va_W} {cells slots : Nat} {x y : Int32} (hd : decode cc pc = .ok (.isub, 1)) (k : WY C nL (pc + 1) L (.int (x - y) :: st) ws cells slots) : WY C nL pc L (.int y :: .int x :: st) ws cells slots := by
  obtain ⟨p, l, e, R, s, m, args, below, meth, c, w, A, Q⟩ := C
  intro ls H locs hl hP hD hS
  exact lv_isub hc.1 hc.2.1 hd (k ls H locs hl hP hD hS)

theorem z_iand {C : QD} {own : String} {cc : ByteArray} {nL : Nat} {rm : Room} (hc : OKY C own cc nL rm) {pc : Nat} {L : List (Nat × Value)} {st : List Value} {ws : va_W} {cells slots : Nat} {x y : Int32} (hd : decode cc pc = .ok (.iand, 1)) (k : WY C nL (pc + 1) L (.int (x &&& y) :: st) ws cells slots) : WY C nL pc L (.int y :: .int x :: st) ws cells slots := by
  obtain ⟨p, l, e, R, s, m, args, below, meth, c, w, A, Q⟩ := C
  intro ls H locs hl hP hD hS
  exact lv_iand hc.1 hc.2.1 hd (k ls H locs hl hP hD hS)

theorem z_icmp_gt {C : QD} {own : String} {cc : ByteArray} {nL : Nat} {rm : Room} (hc : OKY C own cc nL rm) {pc : Nat} {L : List (Nat × Value)} {st : List Value} {ws : va_W} {cells slots : Nat} {x y : Int32} {off : Int} {tgt : Nat} (hd : decode cc pc = .ok (.if_icmp .gt off, 3)) (ht : (pc : Int) + off = (tgt : Int)) (kt : y < x → WY C nL tgt L st ws cells slots) (kf : ¬ y < x → WY C nL (pc + 3) L st ws cells slots) : WY C nL pc L (.int y :: .int x :: st) ws cells slots := by
  obtain ⟨p, l, e, R, s, m, args, below, meth, c, w, A, Q⟩ := C
  intro ls H locs hl hP hD hS
  exact lv_icmp_gt hc.1 hc.2.1 hd ht (fun h => kt h ls H locs hl hP hD hS) (fun h => kf h ls H locs hl hP hD hS)

theorem z_icmp_eq {C : QD} {own : String} {cc : ByteArray} {nL : Nat} {rm : Room} (hc : OKY C own cc nL rm) {pc : Nat} {L : List (Nat × Value)} {st : List Value} {ws : va_W} {cells slots : Nat} {x y : Int32} {off : Int} {tgt : Nat} (hd : decode cc pc = .ok (.if_icmp .eq off, 3)) (ht : (pc : Int) + off = (tgt : Int)) (kt : x = y → WY C nL tgt L st ws cells slots) (kf : ¬ x = y → WY C nL (pc + 3) L st ws cells slots) : WY C nL pc L (.int y :: .int x :: st) ws cells slots := by
  obtain ⟨p, l, e, R, s, m, args, below, meth, c, w, A, Q⟩ := C
  intro ls H locs hl hP hD hS
  exact lv_icmp_eq hc.1 hc.2.1 hd ht (fun h => kt h ls H locs hl hP hD hS) (fun h => kf h ls H locs hl hP hD hS)

theorem z_tableOut {C : QD} {own : String} {cc : ByteArray} {nL : Nat} {rm : Room} (hc : OKY C own cc nL rm) {pc : Nat} {L : List (Nat × Value)} {st : List Value} {ws : va_W} {cells slots : Nat} {x : Int32} {dflt lo hi : Int} {offs : Array Int} {len : Nat} {tgt : Nat} (hd : decode cc pc = .ok (.tableswitch dflt lo hi offs, len)) (h : x.toInt < lo ∨ hi < x.toInt) (ht : (pc : Int) + dflt = (tgt : Int)) (k : WY C nL tgt L st ws cells slots) : WY C nL pc L (.int x :: st) ws cells slots := by
  obtain ⟨p, l, e, R, s, m, args, below, meth, c, w, A, Q⟩ := C
  intro ls H locs hl hP hD hS
  exact lv_tableOut hc.1 hc.2.1 hd h ht (k ls H locs hl hP hD hS)

theorem z_tableIn {C : QD} {own : String} {cc : ByteArray} {nL : Nat} {rm : Room} (hc : OKY C own cc nL rm) {pc : Nat} {L : List (Nat × Value)} {st : List Value} {ws : va_W} {cells slots : Nat} {x : Int32} {dflt lo hi : Int} {offs : Array Int} {len : Nat} {off : Int} {tgt : Nat} (hd : decode cc pc = .ok (.tableswitch dflt lo hi offs, len)) (h1 : ¬ x.toInt < lo) (h2 : ¬ hi < x.toInt) (ho : offs[(x.toInt - lo).toNat]? = some off) (ht : (pc : Int) + off = (tgt : Int)) (k : WY C nL tgt L st ws cells slots) : WY C nL pc L (.int x :: st) ws cells slots := by
  obtain ⟨p, l, e, R, s, m, args, below, meth, c, w, A, Q⟩ := C
  intro ls H locs hl hP hD hS
  exact lv_tableIn hc.1 hc.2.1 hd h1 h2 ho ht (k ls H locs hl hP hD hS)

theorem z_idx {n : Nat} (hn : n < 512) {Ln : Nat} (hL : 4 * n + 4 ≤ Ln) (hL2 : Ln ≤ 2048) (j : Nat) (hj : j < 4) {jj : Int32} (hjj : jj = nI j) : vp_in (nI (4 * n) + jj) Ln := by
  rw [hjj, nI_add]
  exact vp_in_nI (by omega) (by omega)
theorem z_idx0 {n : Nat} (hn : n < 512) {Ln : Nat} (hL : 4 * n + 4 ≤ Ln) (hL2 : Ln ≤ 2048) : vp_in (nI (4 * n)) Ln := vp_in_nI (by omega) (by omega)
theorem z_end {n Ln : Nat} (hn : n ≤ 512) (hL2 : Ln ≤ 2048) (h : ¬ Int32.ofNat Ln - 4 < nI (4 * n)) : 4 * n + 4 ≤ Ln := by
  by_cases h4 : 4 ≤ Ln
  · have e : Int32.ofNat Ln - 4 = nI (Ln - 4) := by
      have h1 : Int32.ofNat Ln = nI (Ln - 4) + 4 := by
        rw [show (4 : Int32) = nI 4 from rfl, nI_add]
        show nI Ln = _
        congr 1
        omega
      rw [h1, Int32.add_sub_cancel]
    rw [e, nI_ltI (by omega) (by omega)] at h
    omega
  · exfalso
    apply h
    have hc : ∀ L : Nat, L < 4 → Int32.ofNat L - 4 < 0 := by decide
    have h0 : (0 : Int32) ≤ nI (4 * n) := nI_pos' (by omega)
    exact Int32.lt_of_lt_of_le (hc Ln (by omega)) h0
set_option maxRecDepth 20000 in
theorem lkl_13 : Cond.methodLink RL 13 yX8_say ∈ lw_good := q_mem 317 rfl rfl
set_option maxRecDepth 20000 in
theorem lkl_17 : Cond.methodLink RL 17 yX9_say ∈ lw_good := q_mem 928 rfl rfl
set_option maxRecDepth 20000 in
set_option maxHeartbeats 2000000 in
theorem z_case_say {C : QD} (hc : OKY C RL cL_law 4 room_1) {b Ln : Nat} {xs : Nat → Int32} (hX : OKL C b Ln xs) {adK adM : Nat → Nat} (hiK : q_inj ((d_w C).1, adK, (d_w C).2.2) SHK) (hiM : q_inj ((d_w C).1, adM, (d_w C).2.2) SHM) {n : Nat} (hn : n < 512) (hL : 4 * n + 4 ≤ Ln) (hL2 : Ln ≤ 2048) {MK MM : QM} {r : Int32} {MK2 MM2 : QM} (hK : Kn_say (xs (nI (4 * n) + (1 : Int32)).toNatClampNeg) MK = some (r, MK2)) (hM : Mo_say (xs (nI (4 * n) + (1 : Int32)).toNatClampNeg) MM = some (r, MM2)) (k : WY C 4 574 [(3, .int (nI (4 * n))), (0, .ref b), (1, .ref (adK 0)), (2, .ref (adM 0))] [] ((q_wl ((d_w C).1, adK, (d_w C).2.2) SHK MK2) ++ (q_wl ((d_w C).1, adM, (d_w C).2.2) SHM MM2)) 58 25516) : WY C 4 120 [(3, .int (nI (4 * n))), (0, .ref b), (1, .ref (adK 0)), (2, .ref (adM 0))] [] ((q_wl ((d_w C).1, adK, (d_w C).2.2) SHK MK) ++ (q_wl ((d_w C).1, adM, (d_w C).2.2) SHM MM)) 58 25516 := by
  refine y_aload_n hc dL_law_120 rfl 2 rfl ?_
  refine y_aload_n hc dL_law_121 rfl 1 rfl ?_
  refine y_iload_n hc dL_law_122 rfl 0 rfl ?_
  refine y_iconst hc dL_law_123 kc_1 ?_
  refine z_iadd hc dL_law_124 ?_
  refine z_sld hc hX (z_idx hn hL hL2 1 (by decide) rfl) dL_law_125 ?_
  refine z_callK (As := [.int (xs (nI (4 * n) + (1 : Int32)).toNatClampNeg)]) (st := []) hc dL_law_126 cv_X8_say lkl_13 adK adM hiK rfl rfl rfl (S_Kn_say hK) (by decide) (by decide) (Nat.le_of_ble_eq_true rfl) ?_
  refine y_aload_n hc dL_law_129 rfl 3 rfl ?_
  refine y_aload_n hc dL_law_130 rfl 1 rfl ?_
  refine y_iload_n hc dL_law_131 rfl 0 rfl ?_
  refine y_iconst hc dL_law_132 kc_1 ?_
  refine z_iadd hc dL_law_133 ?_
  refine z_sld hc hX (z_idx hn hL hL2 1 (by decide) rfl) dL_law_134 ?_
  refine z_callM (As := [.int (xs (nI (4 * n) + (1 : Int32)).toNatClampNeg)]) (st := [.int r]) hc dL_law_135 cv_X9_say lkl_17 adM adK hiM rfl rfl rfl (S_Mo_say hM) (by decide) (by decide) (Nat.le_of_ble_eq_true rfl) ?_
  exact z_icmp_eq (tgt := 574) hc dL_law_138 (by decide) (fun _ => k) (fun hb => absurd rfl hb)

set_option maxRecDepth 20000 in
theorem lkl_18 : Cond.methodLink RL 18 yX8_wipe ∈ lw_good := q_mem 329 rfl rfl
set_option maxRecDepth 20000 in
theorem lkl_22 : Cond.methodLink RL 22 yX9_wipe ∈ lw_good := q_mem 935 rfl rfl
set_option maxRecDepth 20000 in
set_option maxHeartbeats 2000000 in
theorem z_case_wipe {C : QD} (hc : OKY C RL cL_law 4 room_1) {b Ln : Nat} {xs : Nat → Int32} (hX : OKL C b Ln xs) {adK adM : Nat → Nat} (hiK : q_inj ((d_w C).1, adK, (d_w C).2.2) SHK) (hiM : q_inj ((d_w C).1, adM, (d_w C).2.2) SHM) {n : Nat} (hn : n < 512) (hL : 4 * n + 4 ≤ Ln) (hL2 : Ln ≤ 2048) {MK MM : QM} {r : Int32} {MK2 MM2 : QM} (hK : Kn_wipe MK = some (r, MK2)) (hM : Mo_wipe MM = some (r, MM2)) (k : WY C 4 574 [(3, .int (nI (4 * n))), (0, .ref b), (1, .ref (adK 0)), (2, .ref (adM 0))] [] ((q_wl ((d_w C).1, adK, (d_w C).2.2) SHK MK2) ++ (q_wl ((d_w C).1, adM, (d_w C).2.2) SHM MM2)) 58 25516) : WY C 4 143 [(3, .int (nI (4 * n))), (0, .ref b), (1, .ref (adK 0)), (2, .ref (adM 0))] [] ((q_wl ((d_w C).1, adK, (d_w C).2.2) SHK MK) ++ (q_wl ((d_w C).1, adM, (d_w C).2.2) SHM MM)) 58 25516 := by
  refine y_aload_n hc dL_law_143 rfl 2 rfl ?_
  refine z_callK (As := []) (st := []) hc dL_law_144 cv_X8_wipe lkl_18 adK adM hiK rfl rfl rfl (S_Kn_wipe hK) (by decide) (by decide) (Nat.le_of_ble_eq_true rfl) ?_
  refine y_aload_n hc dL_law_147 rfl 3 rfl ?_
  refine z_callM (As := []) (st := [.int r]) hc dL_law_148 cv_X9_wipe lkl_22 adM adK hiM rfl rfl rfl (S_Mo_wipe hM) (by decide) (by decide) (Nat.le_of_ble_eq_true rfl) ?_
  exact z_icmp_eq (tgt := 574) hc dL_law_151 (by decide) (fun _ => k) (fun hb => absurd rfl hb)

set_option maxRecDepth 20000 in
theorem lkl_23 : Cond.methodLink RL 23 yX8_fault ∈ lw_good := q_mem 337 rfl rfl
set_option maxRecDepth 20000 in
theorem lkl_26 : Cond.methodLink RL 26 yX9_fault ∈ lw_good := q_mem 939 rfl rfl
set_option maxRecDepth 20000 in
set_option maxHeartbeats 2000000 in
theorem z_case_fault {C : QD} (hc : OKY C RL cL_law 4 room_1) {b Ln : Nat} {xs : Nat → Int32} (hX : OKL C b Ln xs) {adK adM : Nat → Nat} (hiK : q_inj ((d_w C).1, adK, (d_w C).2.2) SHK) (hiM : q_inj ((d_w C).1, adM, (d_w C).2.2) SHM) {n : Nat} (hn : n < 512) (hL : 4 * n + 4 ≤ Ln) (hL2 : Ln ≤ 2048) {MK MM : QM} {r : Int32} {MK2 MM2 : QM} (hK : Kn_fault MK = some (r, MK2)) (hM : Mo_fault MM = some (r, MM2)) (k : WY C 4 574 [(3, .int (nI (4 * n))), (0, .ref b), (1, .ref (adK 0)), (2, .ref (adM 0))] [] ((q_wl ((d_w C).1, adK, (d_w C).2.2) SHK MK2) ++ (q_wl ((d_w C).1, adM, (d_w C).2.2) SHM MM2)) 58 25516) : WY C 4 156 [(3, .int (nI (4 * n))), (0, .ref b), (1, .ref (adK 0)), (2, .ref (adM 0))] [] ((q_wl ((d_w C).1, adK, (d_w C).2.2) SHK MK) ++ (q_wl ((d_w C).1, adM, (d_w C).2.2) SHM MM)) 58 25516 := by
  refine y_aload_n hc dL_law_156 rfl 2 rfl ?_
  refine z_callK (As := []) (st := []) hc dL_law_157 cv_X8_fault lkl_23 adK adM hiK rfl rfl rfl (S_Kn_fault hK) (by decide) (by decide) (Nat.le_of_ble_eq_true rfl) ?_
  refine y_aload_n hc dL_law_160 rfl 3 rfl ?_
  refine z_callM (As := []) (st := [.int r]) hc dL_law_161 cv_X9_fault lkl_26 adM adK hiM rfl rfl rfl (S_Mo_fault hM) (by decide) (by decide) (Nat.le_of_ble_eq_true rfl) ?_
  exact z_icmp_eq (tgt := 574) hc dL_law_164 (by decide) (fun _ => k) (fun hb => absurd rfl hb)

set_option maxRecDepth 20000 in
theorem lkl_27 : Cond.methodLink RL 27 yX8_take ∈ lw_good := q_mem 392 rfl rfl
set_option maxRecDepth 20000 in
theorem lkl_30 : Cond.methodLink RL 30 yX9_take ∈ lw_good := q_mem 955 rfl rfl
set_option maxRecDepth 20000 in
set_option maxHeartbeats 2000000 in
theorem z_case_take {C : QD} (hc : OKY C RL cL_law 4 room_1) {b Ln : Nat} {xs : Nat → Int32} (hX : OKL C b Ln xs) {adK adM : Nat → Nat} (hiK : q_inj ((d_w C).1, adK, (d_w C).2.2) SHK) (hiM : q_inj ((d_w C).1, adM, (d_w C).2.2) SHM) {n : Nat} (hn : n < 512) (hL : 4 * n + 4 ≤ Ln) (hL2 : Ln ≤ 2048) {MK MM : QM} {r : Int32} {MK2 MM2 : QM} (hK : Kn_take MK = some (r, MK2)) (hM : Mo_take MM = some (r, MM2)) (k : WY C 4 574 [(3, .int (nI (4 * n))), (0, .ref b), (1, .ref (adK 0)), (2, .ref (adM 0))] [] ((q_wl ((d_w C).1, adK, (d_w C).2.2) SHK MK2) ++ (q_wl ((d_w C).1, adM, (d_w C).2.2) SHM MM2)) 58 25516) : WY C 4 169 [(3, .int (nI (4 * n))), (0, .ref b), (1, .ref (adK 0)), (2, .ref (adM 0))] [] ((q_wl ((d_w C).1, adK, (d_w C).2.2) SHK MK) ++ (q_wl ((d_w C).1, adM, (d_w C).2.2) SHM MM)) 58 25516 := by
  refine y_aload_n hc dL_law_169 rfl 2 rfl ?_
  refine z_callK (As := []) (st := []) hc dL_law_170 cv_X8_take lkl_27 adK adM hiK rfl rfl rfl (S_Kn_take hK) (by decide) (by decide) (Nat.le_of_ble_eq_true rfl) ?_
  refine y_aload_n hc dL_law_173 rfl 3 rfl ?_
  refine z_callM (As := []) (st := [.int r]) hc dL_law_174 cv_X9_take lkl_30 adM adK hiM rfl rfl rfl (S_Mo_take hM) (by decide) (by decide) (Nat.le_of_ble_eq_true rfl) ?_
  exact z_icmp_eq (tgt := 574) hc dL_law_177 (by decide) (fun _ => k) (fun hb => absurd rfl hb)

set_option maxRecDepth 20000 in
theorem lkl_31 : Cond.methodLink RL 31 yX8_name ∈ lw_good := q_mem 437 rfl rfl
set_option maxRecDepth 20000 in
theorem lkl_34 : Cond.methodLink RL 34 yX9_name ∈ lw_good := q_mem 963 rfl rfl
set_option maxRecDepth 20000 in
set_option maxHeartbeats 2000000 in
theorem z_case_name {C : QD} (hc : OKY C RL cL_law 4 room_1) {b Ln : Nat} {xs : Nat → Int32} (hX : OKL C b Ln xs) {adK adM : Nat → Nat} (hiK : q_inj ((d_w C).1, adK, (d_w C).2.2) SHK) (hiM : q_inj ((d_w C).1, adM, (d_w C).2.2) SHM) {n : Nat} (hn : n < 512) (hL : 4 * n + 4 ≤ Ln) (hL2 : Ln ≤ 2048) {MK MM : QM} {r : Int32} (hK : Kn_name (xs (nI (4 * n) + (1 : Int32)).toNatClampNeg) MK = some r) (hM : Mo_name (xs (nI (4 * n) + (1 : Int32)).toNatClampNeg) MM = some r) (k : WY C 4 574 [(3, .int (nI (4 * n))), (0, .ref b), (1, .ref (adK 0)), (2, .ref (adM 0))] [] ((q_wl ((d_w C).1, adK, (d_w C).2.2) SHK MK) ++ (q_wl ((d_w C).1, adM, (d_w C).2.2) SHM MM)) 58 25516) : WY C 4 182 [(3, .int (nI (4 * n))), (0, .ref b), (1, .ref (adK 0)), (2, .ref (adM 0))] [] ((q_wl ((d_w C).1, adK, (d_w C).2.2) SHK MK) ++ (q_wl ((d_w C).1, adM, (d_w C).2.2) SHM MM)) 58 25516 := by
  refine y_aload_n hc dL_law_182 rfl 2 rfl ?_
  refine y_aload_n hc dL_law_183 rfl 1 rfl ?_
  refine y_iload_n hc dL_law_184 rfl 0 rfl ?_
  refine y_iconst hc dL_law_185 kc_1 ?_
  refine z_iadd hc dL_law_186 ?_
  refine z_sld hc hX (z_idx hn hL hL2 1 (by decide) rfl) dL_law_187 ?_
  refine z_callK (As := [.int (xs (nI (4 * n) + (1 : Int32)).toNatClampNeg)]) (st := []) hc dL_law_188 cv_X8_name lkl_31 adK adM hiK rfl rfl rfl (S_Kn_name hK) (by decide) (by decide) (Nat.le_of_ble_eq_true rfl) ?_
  refine y_aload_n hc dL_law_191 rfl 3 rfl ?_
  refine y_aload_n hc dL_law_192 rfl 1 rfl ?_
  refine y_iload_n hc dL_law_193 rfl 0 rfl ?_
  refine y_iconst hc dL_law_194 kc_1 ?_
  refine z_iadd hc dL_law_195 ?_
  refine z_sld hc hX (z_idx hn hL hL2 1 (by decide) rfl) dL_law_196 ?_
  refine z_callM (As := [.int (xs (nI (4 * n) + (1 : Int32)).toNatClampNeg)]) (st := [.int r]) hc dL_law_197 cv_X9_name lkl_34 adM adK hiM rfl rfl rfl (S_Mo_name hM) (by decide) (by decide) (Nat.le_of_ble_eq_true rfl) ?_
  exact z_icmp_eq (tgt := 574) hc dL_law_200 (by decide) (fun _ => k) (fun hb => absurd rfl hb)

set_option maxRecDepth 20000 in
theorem lkl_35 : Cond.methodLink RL 35 yX8_node ∈ lw_good := q_mem 442 rfl rfl
set_option maxRecDepth 20000 in
theorem lkl_39 : Cond.methodLink RL 39 yX9_node ∈ lw_good := q_mem 967 rfl rfl
set_option maxRecDepth 20000 in
set_option maxHeartbeats 2000000 in
theorem z_case_node {C : QD} (hc : OKY C RL cL_law 4 room_1) {b Ln : Nat} {xs : Nat → Int32} (hX : OKL C b Ln xs) {adK adM : Nat → Nat} (hiK : q_inj ((d_w C).1, adK, (d_w C).2.2) SHK) (hiM : q_inj ((d_w C).1, adM, (d_w C).2.2) SHM) {n : Nat} (hn : n < 512) (hL : 4 * n + 4 ≤ Ln) (hL2 : Ln ≤ 2048) {MK MM : QM} {r : Int32} (hK : Kn_node (xs (nI (4 * n) + (1 : Int32)).toNatClampNeg) (xs (nI (4 * n) + (2 : Int32)).toNatClampNeg) MK = some r) (hM : Mo_node (xs (nI (4 * n) + (1 : Int32)).toNatClampNeg) (xs (nI (4 * n) + (2 : Int32)).toNatClampNeg) MM = some r) (k : WY C 4 574 [(3, .int (nI (4 * n))), (0, .ref b), (1, .ref (adK 0)), (2, .ref (adM 0))] [] ((q_wl ((d_w C).1, adK, (d_w C).2.2) SHK MK) ++ (q_wl ((d_w C).1, adM, (d_w C).2.2) SHM MM)) 58 25516) : WY C 4 205 [(3, .int (nI (4 * n))), (0, .ref b), (1, .ref (adK 0)), (2, .ref (adM 0))] [] ((q_wl ((d_w C).1, adK, (d_w C).2.2) SHK MK) ++ (q_wl ((d_w C).1, adM, (d_w C).2.2) SHM MM)) 58 25516 := by
  refine y_aload_n hc dL_law_205 rfl 2 rfl ?_
  refine y_aload_n hc dL_law_206 rfl 1 rfl ?_
  refine y_iload_n hc dL_law_207 rfl 0 rfl ?_
  refine y_iconst hc dL_law_208 kc_1 ?_
  refine z_iadd hc dL_law_209 ?_
  refine z_sld hc hX (z_idx hn hL hL2 1 (by decide) rfl) dL_law_210 ?_
  refine y_aload_n hc dL_law_211 rfl 1 rfl ?_
  refine y_iload_n hc dL_law_212 rfl 0 rfl ?_
  refine y_iconst hc dL_law_213 kc_2 ?_
  refine z_iadd hc dL_law_214 ?_
  refine z_sld hc hX (z_idx hn hL hL2 2 (by decide) rfl) dL_law_215 ?_
  refine z_callK (As := [.int (xs (nI (4 * n) + (1 : Int32)).toNatClampNeg), .int (xs (nI (4 * n) + (2 : Int32)).toNatClampNeg)]) (st := []) hc dL_law_216 cv_X8_node lkl_35 adK adM hiK rfl rfl rfl (S_Kn_node hK) (by decide) (by decide) (Nat.le_of_ble_eq_true rfl) ?_
  refine y_aload_n hc dL_law_219 rfl 3 rfl ?_
  refine y_aload_n hc dL_law_220 rfl 1 rfl ?_
  refine y_iload_n hc dL_law_221 rfl 0 rfl ?_
  refine y_iconst hc dL_law_222 kc_1 ?_
  refine z_iadd hc dL_law_223 ?_
  refine z_sld hc hX (z_idx hn hL hL2 1 (by decide) rfl) dL_law_224 ?_
  refine y_aload_n hc dL_law_225 rfl 1 rfl ?_
  refine y_iload_n hc dL_law_226 rfl 0 rfl ?_
  refine y_iconst hc dL_law_227 kc_2 ?_
  refine z_iadd hc dL_law_228 ?_
  refine z_sld hc hX (z_idx hn hL hL2 2 (by decide) rfl) dL_law_229 ?_
  refine z_callM (As := [.int (xs (nI (4 * n) + (1 : Int32)).toNatClampNeg), .int (xs (nI (4 * n) + (2 : Int32)).toNatClampNeg)]) (st := [.int r]) hc dL_law_230 cv_X9_node lkl_39 adM adK hiM rfl rfl rfl (S_Mo_node hM) (by decide) (by decide) (Nat.le_of_ble_eq_true rfl) ?_
  exact z_icmp_eq (tgt := 574) hc dL_law_233 (by decide) (fun _ => k) (fun hb => absurd rfl hb)

set_option maxRecDepth 20000 in
theorem lkl_40 : Cond.methodLink RL 40 yX8_may ∈ lw_good := q_mem 462 rfl rfl
set_option maxRecDepth 20000 in
theorem lkl_43 : Cond.methodLink RL 43 yX9_may ∈ lw_good := q_mem 979 rfl rfl
set_option maxRecDepth 20000 in
set_option maxHeartbeats 2000000 in
theorem z_case_may {C : QD} (hc : OKY C RL cL_law 4 room_1) {b Ln : Nat} {xs : Nat → Int32} (hX : OKL C b Ln xs) {adK adM : Nat → Nat} (hiK : q_inj ((d_w C).1, adK, (d_w C).2.2) SHK) (hiM : q_inj ((d_w C).1, adM, (d_w C).2.2) SHM) {n : Nat} (hn : n < 512) (hL : 4 * n + 4 ≤ Ln) (hL2 : Ln ≤ 2048) {MK MM : QM} {r : Int32} {MK2 MM2 : QM} (hK : Kn_may (xs (nI (4 * n) + (1 : Int32)).toNatClampNeg) (xs (nI (4 * n) + (2 : Int32)).toNatClampNeg) MK = some (r, MK2)) (hM : Mo_may (xs (nI (4 * n) + (1 : Int32)).toNatClampNeg) (xs (nI (4 * n) + (2 : Int32)).toNatClampNeg) MM = some (r, MM2)) (k : WY C 4 574 [(3, .int (nI (4 * n))), (0, .ref b), (1, .ref (adK 0)), (2, .ref (adM 0))] [] ((q_wl ((d_w C).1, adK, (d_w C).2.2) SHK MK2) ++ (q_wl ((d_w C).1, adM, (d_w C).2.2) SHM MM2)) 58 25516) : WY C 4 238 [(3, .int (nI (4 * n))), (0, .ref b), (1, .ref (adK 0)), (2, .ref (adM 0))] [] ((q_wl ((d_w C).1, adK, (d_w C).2.2) SHK MK) ++ (q_wl ((d_w C).1, adM, (d_w C).2.2) SHM MM)) 58 25516 := by
  refine y_aload_n hc dL_law_238 rfl 2 rfl ?_
  refine y_aload_n hc dL_law_239 rfl 1 rfl ?_
  refine y_iload_n hc dL_law_240 rfl 0 rfl ?_
  refine y_iconst hc dL_law_241 kc_1 ?_
  refine z_iadd hc dL_law_242 ?_
  refine z_sld hc hX (z_idx hn hL hL2 1 (by decide) rfl) dL_law_243 ?_
  refine y_aload_n hc dL_law_244 rfl 1 rfl ?_
  refine y_iload_n hc dL_law_245 rfl 0 rfl ?_
  refine y_iconst hc dL_law_246 kc_2 ?_
  refine z_iadd hc dL_law_247 ?_
  refine z_sld hc hX (z_idx hn hL hL2 2 (by decide) rfl) dL_law_248 ?_
  refine z_callK (As := [.int (xs (nI (4 * n) + (1 : Int32)).toNatClampNeg), .int (xs (nI (4 * n) + (2 : Int32)).toNatClampNeg)]) (st := []) hc dL_law_249 cv_X8_may lkl_40 adK adM hiK rfl rfl rfl (S_Kn_may hK) (by decide) (by decide) (Nat.le_of_ble_eq_true rfl) ?_
  refine y_aload_n hc dL_law_252 rfl 3 rfl ?_
  refine y_aload_n hc dL_law_253 rfl 1 rfl ?_
  refine y_iload_n hc dL_law_254 rfl 0 rfl ?_
  refine y_iconst hc dL_law_255 kc_1 ?_
  refine z_iadd hc dL_law_256 ?_
  refine z_sld hc hX (z_idx hn hL hL2 1 (by decide) rfl) dL_law_257 ?_
  refine y_aload_n hc dL_law_258 rfl 1 rfl ?_
  refine y_iload_n hc dL_law_259 rfl 0 rfl ?_
  refine y_iconst hc dL_law_260 kc_2 ?_
  refine z_iadd hc dL_law_261 ?_
  refine z_sld hc hX (z_idx hn hL hL2 2 (by decide) rfl) dL_law_262 ?_
  refine z_callM (As := [.int (xs (nI (4 * n) + (1 : Int32)).toNatClampNeg), .int (xs (nI (4 * n) + (2 : Int32)).toNatClampNeg)]) (st := [.int r]) hc dL_law_263 cv_X9_may lkl_43 adM adK hiM rfl rfl rfl (S_Mo_may hM) (by decide) (by decide) (Nat.le_of_ble_eq_true rfl) ?_
  exact z_icmp_eq (tgt := 574) hc dL_law_266 (by decide) (fun _ => k) (fun hb => absurd rfl hb)

set_option maxRecDepth 20000 in
theorem lkl_44 : Cond.methodLink RL 44 yX8_way ∈ lw_good := q_mem 514 rfl rfl
set_option maxRecDepth 20000 in
theorem lkl_48 : Cond.methodLink RL 48 yX9_way ∈ lw_good := q_mem 1003 rfl rfl
set_option maxRecDepth 20000 in
set_option maxHeartbeats 2000000 in
theorem z_case_way {C : QD} (hc : OKY C RL cL_law 4 room_1) {b Ln : Nat} {xs : Nat → Int32} (hX : OKL C b Ln xs) {adK adM : Nat → Nat} (hiK : q_inj ((d_w C).1, adK, (d_w C).2.2) SHK) (hiM : q_inj ((d_w C).1, adM, (d_w C).2.2) SHM) {n : Nat} (hn : n < 512) (hL : 4 * n + 4 ≤ Ln) (hL2 : Ln ≤ 2048) {MK MM : QM} {r : Int32} {MK2 MM2 : QM} (hK : Kn_way (xs (nI (4 * n) + (1 : Int32)).toNatClampNeg) (xs (nI (4 * n) + (2 : Int32)).toNatClampNeg) (xs (nI (4 * n) + (3 : Int32)).toNatClampNeg) MK = some (r, MK2)) (hM : Mo_way (xs (nI (4 * n) + (1 : Int32)).toNatClampNeg) (xs (nI (4 * n) + (2 : Int32)).toNatClampNeg) (xs (nI (4 * n) + (3 : Int32)).toNatClampNeg) MM = some (r, MM2)) (k : WY C 4 574 [(3, .int (nI (4 * n))), (0, .ref b), (1, .ref (adK 0)), (2, .ref (adM 0))] [] ((q_wl ((d_w C).1, adK, (d_w C).2.2) SHK MK2) ++ (q_wl ((d_w C).1, adM, (d_w C).2.2) SHM MM2)) 58 25516) : WY C 4 271 [(3, .int (nI (4 * n))), (0, .ref b), (1, .ref (adK 0)), (2, .ref (adM 0))] [] ((q_wl ((d_w C).1, adK, (d_w C).2.2) SHK MK) ++ (q_wl ((d_w C).1, adM, (d_w C).2.2) SHM MM)) 58 25516 := by
  refine y_aload_n hc dL_law_271 rfl 2 rfl ?_
  refine y_aload_n hc dL_law_272 rfl 1 rfl ?_
  refine y_iload_n hc dL_law_273 rfl 0 rfl ?_
  refine y_iconst hc dL_law_274 kc_1 ?_
  refine z_iadd hc dL_law_275 ?_
  refine z_sld hc hX (z_idx hn hL hL2 1 (by decide) rfl) dL_law_276 ?_
  refine y_aload_n hc dL_law_277 rfl 1 rfl ?_
  refine y_iload_n hc dL_law_278 rfl 0 rfl ?_
  refine y_iconst hc dL_law_279 kc_2 ?_
  refine z_iadd hc dL_law_280 ?_
  refine z_sld hc hX (z_idx hn hL hL2 2 (by decide) rfl) dL_law_281 ?_
  refine y_aload_n hc dL_law_282 rfl 1 rfl ?_
  refine y_iload_n hc dL_law_283 rfl 0 rfl ?_
  refine y_iconst hc dL_law_284 kc_3 ?_
  refine z_iadd hc dL_law_285 ?_
  refine z_sld hc hX (z_idx hn hL hL2 3 (by decide) rfl) dL_law_286 ?_
  refine z_callK (As := [.int (xs (nI (4 * n) + (1 : Int32)).toNatClampNeg), .int (xs (nI (4 * n) + (2 : Int32)).toNatClampNeg), .int (xs (nI (4 * n) + (3 : Int32)).toNatClampNeg)]) (st := []) hc dL_law_287 cv_X8_way lkl_44 adK adM hiK rfl rfl rfl (S_Kn_way hK) (by decide) (by decide) (Nat.le_of_ble_eq_true rfl) ?_
  refine y_aload_n hc dL_law_290 rfl 3 rfl ?_
  refine y_aload_n hc dL_law_291 rfl 1 rfl ?_
  refine y_iload_n hc dL_law_292 rfl 0 rfl ?_
  refine y_iconst hc dL_law_293 kc_1 ?_
  refine z_iadd hc dL_law_294 ?_
  refine z_sld hc hX (z_idx hn hL hL2 1 (by decide) rfl) dL_law_295 ?_
  refine y_aload_n hc dL_law_296 rfl 1 rfl ?_
  refine y_iload_n hc dL_law_297 rfl 0 rfl ?_
  refine y_iconst hc dL_law_298 kc_2 ?_
  refine z_iadd hc dL_law_299 ?_
  refine z_sld hc hX (z_idx hn hL hL2 2 (by decide) rfl) dL_law_300 ?_
  refine y_aload_n hc dL_law_301 rfl 1 rfl ?_
  refine y_iload_n hc dL_law_302 rfl 0 rfl ?_
  refine y_iconst hc dL_law_303 kc_3 ?_
  refine z_iadd hc dL_law_304 ?_
  refine z_sld hc hX (z_idx hn hL hL2 3 (by decide) rfl) dL_law_305 ?_
  refine z_callM (As := [.int (xs (nI (4 * n) + (1 : Int32)).toNatClampNeg), .int (xs (nI (4 * n) + (2 : Int32)).toNatClampNeg), .int (xs (nI (4 * n) + (3 : Int32)).toNatClampNeg)]) (st := [.int r]) hc dL_law_306 cv_X9_way lkl_48 adM adK hiM rfl rfl rfl (S_Mo_way hM) (by decide) (by decide) (Nat.le_of_ble_eq_true rfl) ?_
  exact z_icmp_eq (tgt := 574) hc dL_law_309 (by decide) (fun _ => k) (fun hb => absurd rfl hb)

set_option maxRecDepth 20000 in
theorem lkl_49 : Cond.methodLink RL 49 yX8_end ∈ lw_good := q_mem 539 rfl rfl
set_option maxRecDepth 20000 in
theorem lkl_52 : Cond.methodLink RL 52 yX9_end ∈ lw_good := q_mem 1011 rfl rfl
set_option maxRecDepth 20000 in
set_option maxHeartbeats 2000000 in
theorem z_case_end {C : QD} (hc : OKY C RL cL_law 4 room_1) {b Ln : Nat} {xs : Nat → Int32} (hX : OKL C b Ln xs) {adK adM : Nat → Nat} (hiK : q_inj ((d_w C).1, adK, (d_w C).2.2) SHK) (hiM : q_inj ((d_w C).1, adM, (d_w C).2.2) SHM) {n : Nat} (hn : n < 512) (hL : 4 * n + 4 ≤ Ln) (hL2 : Ln ≤ 2048) {MK MM : QM} {r : Int32} {MK2 MM2 : QM} (hK : Kn_end (xs (nI (4 * n) + (1 : Int32)).toNatClampNeg) (xs (nI (4 * n) + (2 : Int32)).toNatClampNeg) MK = some (r, MK2)) (hM : Mo_end (xs (nI (4 * n) + (1 : Int32)).toNatClampNeg) (xs (nI (4 * n) + (2 : Int32)).toNatClampNeg) MM = some (r, MM2)) (k : WY C 4 574 [(3, .int (nI (4 * n))), (0, .ref b), (1, .ref (adK 0)), (2, .ref (adM 0))] [] ((q_wl ((d_w C).1, adK, (d_w C).2.2) SHK MK2) ++ (q_wl ((d_w C).1, adM, (d_w C).2.2) SHM MM2)) 58 25516) : WY C 4 314 [(3, .int (nI (4 * n))), (0, .ref b), (1, .ref (adK 0)), (2, .ref (adM 0))] [] ((q_wl ((d_w C).1, adK, (d_w C).2.2) SHK MK) ++ (q_wl ((d_w C).1, adM, (d_w C).2.2) SHM MM)) 58 25516 := by
  refine y_aload_n hc dL_law_314 rfl 2 rfl ?_
  refine y_aload_n hc dL_law_315 rfl 1 rfl ?_
  refine y_iload_n hc dL_law_316 rfl 0 rfl ?_
  refine y_iconst hc dL_law_317 kc_1 ?_
  refine z_iadd hc dL_law_318 ?_
  refine z_sld hc hX (z_idx hn hL hL2 1 (by decide) rfl) dL_law_319 ?_
  refine y_aload_n hc dL_law_320 rfl 1 rfl ?_
  refine y_iload_n hc dL_law_321 rfl 0 rfl ?_
  refine y_iconst hc dL_law_322 kc_2 ?_
  refine z_iadd hc dL_law_323 ?_
  refine z_sld hc hX (z_idx hn hL hL2 2 (by decide) rfl) dL_law_324 ?_
  refine z_callK (As := [.int (xs (nI (4 * n) + (1 : Int32)).toNatClampNeg), .int (xs (nI (4 * n) + (2 : Int32)).toNatClampNeg)]) (st := []) hc dL_law_325 cv_X8_end lkl_49 adK adM hiK rfl rfl rfl (S_Kn_end hK) (by decide) (by decide) (Nat.le_of_ble_eq_true rfl) ?_
  refine y_aload_n hc dL_law_328 rfl 3 rfl ?_
  refine y_aload_n hc dL_law_329 rfl 1 rfl ?_
  refine y_iload_n hc dL_law_330 rfl 0 rfl ?_
  refine y_iconst hc dL_law_331 kc_1 ?_
  refine z_iadd hc dL_law_332 ?_
  refine z_sld hc hX (z_idx hn hL hL2 1 (by decide) rfl) dL_law_333 ?_
  refine y_aload_n hc dL_law_334 rfl 1 rfl ?_
  refine y_iload_n hc dL_law_335 rfl 0 rfl ?_
  refine y_iconst hc dL_law_336 kc_2 ?_
  refine z_iadd hc dL_law_337 ?_
  refine z_sld hc hX (z_idx hn hL hL2 2 (by decide) rfl) dL_law_338 ?_
  refine z_callM (As := [.int (xs (nI (4 * n) + (1 : Int32)).toNatClampNeg), .int (xs (nI (4 * n) + (2 : Int32)).toNatClampNeg)]) (st := [.int r]) hc dL_law_339 cv_X9_end lkl_52 adM adK hiM rfl rfl rfl (S_Mo_end hM) (by decide) (by decide) (Nat.le_of_ble_eq_true rfl) ?_
  exact z_icmp_eq (tgt := 574) hc dL_law_342 (by decide) (fun _ => k) (fun hb => absurd rfl hb)

set_option maxRecDepth 20000 in
theorem lkl_53 : Cond.methodLink RL 53 yX8_alike ∈ lw_good := q_mem 547 rfl rfl
set_option maxRecDepth 20000 in
theorem lkl_56 : Cond.methodLink RL 56 yX9_alike ∈ lw_good := q_mem 1015 rfl rfl
set_option maxRecDepth 20000 in
set_option maxHeartbeats 2000000 in
theorem z_case_alike {C : QD} (hc : OKY C RL cL_law 4 room_1) {b Ln : Nat} {xs : Nat → Int32} (hX : OKL C b Ln xs) {adK adM : Nat → Nat} (hiK : q_inj ((d_w C).1, adK, (d_w C).2.2) SHK) (hiM : q_inj ((d_w C).1, adM, (d_w C).2.2) SHM) {n : Nat} (hn : n < 512) (hL : 4 * n + 4 ≤ Ln) (hL2 : Ln ≤ 2048) {MK MM : QM} {r : Int32} {MK2 MM2 : QM} (hK : Kn_alike (xs (nI (4 * n) + (1 : Int32)).toNatClampNeg) (xs (nI (4 * n) + (2 : Int32)).toNatClampNeg) MK = some (r, MK2)) (hM : Mo_alike (xs (nI (4 * n) + (1 : Int32)).toNatClampNeg) (xs (nI (4 * n) + (2 : Int32)).toNatClampNeg) MM = some (r, MM2)) (k : WY C 4 574 [(3, .int (nI (4 * n))), (0, .ref b), (1, .ref (adK 0)), (2, .ref (adM 0))] [] ((q_wl ((d_w C).1, adK, (d_w C).2.2) SHK MK2) ++ (q_wl ((d_w C).1, adM, (d_w C).2.2) SHM MM2)) 58 25516) : WY C 4 347 [(3, .int (nI (4 * n))), (0, .ref b), (1, .ref (adK 0)), (2, .ref (adM 0))] [] ((q_wl ((d_w C).1, adK, (d_w C).2.2) SHK MK) ++ (q_wl ((d_w C).1, adM, (d_w C).2.2) SHM MM)) 58 25516 := by
  refine y_aload_n hc dL_law_347 rfl 2 rfl ?_
  refine y_aload_n hc dL_law_348 rfl 1 rfl ?_
  refine y_iload_n hc dL_law_349 rfl 0 rfl ?_
  refine y_iconst hc dL_law_350 kc_1 ?_
  refine z_iadd hc dL_law_351 ?_
  refine z_sld hc hX (z_idx hn hL hL2 1 (by decide) rfl) dL_law_352 ?_
  refine y_aload_n hc dL_law_353 rfl 1 rfl ?_
  refine y_iload_n hc dL_law_354 rfl 0 rfl ?_
  refine y_iconst hc dL_law_355 kc_2 ?_
  refine z_iadd hc dL_law_356 ?_
  refine z_sld hc hX (z_idx hn hL hL2 2 (by decide) rfl) dL_law_357 ?_
  refine z_callK (As := [.int (xs (nI (4 * n) + (1 : Int32)).toNatClampNeg), .int (xs (nI (4 * n) + (2 : Int32)).toNatClampNeg)]) (st := []) hc dL_law_358 cv_X8_alike lkl_53 adK adM hiK rfl rfl rfl (S_Kn_alike hK) (by decide) (by decide) (Nat.le_of_ble_eq_true rfl) ?_
  refine y_aload_n hc dL_law_361 rfl 3 rfl ?_
  refine y_aload_n hc dL_law_362 rfl 1 rfl ?_
  refine y_iload_n hc dL_law_363 rfl 0 rfl ?_
  refine y_iconst hc dL_law_364 kc_1 ?_
  refine z_iadd hc dL_law_365 ?_
  refine z_sld hc hX (z_idx hn hL hL2 1 (by decide) rfl) dL_law_366 ?_
  refine y_aload_n hc dL_law_367 rfl 1 rfl ?_
  refine y_iload_n hc dL_law_368 rfl 0 rfl ?_
  refine y_iconst hc dL_law_369 kc_2 ?_
  refine z_iadd hc dL_law_370 ?_
  refine z_sld hc hX (z_idx hn hL hL2 2 (by decide) rfl) dL_law_371 ?_
  refine z_callM (As := [.int (xs (nI (4 * n) + (1 : Int32)).toNatClampNeg), .int (xs (nI (4 * n) + (2 : Int32)).toNatClampNeg)]) (st := [.int r]) hc dL_law_372 cv_X9_alike lkl_56 adM adK hiM rfl rfl rfl (S_Mo_alike hM) (by decide) (by decide) (Nat.le_of_ble_eq_true rfl) ?_
  exact z_icmp_eq (tgt := 574) hc dL_law_375 (by decide) (fun _ => k) (fun hb => absurd rfl hb)

set_option maxRecDepth 20000 in
theorem lkl_57 : Cond.methodLink RL 57 yX8_pieces ∈ lw_good := q_mem 555 rfl rfl
set_option maxRecDepth 20000 in
theorem lkl_60 : Cond.methodLink RL 60 yX9_pieces ∈ lw_good := q_mem 1023 rfl rfl
set_option maxRecDepth 20000 in
set_option maxHeartbeats 2000000 in
theorem z_case_pieces {C : QD} (hc : OKY C RL cL_law 4 room_1) {b Ln : Nat} {xs : Nat → Int32} (hX : OKL C b Ln xs) {adK adM : Nat → Nat} (hiK : q_inj ((d_w C).1, adK, (d_w C).2.2) SHK) (hiM : q_inj ((d_w C).1, adM, (d_w C).2.2) SHM) {n : Nat} (hn : n < 512) (hL : 4 * n + 4 ≤ Ln) (hL2 : Ln ≤ 2048) {MK MM : QM} {r : Int32} {MK2 MM2 : QM} (hK : Kn_pieces (xs (nI (4 * n) + (1 : Int32)).toNatClampNeg) MK = some (r, MK2)) (hM : Mo_pieces (xs (nI (4 * n) + (1 : Int32)).toNatClampNeg) MM = some (r, MM2)) (k : WY C 4 574 [(3, .int (nI (4 * n))), (0, .ref b), (1, .ref (adK 0)), (2, .ref (adM 0))] [] ((q_wl ((d_w C).1, adK, (d_w C).2.2) SHK MK2) ++ (q_wl ((d_w C).1, adM, (d_w C).2.2) SHM MM2)) 58 25516) : WY C 4 380 [(3, .int (nI (4 * n))), (0, .ref b), (1, .ref (adK 0)), (2, .ref (adM 0))] [] ((q_wl ((d_w C).1, adK, (d_w C).2.2) SHK MK) ++ (q_wl ((d_w C).1, adM, (d_w C).2.2) SHM MM)) 58 25516 := by
  refine y_aload_n hc dL_law_380 rfl 2 rfl ?_
  refine y_aload_n hc dL_law_381 rfl 1 rfl ?_
  refine y_iload_n hc dL_law_382 rfl 0 rfl ?_
  refine y_iconst hc dL_law_383 kc_1 ?_
  refine z_iadd hc dL_law_384 ?_
  refine z_sld hc hX (z_idx hn hL hL2 1 (by decide) rfl) dL_law_385 ?_
  refine z_callK (As := [.int (xs (nI (4 * n) + (1 : Int32)).toNatClampNeg)]) (st := []) hc dL_law_386 cv_X8_pieces lkl_57 adK adM hiK rfl rfl rfl (S_Kn_pieces hK) (by decide) (by decide) (Nat.le_of_ble_eq_true rfl) ?_
  refine y_aload_n hc dL_law_389 rfl 3 rfl ?_
  refine y_aload_n hc dL_law_390 rfl 1 rfl ?_
  refine y_iload_n hc dL_law_391 rfl 0 rfl ?_
  refine y_iconst hc dL_law_392 kc_1 ?_
  refine z_iadd hc dL_law_393 ?_
  refine z_sld hc hX (z_idx hn hL hL2 1 (by decide) rfl) dL_law_394 ?_
  refine z_callM (As := [.int (xs (nI (4 * n) + (1 : Int32)).toNatClampNeg)]) (st := [.int r]) hc dL_law_395 cv_X9_pieces lkl_60 adM adK hiM rfl rfl rfl (S_Mo_pieces hM) (by decide) (by decide) (Nat.le_of_ble_eq_true rfl) ?_
  exact z_icmp_eq (tgt := 574) hc dL_law_398 (by decide) (fun _ => k) (fun hb => absurd rfl hb)

set_option maxRecDepth 20000 in
theorem lkl_61 : Cond.methodLink RL 61 yX8_join ∈ lw_good := q_mem 580 rfl rfl
set_option maxRecDepth 20000 in
theorem lkl_64 : Cond.methodLink RL 64 yX9_join ∈ lw_good := q_mem 1027 rfl rfl
set_option maxRecDepth 20000 in
set_option maxHeartbeats 2000000 in
theorem z_case_join {C : QD} (hc : OKY C RL cL_law 4 room_1) {b Ln : Nat} {xs : Nat → Int32} (hX : OKL C b Ln xs) {adK adM : Nat → Nat} (hiK : q_inj ((d_w C).1, adK, (d_w C).2.2) SHK) (hiM : q_inj ((d_w C).1, adM, (d_w C).2.2) SHM) {n : Nat} (hn : n < 512) (hL : 4 * n + 4 ≤ Ln) (hL2 : Ln ≤ 2048) {MK MM : QM} {r : Int32} {MK2 MM2 : QM} (hK : Kn_join (xs (nI (4 * n) + (1 : Int32)).toNatClampNeg) (xs (nI (4 * n) + (2 : Int32)).toNatClampNeg) (xs (nI (4 * n) + (3 : Int32)).toNatClampNeg) MK = some (r, MK2)) (hM : Mo_join (xs (nI (4 * n) + (1 : Int32)).toNatClampNeg) (xs (nI (4 * n) + (2 : Int32)).toNatClampNeg) (xs (nI (4 * n) + (3 : Int32)).toNatClampNeg) MM = some (r, MM2)) (k : WY C 4 574 [(3, .int (nI (4 * n))), (0, .ref b), (1, .ref (adK 0)), (2, .ref (adM 0))] [] ((q_wl ((d_w C).1, adK, (d_w C).2.2) SHK MK2) ++ (q_wl ((d_w C).1, adM, (d_w C).2.2) SHM MM2)) 58 25516) : WY C 4 403 [(3, .int (nI (4 * n))), (0, .ref b), (1, .ref (adK 0)), (2, .ref (adM 0))] [] ((q_wl ((d_w C).1, adK, (d_w C).2.2) SHK MK) ++ (q_wl ((d_w C).1, adM, (d_w C).2.2) SHM MM)) 58 25516 := by
  refine y_aload_n hc dL_law_403 rfl 2 rfl ?_
  refine y_aload_n hc dL_law_404 rfl 1 rfl ?_
  refine y_iload_n hc dL_law_405 rfl 0 rfl ?_
  refine y_iconst hc dL_law_406 kc_1 ?_
  refine z_iadd hc dL_law_407 ?_
  refine z_sld hc hX (z_idx hn hL hL2 1 (by decide) rfl) dL_law_408 ?_
  refine y_aload_n hc dL_law_409 rfl 1 rfl ?_
  refine y_iload_n hc dL_law_410 rfl 0 rfl ?_
  refine y_iconst hc dL_law_411 kc_2 ?_
  refine z_iadd hc dL_law_412 ?_
  refine z_sld hc hX (z_idx hn hL hL2 2 (by decide) rfl) dL_law_413 ?_
  refine y_aload_n hc dL_law_414 rfl 1 rfl ?_
  refine y_iload_n hc dL_law_415 rfl 0 rfl ?_
  refine y_iconst hc dL_law_416 kc_3 ?_
  refine z_iadd hc dL_law_417 ?_
  refine z_sld hc hX (z_idx hn hL hL2 3 (by decide) rfl) dL_law_418 ?_
  refine z_callK (As := [.int (xs (nI (4 * n) + (1 : Int32)).toNatClampNeg), .int (xs (nI (4 * n) + (2 : Int32)).toNatClampNeg), .int (xs (nI (4 * n) + (3 : Int32)).toNatClampNeg)]) (st := []) hc dL_law_419 cv_X8_join lkl_61 adK adM hiK rfl rfl rfl (S_Kn_join hK) (by decide) (by decide) (Nat.le_of_ble_eq_true rfl) ?_
  refine y_aload_n hc dL_law_422 rfl 3 rfl ?_
  refine y_aload_n hc dL_law_423 rfl 1 rfl ?_
  refine y_iload_n hc dL_law_424 rfl 0 rfl ?_
  refine y_iconst hc dL_law_425 kc_1 ?_
  refine z_iadd hc dL_law_426 ?_
  refine z_sld hc hX (z_idx hn hL hL2 1 (by decide) rfl) dL_law_427 ?_
  refine y_aload_n hc dL_law_428 rfl 1 rfl ?_
  refine y_iload_n hc dL_law_429 rfl 0 rfl ?_
  refine y_iconst hc dL_law_430 kc_2 ?_
  refine z_iadd hc dL_law_431 ?_
  refine z_sld hc hX (z_idx hn hL hL2 2 (by decide) rfl) dL_law_432 ?_
  refine y_aload_n hc dL_law_433 rfl 1 rfl ?_
  refine y_iload_n hc dL_law_434 rfl 0 rfl ?_
  refine y_iconst hc dL_law_435 kc_3 ?_
  refine z_iadd hc dL_law_436 ?_
  refine z_sld hc hX (z_idx hn hL hL2 3 (by decide) rfl) dL_law_437 ?_
  refine z_callM (As := [.int (xs (nI (4 * n) + (1 : Int32)).toNatClampNeg), .int (xs (nI (4 * n) + (2 : Int32)).toNatClampNeg), .int (xs (nI (4 * n) + (3 : Int32)).toNatClampNeg)]) (st := [.int r]) hc dL_law_438 cv_X9_join lkl_64 adM adK hiM rfl rfl rfl (S_Mo_join hM) (by decide) (by decide) (Nat.le_of_ble_eq_true rfl) ?_
  exact z_icmp_eq (tgt := 574) hc dL_law_441 (by decide) (fun _ => k) (fun hb => absurd rfl hb)

set_option maxRecDepth 20000 in
theorem lkl_65 : Cond.methodLink RL 65 yX8_slip ∈ lw_good := q_mem 631 rfl rfl
set_option maxRecDepth 20000 in
theorem lkl_68 : Cond.methodLink RL 68 yX9_slip ∈ lw_good := q_mem 1043 rfl rfl
set_option maxRecDepth 20000 in
set_option maxHeartbeats 2000000 in
theorem z_case_slip {C : QD} (hc : OKY C RL cL_law 4 room_1) {b Ln : Nat} {xs : Nat → Int32} (hX : OKL C b Ln xs) {adK adM : Nat → Nat} (hiK : q_inj ((d_w C).1, adK, (d_w C).2.2) SHK) (hiM : q_inj ((d_w C).1, adM, (d_w C).2.2) SHM) {n : Nat} (hn : n < 512) (hL : 4 * n + 4 ≤ Ln) (hL2 : Ln ≤ 2048) {MK MM : QM} {r : Int32} {MK2 MM2 : QM} (hK : Kn_slip MK = some (r, MK2)) (hM : Mo_slip MM = some (r, MM2)) (k : WY C 4 574 [(3, .int (nI (4 * n))), (0, .ref b), (1, .ref (adK 0)), (2, .ref (adM 0))] [] ((q_wl ((d_w C).1, adK, (d_w C).2.2) SHK MK2) ++ (q_wl ((d_w C).1, adM, (d_w C).2.2) SHM MM2)) 58 25516) : WY C 4 446 [(3, .int (nI (4 * n))), (0, .ref b), (1, .ref (adK 0)), (2, .ref (adM 0))] [] ((q_wl ((d_w C).1, adK, (d_w C).2.2) SHK MK) ++ (q_wl ((d_w C).1, adM, (d_w C).2.2) SHM MM)) 58 25516 := by
  refine y_aload_n hc dL_law_446 rfl 2 rfl ?_
  refine z_callK (As := []) (st := []) hc dL_law_447 cv_X8_slip lkl_65 adK adM hiK rfl rfl rfl (S_Kn_slip hK) (by decide) (by decide) (Nat.le_of_ble_eq_true rfl) ?_
  refine y_aload_n hc dL_law_450 rfl 3 rfl ?_
  refine z_callM (As := []) (st := [.int r]) hc dL_law_451 cv_X9_slip lkl_68 adM adK hiM rfl rfl rfl (S_Mo_slip hM) (by decide) (by decide) (Nat.le_of_ble_eq_true rfl) ?_
  exact z_icmp_eq (tgt := 574) hc dL_law_454 (by decide) (fun _ => k) (fun hb => absurd rfl hb)

set_option maxRecDepth 20000 in
theorem lkl_69 : Cond.methodLink RL 69 yX8_fits ∈ lw_good := q_mem 699 rfl rfl
set_option maxRecDepth 20000 in
theorem lkl_72 : Cond.methodLink RL 72 yX9_fits ∈ lw_good := q_mem 1055 rfl rfl
set_option maxRecDepth 20000 in
set_option maxHeartbeats 2000000 in
theorem z_case_fits {C : QD} (hc : OKY C RL cL_law 4 room_1) {b Ln : Nat} {xs : Nat → Int32} (hX : OKL C b Ln xs) {adK adM : Nat → Nat} (hiK : q_inj ((d_w C).1, adK, (d_w C).2.2) SHK) (hiM : q_inj ((d_w C).1, adM, (d_w C).2.2) SHM) {n : Nat} (hn : n < 512) (hL : 4 * n + 4 ≤ Ln) (hL2 : Ln ≤ 2048) {MK MM : QM} {r : Int32} {MK2 MM2 : QM} (hK : Kn_fits (xs (nI (4 * n) + (1 : Int32)).toNatClampNeg) MK = some (r, MK2)) (hM : Mo_fits (xs (nI (4 * n) + (1 : Int32)).toNatClampNeg) MM = some (r, MM2)) (k : WY C 4 574 [(3, .int (nI (4 * n))), (0, .ref b), (1, .ref (adK 0)), (2, .ref (adM 0))] [] ((q_wl ((d_w C).1, adK, (d_w C).2.2) SHK MK2) ++ (q_wl ((d_w C).1, adM, (d_w C).2.2) SHM MM2)) 58 25516) : WY C 4 459 [(3, .int (nI (4 * n))), (0, .ref b), (1, .ref (adK 0)), (2, .ref (adM 0))] [] ((q_wl ((d_w C).1, adK, (d_w C).2.2) SHK MK) ++ (q_wl ((d_w C).1, adM, (d_w C).2.2) SHM MM)) 58 25516 := by
  refine y_aload_n hc dL_law_459 rfl 2 rfl ?_
  refine y_aload_n hc dL_law_460 rfl 1 rfl ?_
  refine y_iload_n hc dL_law_461 rfl 0 rfl ?_
  refine y_iconst hc dL_law_462 kc_1 ?_
  refine z_iadd hc dL_law_463 ?_
  refine z_sld hc hX (z_idx hn hL hL2 1 (by decide) rfl) dL_law_464 ?_
  refine z_callK (As := [.int (xs (nI (4 * n) + (1 : Int32)).toNatClampNeg)]) (st := []) hc dL_law_465 cv_X8_fits lkl_69 adK adM hiK rfl rfl rfl (S_Kn_fits hK) (by decide) (by decide) (Nat.le_of_ble_eq_true rfl) ?_
  refine y_aload_n hc dL_law_468 rfl 3 rfl ?_
  refine y_aload_n hc dL_law_469 rfl 1 rfl ?_
  refine y_iload_n hc dL_law_470 rfl 0 rfl ?_
  refine y_iconst hc dL_law_471 kc_1 ?_
  refine z_iadd hc dL_law_472 ?_
  refine z_sld hc hX (z_idx hn hL hL2 1 (by decide) rfl) dL_law_473 ?_
  refine z_callM (As := [.int (xs (nI (4 * n) + (1 : Int32)).toNatClampNeg)]) (st := [.int r]) hc dL_law_474 cv_X9_fits lkl_72 adM adK hiM rfl rfl rfl (S_Mo_fits hM) (by decide) (by decide) (Nat.le_of_ble_eq_true rfl) ?_
  exact z_icmp_eq (tgt := 574) hc dL_law_477 (by decide) (fun _ => k) (fun hb => absurd rfl hb)

set_option maxRecDepth 20000 in
theorem lkl_73 : Cond.methodLink RL 73 yX8_size ∈ lw_good := q_mem 707 rfl rfl
set_option maxRecDepth 20000 in
theorem lkl_76 : Cond.methodLink RL 76 yX9_size ∈ lw_good := q_mem 1051 rfl rfl
set_option maxRecDepth 20000 in
set_option maxHeartbeats 2000000 in
theorem z_case_size {C : QD} (hc : OKY C RL cL_law 4 room_1) {b Ln : Nat} {xs : Nat → Int32} (hX : OKL C b Ln xs) {adK adM : Nat → Nat} (hiK : q_inj ((d_w C).1, adK, (d_w C).2.2) SHK) (hiM : q_inj ((d_w C).1, adM, (d_w C).2.2) SHM) {n : Nat} (hn : n < 512) (hL : 4 * n + 4 ≤ Ln) (hL2 : Ln ≤ 2048) {MK MM : QM} {r : Int32} {MK2 MM2 : QM} (hK : Kn_size MK = some (r, MK2)) (hM : Mo_size MM = some (r, MM2)) (k : WY C 4 574 [(3, .int (nI (4 * n))), (0, .ref b), (1, .ref (adK 0)), (2, .ref (adM 0))] [] ((q_wl ((d_w C).1, adK, (d_w C).2.2) SHK MK2) ++ (q_wl ((d_w C).1, adM, (d_w C).2.2) SHM MM2)) 58 25516) : WY C 4 482 [(3, .int (nI (4 * n))), (0, .ref b), (1, .ref (adK 0)), (2, .ref (adM 0))] [] ((q_wl ((d_w C).1, adK, (d_w C).2.2) SHK MK) ++ (q_wl ((d_w C).1, adM, (d_w C).2.2) SHM MM)) 58 25516 := by
  refine y_aload_n hc dL_law_482 rfl 2 rfl ?_
  refine z_callK (As := []) (st := []) hc dL_law_483 cv_X8_size lkl_73 adK adM hiK rfl rfl rfl (S_Kn_size hK) (by decide) (by decide) (Nat.le_of_ble_eq_true rfl) ?_
  refine y_aload_n hc dL_law_486 rfl 3 rfl ?_
  refine z_callM (As := []) (st := [.int r]) hc dL_law_487 cv_X9_size lkl_76 adM adK hiM rfl rfl rfl (S_Mo_size hM) (by decide) (by decide) (Nat.le_of_ble_eq_true rfl) ?_
  exact z_icmp_eq (tgt := 574) hc dL_law_490 (by decide) (fun _ => k) (fun hb => absurd rfl hb)

set_option maxRecDepth 20000 in
theorem lkl_77 : Cond.methodLink RL 77 yX8_count ∈ lw_good := q_mem 715 rfl rfl
set_option maxRecDepth 20000 in
theorem lkl_80 : Cond.methodLink RL 80 yX9_count ∈ lw_good := q_mem 1067 rfl rfl
set_option maxRecDepth 20000 in
set_option maxHeartbeats 2000000 in
theorem z_case_count {C : QD} (hc : OKY C RL cL_law 4 room_1) {b Ln : Nat} {xs : Nat → Int32} (hX : OKL C b Ln xs) {adK adM : Nat → Nat} (hiK : q_inj ((d_w C).1, adK, (d_w C).2.2) SHK) (hiM : q_inj ((d_w C).1, adM, (d_w C).2.2) SHM) {n : Nat} (hn : n < 512) (hL : 4 * n + 4 ≤ Ln) (hL2 : Ln ≤ 2048) {MK MM : QM} {r : Int32} {MK2 MM2 : QM} (hK : Kn_count (xs (nI (4 * n) + (1 : Int32)).toNatClampNeg) (xs (nI (4 * n) + (2 : Int32)).toNatClampNeg) MK = some (r, MK2)) (hM : Mo_count (xs (nI (4 * n) + (1 : Int32)).toNatClampNeg) (xs (nI (4 * n) + (2 : Int32)).toNatClampNeg) MM = some (r, MM2)) (k : WY C 4 574 [(3, .int (nI (4 * n))), (0, .ref b), (1, .ref (adK 0)), (2, .ref (adM 0))] [] ((q_wl ((d_w C).1, adK, (d_w C).2.2) SHK MK2) ++ (q_wl ((d_w C).1, adM, (d_w C).2.2) SHM MM2)) 58 25516) : WY C 4 495 [(3, .int (nI (4 * n))), (0, .ref b), (1, .ref (adK 0)), (2, .ref (adM 0))] [] ((q_wl ((d_w C).1, adK, (d_w C).2.2) SHK MK) ++ (q_wl ((d_w C).1, adM, (d_w C).2.2) SHM MM)) 58 25516 := by
  refine y_aload_n hc dL_law_495 rfl 2 rfl ?_
  refine y_aload_n hc dL_law_496 rfl 1 rfl ?_
  refine y_iload_n hc dL_law_497 rfl 0 rfl ?_
  refine y_iconst hc dL_law_498 kc_1 ?_
  refine z_iadd hc dL_law_499 ?_
  refine z_sld hc hX (z_idx hn hL hL2 1 (by decide) rfl) dL_law_500 ?_
  refine y_aload_n hc dL_law_501 rfl 1 rfl ?_
  refine y_iload_n hc dL_law_502 rfl 0 rfl ?_
  refine y_iconst hc dL_law_503 kc_2 ?_
  refine z_iadd hc dL_law_504 ?_
  refine z_sld hc hX (z_idx hn hL hL2 2 (by decide) rfl) dL_law_505 ?_
  refine z_callK (As := [.int (xs (nI (4 * n) + (1 : Int32)).toNatClampNeg), .int (xs (nI (4 * n) + (2 : Int32)).toNatClampNeg)]) (st := []) hc dL_law_506 cv_X8_count lkl_77 adK adM hiK rfl rfl rfl (S_Kn_count hK) (by decide) (by decide) (Nat.le_of_ble_eq_true rfl) ?_
  refine y_aload_n hc dL_law_509 rfl 3 rfl ?_
  refine y_aload_n hc dL_law_510 rfl 1 rfl ?_
  refine y_iload_n hc dL_law_511 rfl 0 rfl ?_
  refine y_iconst hc dL_law_512 kc_1 ?_
  refine z_iadd hc dL_law_513 ?_
  refine z_sld hc hX (z_idx hn hL hL2 1 (by decide) rfl) dL_law_514 ?_
  refine y_aload_n hc dL_law_515 rfl 1 rfl ?_
  refine y_iload_n hc dL_law_516 rfl 0 rfl ?_
  refine y_iconst hc dL_law_517 kc_2 ?_
  refine z_iadd hc dL_law_518 ?_
  refine z_sld hc hX (z_idx hn hL hL2 2 (by decide) rfl) dL_law_519 ?_
  refine z_callM (As := [.int (xs (nI (4 * n) + (1 : Int32)).toNatClampNeg), .int (xs (nI (4 * n) + (2 : Int32)).toNatClampNeg)]) (st := [.int r]) hc dL_law_520 cv_X9_count lkl_80 adM adK hiM rfl rfl rfl (S_Mo_count hM) (by decide) (by decide) (Nat.le_of_ble_eq_true rfl) ?_
  exact z_icmp_eq (tgt := 574) hc dL_law_523 (by decide) (fun _ => k) (fun hb => absurd rfl hb)

set_option maxRecDepth 20000 in
theorem lkl_81 : Cond.methodLink RL 81 yX8_least ∈ lw_good := q_mem 765 rfl rfl
set_option maxRecDepth 20000 in
theorem lkl_84 : Cond.methodLink RL 84 yX9_least ∈ lw_good := q_mem 1090 rfl rfl
set_option maxRecDepth 20000 in
set_option maxHeartbeats 2000000 in
theorem z_case_least {C : QD} (hc : OKY C RL cL_law 4 room_1) {b Ln : Nat} {xs : Nat → Int32} (hX : OKL C b Ln xs) {adK adM : Nat → Nat} (hiK : q_inj ((d_w C).1, adK, (d_w C).2.2) SHK) (hiM : q_inj ((d_w C).1, adM, (d_w C).2.2) SHM) {n : Nat} (hn : n < 512) (hL : 4 * n + 4 ≤ Ln) (hL2 : Ln ≤ 2048) {MK MM : QM} {r : Int32} {MK2 MM2 : QM} (hK : Kn_least (xs (nI (4 * n) + (1 : Int32)).toNatClampNeg) MK = some (r, MK2)) (hM : Mo_least (xs (nI (4 * n) + (1 : Int32)).toNatClampNeg) MM = some (r, MM2)) (k : WY C 4 574 [(3, .int (nI (4 * n))), (0, .ref b), (1, .ref (adK 0)), (2, .ref (adM 0))] [] ((q_wl ((d_w C).1, adK, (d_w C).2.2) SHK MK2) ++ (q_wl ((d_w C).1, adM, (d_w C).2.2) SHM MM2)) 58 25516) : WY C 4 528 [(3, .int (nI (4 * n))), (0, .ref b), (1, .ref (adK 0)), (2, .ref (adM 0))] [] ((q_wl ((d_w C).1, adK, (d_w C).2.2) SHK MK) ++ (q_wl ((d_w C).1, adM, (d_w C).2.2) SHM MM)) 58 25516 := by
  refine y_aload_n hc dL_law_528 rfl 2 rfl ?_
  refine y_aload_n hc dL_law_529 rfl 1 rfl ?_
  refine y_iload_n hc dL_law_530 rfl 0 rfl ?_
  refine y_iconst hc dL_law_531 kc_1 ?_
  refine z_iadd hc dL_law_532 ?_
  refine z_sld hc hX (z_idx hn hL hL2 1 (by decide) rfl) dL_law_533 ?_
  refine z_callK (As := [.int (xs (nI (4 * n) + (1 : Int32)).toNatClampNeg)]) (st := []) hc dL_law_534 cv_X8_least lkl_81 adK adM hiK rfl rfl rfl (S_Kn_least hK) (by decide) (by decide) (Nat.le_of_ble_eq_true rfl) ?_
  refine y_aload_n hc dL_law_537 rfl 3 rfl ?_
  refine y_aload_n hc dL_law_538 rfl 1 rfl ?_
  refine y_iload_n hc dL_law_539 rfl 0 rfl ?_
  refine y_iconst hc dL_law_540 kc_1 ?_
  refine z_iadd hc dL_law_541 ?_
  refine z_sld hc hX (z_idx hn hL hL2 1 (by decide) rfl) dL_law_542 ?_
  refine z_callM (As := [.int (xs (nI (4 * n) + (1 : Int32)).toNatClampNeg)]) (st := [.int r]) hc dL_law_543 cv_X9_least lkl_84 adM adK hiM rfl rfl rfl (S_Mo_least hM) (by decide) (by decide) (Nat.le_of_ble_eq_true rfl) ?_
  exact z_icmp_eq (tgt := 574) hc dL_law_546 (by decide) (fun _ => k) (fun hb => absurd rfl hb)

set_option maxRecDepth 20000 in
theorem lkl_85 : Cond.methodLink RL 85 yX8_told ∈ lw_good := q_mem 801 rfl rfl
set_option maxRecDepth 20000 in
theorem lkl_88 : Cond.methodLink RL 88 yX9_told ∈ lw_good := q_mem 1098 rfl rfl
set_option maxRecDepth 20000 in
set_option maxHeartbeats 2000000 in
theorem z_case_told {C : QD} (hc : OKY C RL cL_law 4 room_1) {b Ln : Nat} {xs : Nat → Int32} (hX : OKL C b Ln xs) {adK adM : Nat → Nat} (hiK : q_inj ((d_w C).1, adK, (d_w C).2.2) SHK) (hiM : q_inj ((d_w C).1, adM, (d_w C).2.2) SHM) {n : Nat} (hn : n < 512) (hL : 4 * n + 4 ≤ Ln) (hL2 : Ln ≤ 2048) {MK MM : QM} {r : Int32} {MK2 MM2 : QM} (hK : Kn_told (xs (nI (4 * n) + (1 : Int32)).toNatClampNeg) MK = some (r, MK2)) (hM : Mo_told (xs (nI (4 * n) + (1 : Int32)).toNatClampNeg) MM = some (r, MM2)) (k : WY C 4 574 [(3, .int (nI (4 * n))), (0, .ref b), (1, .ref (adK 0)), (2, .ref (adM 0))] [] ((q_wl ((d_w C).1, adK, (d_w C).2.2) SHK MK2) ++ (q_wl ((d_w C).1, adM, (d_w C).2.2) SHM MM2)) 58 25516) : WY C 4 551 [(3, .int (nI (4 * n))), (0, .ref b), (1, .ref (adK 0)), (2, .ref (adM 0))] [] ((q_wl ((d_w C).1, adK, (d_w C).2.2) SHK MK) ++ (q_wl ((d_w C).1, adM, (d_w C).2.2) SHM MM)) 58 25516 := by
  refine y_aload_n hc dL_law_551 rfl 2 rfl ?_
  refine y_aload_n hc dL_law_552 rfl 1 rfl ?_
  refine y_iload_n hc dL_law_553 rfl 0 rfl ?_
  refine y_iconst hc dL_law_554 kc_1 ?_
  refine z_iadd hc dL_law_555 ?_
  refine z_sld hc hX (z_idx hn hL hL2 1 (by decide) rfl) dL_law_556 ?_
  refine z_callK (As := [.int (xs (nI (4 * n) + (1 : Int32)).toNatClampNeg)]) (st := []) hc dL_law_557 cv_X8_told lkl_85 adK adM hiK rfl rfl rfl (S_Kn_told hK) (by decide) (by decide) (Nat.le_of_ble_eq_true rfl) ?_
  refine y_aload_n hc dL_law_560 rfl 3 rfl ?_
  refine y_aload_n hc dL_law_561 rfl 1 rfl ?_
  refine y_iload_n hc dL_law_562 rfl 0 rfl ?_
  refine y_iconst hc dL_law_563 kc_1 ?_
  refine z_iadd hc dL_law_564 ?_
  refine z_sld hc hX (z_idx hn hL hL2 1 (by decide) rfl) dL_law_565 ?_
  refine z_callM (As := [.int (xs (nI (4 * n) + (1 : Int32)).toNatClampNeg)]) (st := [.int r]) hc dL_law_566 cv_X9_told lkl_88 adM adK hiM rfl rfl rfl (S_Mo_told hM) (by decide) (by decide) (Nat.le_of_ble_eq_true rfl) ?_
  exact z_icmp_eq (tgt := 574) hc dL_law_569 (by decide) (fun _ => k) (fun hb => absurd rfl hb)

theorem z_int (x : Int32) (h : ¬ (x.toInt < 0 ∨ 17 < x.toInt)) : x = 0 ∨ x = 1 ∨ x = 2 ∨ x = 3 ∨ x = 4 ∨ x = 5 ∨ x = 6 ∨ x = 7 ∨ x = 8 ∨ x = 9 ∨ x = 10 ∨ x = 11 ∨ x = 12 ∨ x = 13 ∨ x = 14 ∨ x = 15 ∨ x = 16 ∨ x = 17 := by
  have e : ∀ k : Int32, x.toInt = k.toInt → x = k := fun k hk => Int32.toInt_inj.mp hk
  have h1 : x.toInt = 0 ∨ x.toInt = 1 ∨ x.toInt = 2 ∨ x.toInt = 3 ∨ x.toInt = 4 ∨ x.toInt = 5 ∨ x.toInt = 6 ∨ x.toInt = 7 ∨ x.toInt = 8 ∨ x.toInt = 9 ∨ x.toInt = 10 ∨ x.toInt = 11 ∨ x.toInt = 12 ∨ x.toInt = 13 ∨ x.toInt = 14 ∨ x.toInt = 15 ∨ x.toInt = 16 ∨ x.toInt = 17 := by omega
  rcases h1 with h | h | h | h | h | h | h | h | h | h | h | h | h | h | h | h | h | h
  · exact Or.inl (e _ h)
  · exact Or.inr (Or.inl (e _ h))
  · exact Or.inr (Or.inr (Or.inl (e _ h)))
  · exact Or.inr (Or.inr (Or.inr (Or.inl (e _ h))))
  · exact Or.inr (Or.inr (Or.inr (Or.inr (Or.inl (e _ h)))))
  · exact Or.inr (Or.inr (Or.inr (Or.inr (Or.inr (Or.inl (e _ h))))))
  · exact Or.inr (Or.inr (Or.inr (Or.inr (Or.inr (Or.inr (Or.inl (e _ h)))))))
  · exact Or.inr (Or.inr (Or.inr (Or.inr (Or.inr (Or.inr (Or.inr (Or.inl (e _ h))))))))
  · exact Or.inr (Or.inr (Or.inr (Or.inr (Or.inr (Or.inr (Or.inr (Or.inr (Or.inl (e _ h)))))))))
  · exact Or.inr (Or.inr (Or.inr (Or.inr (Or.inr (Or.inr (Or.inr (Or.inr (Or.inr (Or.inl (e _ h))))))))))
  · exact Or.inr (Or.inr (Or.inr (Or.inr (Or.inr (Or.inr (Or.inr (Or.inr (Or.inr (Or.inr (Or.inl (e _ h)))))))))))
  · exact Or.inr (Or.inr (Or.inr (Or.inr (Or.inr (Or.inr (Or.inr (Or.inr (Or.inr (Or.inr (Or.inr (Or.inl (e _ h))))))))))))
  · exact Or.inr (Or.inr (Or.inr (Or.inr (Or.inr (Or.inr (Or.inr (Or.inr (Or.inr (Or.inr (Or.inr (Or.inr (Or.inl (e _ h)))))))))))))
  · exact Or.inr (Or.inr (Or.inr (Or.inr (Or.inr (Or.inr (Or.inr (Or.inr (Or.inr (Or.inr (Or.inr (Or.inr (Or.inr (Or.inl (e _ h))))))))))))))
  · exact Or.inr (Or.inr (Or.inr (Or.inr (Or.inr (Or.inr (Or.inr (Or.inr (Or.inr (Or.inr (Or.inr (Or.inr (Or.inr (Or.inr (Or.inl (e _ h)))))))))))))))
  · exact Or.inr (Or.inr (Or.inr (Or.inr (Or.inr (Or.inr (Or.inr (Or.inr (Or.inr (Or.inr (Or.inr (Or.inr (Or.inr (Or.inr (Or.inr (Or.inl (e _ h))))))))))))))))
  · exact Or.inr (Or.inr (Or.inr (Or.inr (Or.inr (Or.inr (Or.inr (Or.inr (Or.inr (Or.inr (Or.inr (Or.inr (Or.inr (Or.inr (Or.inr (Or.inr (Or.inl (e _ h)))))))))))))))))
  · exact Or.inr (Or.inr (Or.inr (Or.inr (Or.inr (Or.inr (Or.inr (Or.inr (Or.inr (Or.inr (Or.inr (Or.inr (Or.inr (Or.inr (Or.inr (Or.inr (Or.inr (e _ h)))))))))))))))))

set_option maxRecDepth 20000 in
set_option maxHeartbeats 4000000 in
theorem z_loop {Rel : Nat → QM → QM → Prop} (hs : Stq Rel) {C : QD} (hc : OKY C RL cL_law 4 room_1) {b Ln : Nat} {xs : Nat → Int32} (hX : OKL C b Ln xs) {adK adM : Nat → Nat} (hiK : q_inj ((d_w C).1, adK, (d_w C).2.2) SHK) (hiM : q_inj ((d_w C).1, adM, (d_w C).2.2) SHM) (hL2 : Ln ≤ 2048)
    (hend : ∀ (L : List (Nat × Value)) (ws : va_W), WY C 4 580 L [] ws 58 25516) : ∀ (k n : Nat) (MK MM : QM), n + k = 512 → Rel n MK MM → WY C 4 18 [(3, .int (nI (4 * n))), (0, .ref b), (1, .ref (adK 0)), (2, .ref (adM 0))] [] ((q_wl ((d_w C).1, adK, (d_w C).2.2) SHK MK) ++ (q_wl ((d_w C).1, adM, (d_w C).2.2) SHM MM)) 58 25516 := by
  intro k
  induction k with
  | zero =>
    intro n MK MM hk hR
    refine y_iload_n hc dL_law_18 rfl 0 rfl ?_
    refine y_aload_n hc dL_law_19 rfl 1 rfl ?_
    refine z_slen hc hX dL_law_20 ?_
    refine y_iconst hc dL_law_21 kc_4 ?_
    refine z_isub hc dL_law_22 ?_
    refine z_icmp_gt (tgt := 580) hc dL_law_23 (by decide) (fun _ => hend _ _) (fun hb => ?_)
    have := z_end (by omega) hL2 hb
    omega
  | succ k ih =>
    intro n MK MM hk hR
    have hn : n < 512 := by omega
    obtain ⟨hstay, s_say, s_wipe, s_fault, s_take, s_name, s_node, s_may, s_way, s_end, s_alike, s_pieces, s_join, s_slip, s_fits, s_size, s_count, s_least, s_told⟩ := id hs
    refine y_iload_n hc dL_law_18 rfl 0 rfl ?_
    refine y_aload_n hc dL_law_19 rfl 1 rfl ?_
    refine z_slen hc hX dL_law_20 ?_
    refine y_iconst hc dL_law_21 kc_4 ?_
    refine z_isub hc dL_law_22 ?_
    refine z_icmp_gt (tgt := 580) hc dL_law_23 (by decide) (fun _ => hend _ _) (fun hb => ?_)
    have hL := z_end (by omega) hL2 hb
    have nxt : ∀ MK2 MM2, Rel (n + 1) MK2 MM2 → WY C 4 574 [(3, .int (nI (4 * n))), (0, .ref b), (1, .ref (adK 0)), (2, .ref (adM 0))] [] ((q_wl ((d_w C).1, adK, (d_w C).2.2) SHK MK2) ++ (q_wl ((d_w C).1, adM, (d_w C).2.2) SHM MM2)) 58 25516 := by
      intro MK2 MM2 hR2
      refine y_iinc (v := nI (4 * (n + 1))) (L2 := [(3, .int (nI (4 * (n + 1)))), (0, .ref b), (1, .ref (adK 0)), (2, .ref (adM 0))]) hc dL_law_574 0 rfl (by rw [show (Int32.ofInt 4) = nI 4 from rfl, nI_add]; rfl) (by decide) rfl ?_
      refine y_goto (tgt := 18) hc dL_law_577 (by decide) ?_
      exact ih (n + 1) MK2 MM2 (by omega) hR2
    refine y_aload_n hc dL_law_26 rfl 1 rfl ?_
    refine y_iload_n hc dL_law_27 rfl 0 rfl ?_
    refine z_sld hc hX (z_idx0 hn hL hL2) dL_law_28 ?_
    refine y_bipush hc dL_law_29 kb_31 ?_
    refine z_iand hc dL_law_31 ?_
    generalize xs (nI (4 * n)).toNatClampNeg &&& 31 = sel
    by_cases hsel : sel.toInt < 0 ∨ 17 < sel.toInt
    · refine z_tableOut (tgt := 574) hc dL_law_32 hsel (by decide) ?_
      exact nxt MK MM (hstay n MK MM hn hR)
    · rcases z_int sel hsel with rfl | rfl | rfl | rfl | rfl | rfl | rfl | rfl | rfl | rfl | rfl | rfl | rfl | rfl | rfl | rfl | rfl | rfl
      · refine z_tableIn (off := 88) (tgt := 120) hc dL_law_32 (by decide) (by decide) rfl (by decide) ?_
        obtain ⟨r, MK2, MM2, h1, h2, h3⟩ := s_say n MK MM hn hR (xs (nI (4 * n) + (1 : Int32)).toNatClampNeg)
        exact z_case_say hc hX hiK hiM hn hL hL2 h1 h2 (nxt MK2 MM2 h3)
      · refine z_tableIn (off := 111) (tgt := 143) hc dL_law_32 (by decide) (by decide) rfl (by decide) ?_
        obtain ⟨r, MK2, MM2, h1, h2, h3⟩ := s_wipe n MK MM hn hR
        exact z_case_wipe hc hX hiK hiM hn hL hL2 h1 h2 (nxt MK2 MM2 h3)
      · refine z_tableIn (off := 124) (tgt := 156) hc dL_law_32 (by decide) (by decide) rfl (by decide) ?_
        obtain ⟨r, MK2, MM2, h1, h2, h3⟩ := s_fault n MK MM hn hR
        exact z_case_fault hc hX hiK hiM hn hL hL2 h1 h2 (nxt MK2 MM2 h3)
      · refine z_tableIn (off := 137) (tgt := 169) hc dL_law_32 (by decide) (by decide) rfl (by decide) ?_
        obtain ⟨r, MK2, MM2, h1, h2, h3⟩ := s_take n MK MM hn hR
        exact z_case_take hc hX hiK hiM hn hL hL2 h1 h2 (nxt MK2 MM2 h3)
      · refine z_tableIn (off := 150) (tgt := 182) hc dL_law_32 (by decide) (by decide) rfl (by decide) ?_
        obtain ⟨r, h1, h2⟩ := s_name n MK MM hn hR (xs (nI (4 * n) + (1 : Int32)).toNatClampNeg)
        exact z_case_name hc hX hiK hiM hn hL hL2 h1 h2 (nxt MK MM (hstay n MK MM hn hR))
      · refine z_tableIn (off := 173) (tgt := 205) hc dL_law_32 (by decide) (by decide) rfl (by decide) ?_
        obtain ⟨r, h1, h2⟩ := s_node n MK MM hn hR (xs (nI (4 * n) + (1 : Int32)).toNatClampNeg) (xs (nI (4 * n) + (2 : Int32)).toNatClampNeg)
        exact z_case_node hc hX hiK hiM hn hL hL2 h1 h2 (nxt MK MM (hstay n MK MM hn hR))
      · refine z_tableIn (off := 206) (tgt := 238) hc dL_law_32 (by decide) (by decide) rfl (by decide) ?_
        obtain ⟨r, MK2, MM2, h1, h2, h3⟩ := s_may n MK MM hn hR (xs (nI (4 * n) + (1 : Int32)).toNatClampNeg) (xs (nI (4 * n) + (2 : Int32)).toNatClampNeg)
        exact z_case_may hc hX hiK hiM hn hL hL2 h1 h2 (nxt MK2 MM2 h3)
      · refine z_tableIn (off := 239) (tgt := 271) hc dL_law_32 (by decide) (by decide) rfl (by decide) ?_
        obtain ⟨r, MK2, MM2, h1, h2, h3⟩ := s_way n MK MM hn hR (xs (nI (4 * n) + (1 : Int32)).toNatClampNeg) (xs (nI (4 * n) + (2 : Int32)).toNatClampNeg) (xs (nI (4 * n) + (3 : Int32)).toNatClampNeg)
        exact z_case_way hc hX hiK hiM hn hL hL2 h1 h2 (nxt MK2 MM2 h3)
      · refine z_tableIn (off := 282) (tgt := 314) hc dL_law_32 (by decide) (by decide) rfl (by decide) ?_
        obtain ⟨r, MK2, MM2, h1, h2, h3⟩ := s_end n MK MM hn hR (xs (nI (4 * n) + (1 : Int32)).toNatClampNeg) (xs (nI (4 * n) + (2 : Int32)).toNatClampNeg)
        exact z_case_end hc hX hiK hiM hn hL hL2 h1 h2 (nxt MK2 MM2 h3)
      · refine z_tableIn (off := 315) (tgt := 347) hc dL_law_32 (by decide) (by decide) rfl (by decide) ?_
        obtain ⟨r, MK2, MM2, h1, h2, h3⟩ := s_alike n MK MM hn hR (xs (nI (4 * n) + (1 : Int32)).toNatClampNeg) (xs (nI (4 * n) + (2 : Int32)).toNatClampNeg)
        exact z_case_alike hc hX hiK hiM hn hL hL2 h1 h2 (nxt MK2 MM2 h3)
      · refine z_tableIn (off := 348) (tgt := 380) hc dL_law_32 (by decide) (by decide) rfl (by decide) ?_
        obtain ⟨r, MK2, MM2, h1, h2, h3⟩ := s_pieces n MK MM hn hR (xs (nI (4 * n) + (1 : Int32)).toNatClampNeg)
        exact z_case_pieces hc hX hiK hiM hn hL hL2 h1 h2 (nxt MK2 MM2 h3)
      · refine z_tableIn (off := 371) (tgt := 403) hc dL_law_32 (by decide) (by decide) rfl (by decide) ?_
        obtain ⟨r, MK2, MM2, h1, h2, h3⟩ := s_join n MK MM hn hR (xs (nI (4 * n) + (1 : Int32)).toNatClampNeg) (xs (nI (4 * n) + (2 : Int32)).toNatClampNeg) (xs (nI (4 * n) + (3 : Int32)).toNatClampNeg)
        exact z_case_join hc hX hiK hiM hn hL hL2 h1 h2 (nxt MK2 MM2 h3)
      · refine z_tableIn (off := 414) (tgt := 446) hc dL_law_32 (by decide) (by decide) rfl (by decide) ?_
        obtain ⟨r, MK2, MM2, h1, h2, h3⟩ := s_slip n MK MM hn hR
        exact z_case_slip hc hX hiK hiM hn hL hL2 h1 h2 (nxt MK2 MM2 h3)
      · refine z_tableIn (off := 427) (tgt := 459) hc dL_law_32 (by decide) (by decide) rfl (by decide) ?_
        obtain ⟨r, MK2, MM2, h1, h2, h3⟩ := s_fits n MK MM hn hR (xs (nI (4 * n) + (1 : Int32)).toNatClampNeg)
        exact z_case_fits hc hX hiK hiM hn hL hL2 h1 h2 (nxt MK2 MM2 h3)
      · refine z_tableIn (off := 450) (tgt := 482) hc dL_law_32 (by decide) (by decide) rfl (by decide) ?_
        obtain ⟨r, MK2, MM2, h1, h2, h3⟩ := s_size n MK MM hn hR
        exact z_case_size hc hX hiK hiM hn hL hL2 h1 h2 (nxt MK2 MM2 h3)
      · refine z_tableIn (off := 463) (tgt := 495) hc dL_law_32 (by decide) (by decide) rfl (by decide) ?_
        obtain ⟨r, MK2, MM2, h1, h2, h3⟩ := s_count n MK MM hn hR (xs (nI (4 * n) + (1 : Int32)).toNatClampNeg) (xs (nI (4 * n) + (2 : Int32)).toNatClampNeg)
        exact z_case_count hc hX hiK hiM hn hL hL2 h1 h2 (nxt MK2 MM2 h3)
      · refine z_tableIn (off := 496) (tgt := 528) hc dL_law_32 (by decide) (by decide) rfl (by decide) ?_
        obtain ⟨r, MK2, MM2, h1, h2, h3⟩ := s_least n MK MM hn hR (xs (nI (4 * n) + (1 : Int32)).toNatClampNeg)
        exact z_case_least hc hX hiK hiM hn hL hL2 h1 h2 (nxt MK2 MM2 h3)
      · refine z_tableIn (off := 519) (tgt := 551) hc dL_law_32 (by decide) (by decide) rfl (by decide) ?_
        obtain ⟨r, MK2, MM2, h1, h2, h3⟩ := s_told n MK MM hn hR (xs (nI (4 * n) + (1 : Int32)).toNatClampNeg)
        exact z_case_told hc hX hiK hiM hn hL hL2 h1 h2 (nxt MK2 MM2 h3)

