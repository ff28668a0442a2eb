theorem dX9_shape_137 : decode cX9_shape 137 = .ok (.iaload, 1) := by decide +kernel
theorem dX9_shape_138 : decode cX9_shape 138 = .ok (.aload_n 0, 1) := by decide +kernel
theorem dX9_shape_139 : decode cX9_shape 139 = .ok (.getfield 16, 3) := by decide +kernel
theorem dX9_shape_142 : decode cX9_shape 142 = .ok (.bipush 8, 2) := by decide +kernel
theorem dX9_shape_144 : decode cX9_shape 144 = .ok (.iload_n 2, 1) := by decide +kernel
theorem dX9_shape_145 : decode cX9_shape 145 = .ok (.imul, 1) := by decide +kernel
theorem dX9_shape_146 : decode cX9_shape 146 = .ok (.iaload, 1) := by decide +kernel
theorem dX9_shape_147 : decode cX9_shape 147 = .ok (.iload_n 3, 1) := by decide +kernel
theorem dX9_shape_148 : decode cX9_shape 148 = .ok (.bipush 8, 2) := by decide +kernel
theorem dX9_shape_150 : decode cX9_shape 150 = .ok (.iload 4, 2) := by decide +kernel
theorem dX9_shape_152 : decode cX9_shape 152 = .ok (.imul, 1) := by decide +kernel
theorem dX9_shape_153 : decode cX9_shape 153 = .ok (.invokevirtual 160, 3) := by decide +kernel
theorem dX9_shape_156 : decode cX9_shape 156 = .ok (.goto 216, 3) := by decide +kernel
theorem dX9_shape_159 : decode cX9_shape 159 = .ok (.iload 5, 2) := by decide +kernel
theorem dX9_shape_161 : decode cX9_shape 161 = .ok (.bipush 62, 2) := by decide +kernel
theorem dX9_shape_163 : decode cX9_shape 163 = .ok (.if_icmp .ne 70, 3) := by decide +kernel
theorem dX9_shape_166 : decode cX9_shape 166 = .ok (.aload_n 0, 1) := by decide +kernel
theorem dX9_shape_167 : decode cX9_shape 167 = .ok (.aload_n 0, 1) := by decide +kernel
theorem dX9_shape_168 : decode cX9_shape 168 = .ok (.getfield 16, 3) := by decide +kernel
theorem dX9_shape_171 : decode cX9_shape 171 = .ok (.bipush 8, 2) := by decide +kernel
theorem dX9_shape_173 : decode cX9_shape 173 = .ok (.iload_n 1, 1) := by decide +kernel
theorem dX9_shape_174 : decode cX9_shape 174 = .ok (.imul, 1) := by decide +kernel
theorem dX9_shape_175 : decode cX9_shape 175 = .ok (.iconst 1, 1) := by decide +kernel
theorem dX9_shape_176 : decode cX9_shape 176 = .ok (.iadd, 1) := by decide +kernel
theorem dX9_shape_177 : decode cX9_shape 177 = .ok (.iaload, 1) := by decide +kernel
theorem dX9_shape_178 : decode cX9_shape 178 = .ok (.aload_n 0, 1) := by decide +kernel
theorem dX9_shape_179 : decode cX9_shape 179 = .ok (.getfield 16, 3) := by decide +kernel
theorem dX9_shape_182 : decode cX9_shape 182 = .ok (.bipush 8, 2) := by decide +kernel
theorem dX9_shape_184 : decode cX9_shape 184 = .ok (.iload_n 2, 1) := by decide +kernel
theorem dX9_shape_185 : decode cX9_shape 185 = .ok (.imul, 1) := by decide +kernel
theorem dX9_shape_186 : decode cX9_shape 186 = .ok (.iconst 1, 1) := by decide +kernel
theorem dX9_shape_187 : decode cX9_shape 187 = .ok (.iadd, 1) := by decide +kernel
theorem dX9_shape_188 : decode cX9_shape 188 = .ok (.iaload, 1) := by decide +kernel
theorem dX9_shape_189 : decode cX9_shape 189 = .ok (.iload_n 3, 1) := by decide +kernel
theorem dX9_shape_190 : decode cX9_shape 190 = .ok (.bipush 8, 2) := by decide +kernel
theorem dX9_shape_192 : decode cX9_shape 192 = .ok (.iload 4, 2) := by decide +kernel
theorem dX9_shape_194 : decode cX9_shape 194 = .ok (.imul, 1) := by decide +kernel
theorem dX9_shape_195 : decode cX9_shape 195 = .ok (.iconst 1, 1) := by decide +kernel
theorem dX9_shape_196 : decode cX9_shape 196 = .ok (.iadd, 1) := by decide +kernel
theorem dX9_shape_197 : decode cX9_shape 197 = .ok (.invokevirtual 160, 3) := by decide +kernel
theorem dX9_shape_200 : decode cX9_shape 200 = .ok (.aload_n 0, 1) := by decide +kernel
theorem dX9_shape_201 : decode cX9_shape 201 = .ok (.aload_n 0, 1) := by decide +kernel
theorem dX9_shape_202 : decode cX9_shape 202 = .ok (.getfield 16, 3) := by decide +kernel
theorem dX9_shape_205 : decode cX9_shape 205 = .ok (.bipush 8, 2) := by decide +kernel
theorem dX9_shape_207 : decode cX9_shape 207 = .ok (.iload_n 1, 1) := by decide +kernel
theorem dX9_shape_208 : decode cX9_shape 208 = .ok (.imul, 1) := by decide +kernel
theorem dX9_shape_209 : decode cX9_shape 209 = .ok (.iaload, 1) := by decide +kernel
theorem dX9_shape_210 : decode cX9_shape 210 = .ok (.aload_n 0, 1) := by decide +kernel
theorem dX9_shape_211 : decode cX9_shape 211 = .ok (.getfield 16, 3) := by decide +kernel
theorem dX9_shape_214 : decode cX9_shape 214 = .ok (.bipush 8, 2) := by decide +kernel
theorem dX9_shape_216 : decode cX9_shape 216 = .ok (.iload_n 2, 1) := by decide +kernel
theorem dX9_shape_217 : decode cX9_shape 217 = .ok (.imul, 1) := by decide +kernel
theorem dX9_shape_218 : decode cX9_shape 218 = .ok (.iaload, 1) := by decide +kernel
theorem dX9_shape_219 : decode cX9_shape 219 = .ok (.iconst 1, 1) := by decide +kernel
theorem dX9_shape_220 : decode cX9_shape 220 = .ok (.iload_n 3, 1) := by decide +kernel
theorem dX9_shape_221 : decode cX9_shape 221 = .ok (.isub, 1) := by decide +kernel
theorem dX9_shape_222 : decode cX9_shape 222 = .ok (.bipush 8, 2) := by decide +kernel
theorem dX9_shape_224 : decode cX9_shape 224 = .ok (.iload 4, 2) := by decide +kernel
theorem dX9_shape_226 : decode cX9_shape 226 = .ok (.imul, 1) := by decide +kernel
theorem dX9_shape_227 : decode cX9_shape 227 = .ok (.invokevirtual 160, 3) := by decide +kernel
theorem dX9_shape_230 : decode cX9_shape 230 = .ok (.goto 142, 3) := by decide +kernel
theorem dX9_shape_233 : decode cX9_shape 233 = .ok (.iload 6, 2) := by decide +kernel
theorem dX9_shape_235 : decode cX9_shape 235 = .ok (.ifCond .eq 137, 3) := by decide +kernel
theorem dX9_shape_238 : decode cX9_shape 238 = .ok (.iload 5, 2) := by decide +kernel
theorem dX9_shape_240 : decode cX9_shape 240 = .ok (.bipush 91, 2) := by decide +kernel
theorem dX9_shape_242 : decode cX9_shape 242 = .ok (.if_icmp .ne 7, 3) := by decide +kernel
theorem dX9_shape_245 : decode cX9_shape 245 = .ok (.iconst 1, 1) := by decide +kernel
theorem dX9_shape_246 : decode cX9_shape 246 = .ok (.goto 4, 3) := by decide +kernel
theorem dX9_shape_249 : decode cX9_shape 249 = .ok (.iconst 0, 1) := by decide +kernel
theorem dX9_shape_250 : decode cX9_shape 250 = .ok (.iload_n 3, 1) := by decide +kernel
theorem dX9_shape_251 : decode cX9_shape 251 = .ok (.ifCond .ne 7, 3) := by decide +kernel
theorem dX9_shape_254 : decode cX9_shape 254 = .ok (.iconst 1, 1) := by decide +kernel
theorem dX9_shape_255 : decode cX9_shape 255 = .ok (.goto 4, 3) := by decide +kernel
theorem dX9_shape_258 : decode cX9_shape 258 = .ok (.iconst 0, 1) := by decide +kernel
theorem dX9_shape_259 : decode cX9_shape 259 = .ok (.if_icmp .ne 7, 3) := by decide +kernel
theorem dX9_shape_262 : decode cX9_shape 262 = .ok (.iconst 1, 1) := by decide +kernel
theorem dX9_shape_263 : decode cX9_shape 263 = .ok (.goto 4, 3) := by decide +kernel
theorem dX9_shape_266 : decode cX9_shape 266 = .ok (.iconst 0, 1) := by decide +kernel
theorem dX9_shape_267 : decode cX9_shape 267 = .ok (.istore 7, 2) := by decide +kernel
theorem dX9_shape_269 : decode cX9_shape 269 = .ok (.bipush 7, 2) := by decide +kernel
theorem dX9_shape_271 : decode cX9_shape 271 = .ok (.istore 8, 2) := by decide +kernel
theorem dX9_shape_273 : decode cX9_shape 273 = .ok (.iload 8, 2) := by decide +kernel
theorem dX9_shape_275 : decode cX9_shape 275 = .ok (.ifCond .lt 97, 3) := by decide +kernel
theorem dX9_shape_278 : decode cX9_shape 278 = .ok (.aload_n 0, 1) := by decide +kernel
theorem dX9_shape_279 : decode cX9_shape 279 = .ok (.getfield 16, 3) := by decide +kernel
theorem dX9_shape_282 : decode cX9_shape 282 = .ok (.bipush 8, 2) := by decide +kernel
theorem dX9_shape_284 : decode cX9_shape 284 = .ok (.iload_n 1, 1) := by decide +kernel
theorem dX9_shape_285 : decode cX9_shape 285 = .ok (.imul, 1) := by decide +kernel
theorem dX9_shape_286 : decode cX9_shape 286 = .ok (.iload 8, 2) := by decide +kernel
theorem dX9_shape_288 : decode cX9_shape 288 = .ok (.iadd, 1) := by decide +kernel
theorem dX9_shape_289 : decode cX9_shape 289 = .ok (.iaload, 1) := by decide +kernel
theorem dX9_shape_290 : decode cX9_shape 290 = .ok (.istore 9, 2) := by decide +kernel
theorem dX9_shape_292 : decode cX9_shape 292 = .ok (.aload_n 0, 1) := by decide +kernel
theorem dX9_shape_293 : decode cX9_shape 293 = .ok (.getfield 16, 3) := by decide +kernel
theorem dX9_shape_296 : decode cX9_shape 296 = .ok (.bipush 8, 2) := by decide +kernel
theorem dX9_shape_298 : decode cX9_shape 298 = .ok (.iload_n 2, 1) := by decide +kernel
theorem dX9_shape_299 : decode cX9_shape 299 = .ok (.imul, 1) := by decide +kernel
theorem dX9_shape_300 : decode cX9_shape 300 = .ok (.iload 8, 2) := by decide +kernel
theorem dX9_shape_302 : decode cX9_shape 302 = .ok (.iadd, 1) := by decide +kernel
theorem dX9_shape_303 : decode cX9_shape 303 = .ok (.iaload, 1) := by decide +kernel
theorem dX9_shape_304 : decode cX9_shape 304 = .ok (.istore 10, 2) := by decide +kernel
theorem dX9_shape_306 : decode cX9_shape 306 = .ok (.iload 9, 2) := by decide +kernel
theorem dX9_shape_308 : decode cX9_shape 308 = .ok (.ifCond .lt 28, 3) := by decide +kernel
theorem dX9_shape_311 : decode cX9_shape 311 = .ok (.iload 10, 2) := by decide +kernel
theorem dX9_shape_313 : decode cX9_shape 313 = .ok (.ifCond .lt 23, 3) := by decide +kernel
theorem dX9_shape_316 : decode cX9_shape 316 = .ok (.aload_n 0, 1) := by decide +kernel
theorem dX9_shape_317 : decode cX9_shape 317 = .ok (.iload 9, 2) := by decide +kernel
theorem dX9_shape_319 : decode cX9_shape 319 = .ok (.iload 10, 2) := by decide +kernel
theorem dX9_shape_321 : decode cX9_shape 321 = .ok (.iload_n 3, 1) := by decide +kernel
theorem dX9_shape_322 : decode cX9_shape 322 = .ok (.bipush 8, 2) := by decide +kernel
theorem dX9_shape_324 : decode cX9_shape 324 = .ok (.iload 4, 2) := by decide +kernel
theorem dX9_shape_326 : decode cX9_shape 326 = .ok (.imul, 1) := by decide +kernel
theorem dX9_shape_327 : decode cX9_shape 327 = .ok (.iload 8, 2) := by decide +kernel
theorem dX9_shape_329 : decode cX9_shape 329 = .ok (.iadd, 1) := by decide +kernel
theorem dX9_shape_330 : decode cX9_shape 330 = .ok (.invokevirtual 160, 3) := by decide +kernel
theorem dX9_shape_333 : decode cX9_shape 333 = .ok (.goto 33, 3) := by decide +kernel
theorem dX9_shape_336 : decode cX9_shape 336 = .ok (.iload 7, 2) := by decide +kernel
theorem dX9_shape_338 : decode cX9_shape 338 = .ok (.ifCond .eq 28, 3) := by decide +kernel
theorem dX9_shape_341 : decode cX9_shape 341 = .ok (.aload_n 0, 1) := by decide +kernel
theorem dX9_shape_342 : decode cX9_shape 342 = .ok (.getfield 16, 3) := by decide +kernel
theorem dX9_shape_345 : decode cX9_shape 345 = .ok (.bipush 8, 2) := by decide +kernel
theorem dX9_shape_347 : decode cX9_shape 347 = .ok (.iload 4, 2) := by decide +kernel
theorem dX9_shape_349 : decode cX9_shape 349 = .ok (.imul, 1) := by decide +kernel
theorem dX9_shape_350 : decode cX9_shape 350 = .ok (.iload 8, 2) := by decide +kernel
theorem dX9_shape_352 : decode cX9_shape 352 = .ok (.iadd, 1) := by decide +kernel
theorem dX9_shape_353 : decode cX9_shape 353 = .ok (.iload 9, 2) := by decide +kernel
theorem dX9_shape_355 : decode cX9_shape 355 = .ok (.ifCond .lt 8, 3) := by decide +kernel
theorem dX9_shape_358 : decode cX9_shape 358 = .ok (.iload 9, 2) := by decide +kernel
theorem dX9_shape_360 : decode cX9_shape 360 = .ok (.goto 5, 3) := by decide +kernel
theorem dX9_shape_363 : decode cX9_shape 363 = .ok (.iload 10, 2) := by decide +kernel
theorem dX9_shape_365 : decode cX9_shape 365 = .ok (.iastore, 1) := by decide +kernel
theorem dX9_shape_366 : decode cX9_shape 366 = .ok (.iinc 8 (-1), 3) := by decide +kernel
theorem dX9_shape_369 : decode cX9_shape 369 = .ok (.goto (-96), 3) := by decide +kernel
theorem dX9_shape_372 : decode cX9_shape 372 = .ok (.return_, 1) := by decide +kernel
theorem dX9_join_0 : decode cX9_join 0 = .ok (.aload_n 0, 1) := by decide +kernel
theorem dX9_join_1 : decode cX9_join 1 = .ok (.iload_n 1, 1) := by decide +kernel
theorem dX9_join_2 : decode cX9_join 2 = .ok (.iload_n 2, 1) := by decide +kernel
theorem dX9_join_3 : decode cX9_join 3 = .ok (.invokevirtual 142, 3) := by decide +kernel
theorem dX9_join_6 : decode cX9_join 6 = .ok (.ifCond .ne 5, 3) := by decide +kernel
theorem dX9_join_9 : decode cX9_join 9 = .ok (.iconst (-1), 1) := by decide +kernel
theorem dX9_join_10 : decode cX9_join 10 = .ok (.ireturn, 1) := by decide +kernel
theorem dX9_join_11 : decode cX9_join 11 = .ok (.iload_n 3, 1) := by decide +kernel
theorem dX9_join_12 : decode cX9_join 12 = .ok (.iconst 0, 1) := by decide +kernel
theorem dX9_join_13 : decode cX9_join 13 = .ok (.iconst 1, 1) := by decide +kernel
theorem dX9_join_14 : decode cX9_join 14 = .ok (.invokestatic 84, 3) := by decide +kernel
theorem dX9_join_17 : decode cX9_join 17 = .ok (.ifCond .ne 6, 3) := by decide +kernel
theorem dX9_join_20 : decode cX9_join 20 = .ok (.bipush (-2), 2) := by decide +kernel
theorem dX9_join_22 : decode cX9_join 22 = .ok (.ireturn, 1) := by decide +kernel
theorem dX9_join_23 : decode cX9_join 23 = .ok (.aload_n 0, 1) := by decide +kernel
theorem dX9_join_24 : decode cX9_join 24 = .ok (.invokevirtual 145, 3) := by decide +kernel
theorem dX9_join_27 : decode cX9_join 27 = .ok (.aload_n 0, 1) := by decide +kernel
theorem dX9_join_28 : decode cX9_join 28 = .ok (.getfield 116, 3) := by decide +kernel
theorem dX9_join_31 : decode cX9_join 31 = .ok (.istore 4, 2) := by decide +kernel
theorem dX9_join_33 : decode cX9_join 33 = .ok (.iconst 0, 1) := by decide +kernel
theorem dX9_join_34 : decode cX9_join 34 = .ok (.istore 5, 2) := by decide +kernel
theorem dX9_join_36 : decode cX9_join 36 = .ok (.iload 5, 2) := by decide +kernel
theorem dX9_join_38 : decode cX9_join 38 = .ok (.sipush 7200, 3) := by decide +kernel
theorem dX9_join_41 : decode cX9_join 41 = .ok (.if_icmp .ge 18, 3) := by decide +kernel
theorem dX9_join_44 : decode cX9_join 44 = .ok (.aload_n 0, 1) := by decide +kernel
theorem dX9_join_45 : decode cX9_join 45 = .ok (.getfield 50, 3) := by decide +kernel
theorem dX9_join_48 : decode cX9_join 48 = .ok (.iload 5, 2) := by decide +kernel
theorem dX9_join_50 : decode cX9_join 50 = .ok (.bipush (-6), 2) := by decide +kernel
theorem dX9_join_52 : decode cX9_join 52 = .ok (.iastore, 1) := by decide +kernel
theorem dX9_join_53 : decode cX9_join 53 = .ok (.iinc 5 1, 3) := by decide +kernel
theorem dX9_join_56 : decode cX9_join 56 = .ok (.goto (-20), 3) := by decide +kernel
theorem dX9_join_59 : decode cX9_join 59 = .ok (.aload_n 0, 1) := by decide +kernel
theorem dX9_join_60 : decode cX9_join 60 = .ok (.iconst 0, 1) := by decide +kernel
theorem dX9_join_61 : decode cX9_join 61 = .ok (.putfield 157, 3) := by decide +kernel
theorem dX9_join_64 : decode cX9_join 64 = .ok (.aload_n 0, 1) := by decide +kernel
theorem dX9_join_65 : decode cX9_join 65 = .ok (.iload_n 1, 1) := by decide +kernel
theorem dX9_join_66 : decode cX9_join 66 = .ok (.iload_n 2, 1) := by decide +kernel
theorem dX9_join_67 : decode cX9_join 67 = .ok (.iload_n 3, 1) := by decide +kernel
theorem dX9_join_68 : decode cX9_join 68 = .ok (.iconst (-1), 1) := by decide +kernel
theorem dX9_join_69 : decode cX9_join 69 = .ok (.invokevirtual 160, 3) := by decide +kernel
theorem dX9_join_72 : decode cX9_join 72 = .ok (.bipush (-6), 2) := by decide +kernel
theorem dX9_join_74 : decode cX9_join 74 = .ok (.istore 5, 2) := by decide +kernel
theorem dX9_join_76 : decode cX9_join 76 = .ok (.aload_n 0, 1) := by decide +kernel
theorem dX9_join_77 : decode cX9_join 77 = .ok (.getfield 157, 3) := by decide +kernel
theorem dX9_join_80 : decode cX9_join 80 = .ok (.ifCond .le 148, 3) := by decide +kernel
theorem dX9_join_83 : decode cX9_join 83 = .ok (.aload_n 0, 1) := by decide +kernel
theorem dX9_join_84 : decode cX9_join 84 = .ok (.dup, 1) := by decide +kernel
theorem dX9_join_85 : decode cX9_join 85 = .ok (.getfield 157, 3) := by decide +kernel
theorem dX9_join_88 : decode cX9_join 88 = .ok (.iconst 1, 1) := by decide +kernel
theorem dX9_join_89 : decode cX9_join 89 = .ok (.isub, 1) := by decide +kernel
theorem dX9_join_90 : decode cX9_join 90 = .ok (.putfield 157, 3) := by decide +kernel
theorem dX9_join_93 : decode cX9_join 93 = .ok (.aload_n 0, 1) := by decide +kernel
theorem dX9_join_94 : decode cX9_join 94 = .ok (.getfield 53, 3) := by decide +kernel
theorem dX9_join_97 : decode cX9_join 97 = .ok (.aload_n 0, 1) := by decide +kernel
theorem dX9_join_98 : decode cX9_join 98 = .ok (.getfield 157, 3) := by decide +kernel
theorem dX9_join_101 : decode cX9_join 101 = .ok (.iaload, 1) := by decide +kernel
theorem dX9_join_102 : decode cX9_join 102 = .ok (.istore 6, 2) := by decide +kernel
theorem dX9_join_104 : decode cX9_join 104 = .ok (.aload_n 0, 1) := by decide +kernel
theorem dX9_join_105 : decode cX9_join 105 = .ok (.getfield 56, 3) := by decide +kernel
theorem dX9_join_108 : decode cX9_join 108 = .ok (.aload_n 0, 1) := by decide +kernel
theorem dX9_join_109 : decode cX9_join 109 = .ok (.getfield 157, 3) := by decide +kernel
theorem dX9_join_112 : decode cX9_join 112 = .ok (.iaload, 1) := by decide +kernel
theorem dX9_join_113 : decode cX9_join 113 = .ok (.istore 7, 2) := by decide +kernel
theorem dX9_join_115 : decode cX9_join 115 = .ok (.iload 6, 2) := by decide +kernel
theorem dX9_join_117 : decode cX9_join 117 = .ok (.bipush 120, 2) := by decide +kernel
theorem dX9_join_119 : decode cX9_join 119 = .ok (.idiv, 1) := by decide +kernel
theorem dX9_join_120 : decode cX9_join 120 = .ok (.istore 8, 2) := by decide +kernel
theorem dX9_join_122 : decode cX9_join 122 = .ok (.iload 6, 2) := by decide +kernel
theorem dX9_join_124 : decode cX9_join 124 = .ok (.iconst 2, 1) := by decide +kernel
theorem dX9_join_125 : decode cX9_join 125 = .ok (.idiv, 1) := by decide +kernel
theorem dX9_join_126 : decode cX9_join 126 = .ok (.bipush 60, 2) := by decide +kernel
theorem dX9_join_128 : decode cX9_join 128 = .ok (.irem, 1) := by decide +kernel
theorem dX9_join_129 : decode cX9_join 129 = .ok (.istore 9, 2) := by decide +kernel
theorem dX9_join_131 : decode cX9_join 131 = .ok (.aload_n 0, 1) := by decide +kernel
theorem dX9_join_132 : decode cX9_join 132 = .ok (.iload 8, 2) := by decide +kernel
theorem dX9_join_134 : decode cX9_join 134 = .ok (.iload 9, 2) := by decide +kernel
theorem dX9_join_136 : decode cX9_join 136 = .ok (.iload 6, 2) := by decide +kernel
theorem dX9_join_138 : decode cX9_join 138 = .ok (.iconst 2, 1) := by decide +kernel
theorem dX9_join_139 : decode cX9_join 139 = .ok (.irem, 1) := by decide +kernel
theorem dX9_join_140 : decode cX9_join 140 = .ok (.invokevirtual 163, 3) := by decide +kernel
theorem dX9_join_143 : decode cX9_join 143 = .ok (.istore 10, 2) := by decide +kernel
theorem dX9_join_145 : decode cX9_join 145 = .ok (.iload 10, 2) := by decide +kernel
theorem dX9_join_147 : decode cX9_join 147 = .ok (.ifCond .ge 12, 3) := by decide +kernel
theorem dX9_join_150 : decode cX9_join 150 = .ok (.aload_n 0, 1) := by decide +kernel
theorem dX9_join_151 : decode cX9_join 151 = .ok (.getfield 50, 3) := by decide +kernel
theorem dX9_join_154 : decode cX9_join 154 = .ok (.iload 6, 2) := by decide +kernel
theorem dX9_join_156 : decode cX9_join 156 = .ok (.iaload, 1) := by decide +kernel
theorem dX9_join_157 : decode cX9_join 157 = .ok (.istore 10, 2) := by decide +kernel
theorem dX9_join_159 : decode cX9_join 159 = .ok (.iload 10, 2) := by decide +kernel
theorem dX9_join_161 : decode cX9_join 161 = .ok (.ifCond .ge 43, 3) := by decide +kernel
theorem dX9_join_164 : decode cX9_join 164 = .ok (.iload 4, 2) := by decide +kernel
theorem dX9_join_166 : decode cX9_join 166 = .ok (.bipush 60, 2) := by decide +kernel
theorem dX9_join_168 : decode cX9_join 168 = .ok (.if_icmp .ne 6, 3) := by decide +kernel
theorem dX9_join_171 : decode cX9_join 171 = .ok (.bipush (-4), 2) := by decide +kernel
theorem dX9_join_173 : decode cX9_join 173 = .ok (.ireturn, 1) := by decide +kernel
theorem dX9_join_174 : decode cX9_join 174 = .ok (.iload 4, 2) := by decide +kernel
theorem dX9_join_176 : decode cX9_join 176 = .ok (.istore 10, 2) := by decide +kernel
theorem dX9_join_178 : decode cX9_join 178 = .ok (.aload_n 0, 1) := by decide +kernel
theorem dX9_join_179 : decode cX9_join 179 = .ok (.getfield 50, 3) := by decide +kernel
theorem dX9_join_182 : decode cX9_join 182 = .ok (.iload 6, 2) := by decide +kernel
theorem dX9_join_184 : decode cX9_join 184 = .ok (.iload 10, 2) := by decide +kernel
theorem dX9_join_186 : decode cX9_join 186 = .ok (.iastore, 1) := by decide +kernel
theorem dX9_join_187 : decode cX9_join 187 = .ok (.iinc 4 1, 3) := by decide +kernel
theorem dX9_join_190 : decode cX9_join 190 = .ok (.aload_n 0, 1) := by decide +kernel
theorem dX9_join_191 : decode cX9_join 191 = .ok (.iload 8, 2) := by decide +kernel
theorem dX9_join_193 : decode cX9_join 193 = .ok (.iload 9, 2) := by decide +kernel
theorem dX9_join_195 : decode cX9_join 195 = .ok (.iload 6, 2) := by decide +kernel
theorem dX9_join_197 : decode cX9_join 197 = .ok (.iconst 2, 1) := by decide +kernel
theorem dX9_join_198 : decode cX9_join 198 = .ok (.irem, 1) := by decide +kernel
theorem dX9_join_199 : decode cX9_join 199 = .ok (.iload 10, 2) := by decide +kernel
theorem dX9_join_201 : decode cX9_join 201 = .ok (.invokevirtual 166, 3) := by decide +kernel
theorem dX9_join_204 : decode cX9_join 204 = .ok (.iload 7, 2) := by decide +kernel
theorem dX9_join_206 : decode cX9_join 206 = .ok (.ifCond .ge 10, 3) := by decide +kernel
theorem dX9_join_209 : decode cX9_join 209 = .ok (.iload 10, 2) := by decide +kernel
theorem dX9_join_211 : decode cX9_join 211 = .ok (.istore 5, 2) := by decide +kernel
theorem dX9_join_213 : decode cX9_join 213 = .ok (.goto 12, 3) := by decide +kernel
theorem dX9_join_216 : decode cX9_join 216 = .ok (.aload_n 0, 1) := by decide +kernel
theorem dX9_join_217 : decode cX9_join 217 = .ok (.getfield 16, 3) := by decide +kernel
theorem dX9_join_220 : decode cX9_join 220 = .ok (.iload 7, 2) := by decide +kernel
theorem dX9_join_222 : decode cX9_join 222 = .ok (.iload 10, 2) := by decide +kernel
theorem dX9_join_224 : decode cX9_join 224 = .ok (.iastore, 1) := by decide +kernel
theorem dX9_join_225 : decode cX9_join 225 = .ok (.goto (-149), 3) := by decide +kernel
theorem dX9_join_228 : decode cX9_join 228 = .ok (.iload 4, 2) := by decide +kernel
theorem dX9_join_230 : decode cX9_join 230 = .ok (.aload_n 0, 1) := by decide +kernel
theorem dX9_join_231 : decode cX9_join 231 = .ok (.getfield 116, 3) := by decide +kernel
theorem dX9_join_234 : decode cX9_join 234 = .ok (.if_icmp .le 14, 3) := by decide +kernel
theorem dX9_join_237 : decode cX9_join 237 = .ok (.aload_n 0, 1) := by decide +kernel
theorem dX9_join_238 : decode cX9_join 238 = .ok (.iload 4, 2) := by decide +kernel
theorem dX9_join_240 : decode cX9_join 240 = .ok (.putfield 116, 3) := by decide +kernel
theorem dX9_join_243 : decode cX9_join 243 = .ok (.aload_n 0, 1) := by decide +kernel
theorem dX9_join_244 : decode cX9_join 244 = .ok (.iconst 0, 1) := by decide +kernel
theorem dX9_join_245 : decode cX9_join 245 = .ok (.putfield 119, 3) := by decide +kernel
theorem dX9_join_248 : decode cX9_join 248 = .ok (.iload 5, 2) := by decide +kernel
theorem dX9_join_250 : decode cX9_join 250 = .ok (.ireturn, 1) := by decide +kernel
theorem dX9_slipOf_0 : decode cX9_slipOf 0 = .ok (.iconst 0, 1) := by decide +kernel
theorem dX9_slipOf_1 : decode cX9_slipOf 1 = .ok (.istore_n 1, 1) := by decide +kernel
theorem dX9_slipOf_2 : decode cX9_slipOf 2 = .ok (.aload_n 0, 1) := by decide +kernel
theorem dX9_slipOf_3 : decode cX9_slipOf 3 = .ok (.iconst 0, 1) := by decide +kernel
theorem dX9_slipOf_4 : decode cX9_slipOf 4 = .ok (.putfield 169, 3) := by decide +kernel
theorem dX9_slipOf_7 : decode cX9_slipOf 7 = .ok (.aload_n 0, 1) := by decide +kernel
theorem dX9_slipOf_8 : decode cX9_slipOf 8 = .ok (.iconst 0, 1) := by decide +kernel
theorem dX9_slipOf_9 : decode cX9_slipOf 9 = .ok (.putfield 172, 3) := by decide +kernel
theorem dX9_slipOf_12 : decode cX9_slipOf 12 = .ok (.iconst 0, 1) := by decide +kernel
theorem dX9_slipOf_13 : decode cX9_slipOf 13 = .ok (.istore_n 2, 1) := by decide +kernel
theorem dX9_slipOf_14 : decode cX9_slipOf 14 = .ok (.iload_n 2, 1) := by decide +kernel
theorem dX9_slipOf_15 : decode cX9_slipOf 15 = .ok (.aload_n 0, 1) := by decide +kernel
theorem dX9_slipOf_16 : decode cX9_slipOf 16 = .ok (.getfield 88, 3) := by decide +kernel
theorem dX9_slipOf_19 : decode cX9_slipOf 19 = .ok (.if_icmp .ge 411, 3) := by decide +kernel
theorem dX9_slipOf_22 : decode cX9_slipOf 22 = .ok (.aload_n 0, 1) := by decide +kernel
theorem dX9_slipOf_23 : decode cX9_slipOf 23 = .ok (.getfield 7, 3) := by decide +kernel
theorem dX9_slipOf_26 : decode cX9_slipOf 26 = .ok (.iload_n 2, 1) := by decide +kernel
theorem dX9_slipOf_27 : decode cX9_slipOf 27 = .ok (.iaload, 1) := by decide +kernel
theorem dX9_slipOf_28 : decode cX9_slipOf 28 = .ok (.istore_n 3, 1) := by decide +kernel
theorem dX9_slipOf_29 : decode cX9_slipOf 29 = .ok (.bipush (-6), 2) := by decide +kernel
theorem dX9_slipOf_31 : decode cX9_slipOf 31 = .ok (.istore 4, 2) := by decide +kernel
theorem dX9_slipOf_33 : decode cX9_slipOf 33 = .ok (.iconst 0, 1) := by decide +kernel
theorem dX9_slipOf_34 : decode cX9_slipOf 34 = .ok (.istore 5, 2) := by decide +kernel
theorem dX9_slipOf_36 : decode cX9_slipOf 36 = .ok (.iload_n 1, 1) := by decide +kernel
theorem dX9_slipOf_37 : decode cX9_slipOf 37 = .ok (.ifCond .eq 8, 3) := by decide +kernel
theorem dX9_slipOf_40 : decode cX9_slipOf 40 = .ok (.iload_n 1, 1) := by decide +kernel
theorem dX9_slipOf_41 : decode cX9_slipOf 41 = .ok (.iconst 5, 1) := by decide +kernel
theorem dX9_slipOf_42 : decode cX9_slipOf 42 = .ok (.if_icmp .ne 166, 3) := by decide +kernel
theorem dX9_slipOf_45 : decode cX9_slipOf 45 = .ok (.iload_n 3, 1) := by decide +kernel
theorem dX9_slipOf_46 : decode cX9_slipOf 46 = .ok (.bipush 48, 2) := by decide +kernel
theorem dX9_slipOf_48 : decode cX9_slipOf 48 = .ok (.bipush 57, 2) := by decide +kernel
theorem dX9_slipOf_50 : decode cX9_slipOf 50 = .ok (.invokestatic 84, 3) := by decide +kernel
theorem dX9_slipOf_53 : decode cX9_slipOf 53 = .ok (.ifCond .ne 15, 3) := by decide +kernel
theorem dX9_slipOf_56 : decode cX9_slipOf 56 = .ok (.iload_n 3, 1) := by decide +kernel
theorem dX9_slipOf_57 : decode cX9_slipOf 57 = .ok (.bipush 84, 2) := by decide +kernel
theorem dX9_slipOf_59 : decode cX9_slipOf 59 = .ok (.if_icmp .eq 9, 3) := by decide +kernel
theorem dX9_slipOf_62 : decode cX9_slipOf 62 = .ok (.iload_n 3, 1) := by decide +kernel
theorem dX9_slipOf_63 : decode cX9_slipOf 63 = .ok (.bipush 70, 2) := by decide +kernel
theorem dX9_slipOf_65 : decode cX9_slipOf 65 = .ok (.if_icmp .ne 9, 3) := by decide +kernel
theorem dX9_slipOf_68 : decode cX9_slipOf 68 = .ok (.iconst 1, 1) := by decide +kernel
theorem dX9_slipOf_69 : decode cX9_slipOf 69 = .ok (.istore 5, 2) := by decide +kernel
theorem dX9_slipOf_71 : decode cX9_slipOf 71 = .ok (.goto 86, 3) := by decide +kernel
theorem dX9_slipOf_74 : decode cX9_slipOf 74 = .ok (.iload_n 3, 1) := by decide +kernel
theorem dX9_slipOf_75 : decode cX9_slipOf 75 = .ok (.bipush 36, 2) := by decide +kernel
theorem dX9_slipOf_77 : decode cX9_slipOf 77 = .ok (.if_icmp .ne 9, 3) := by decide +kernel
theorem dX9_slipOf_80 : decode cX9_slipOf 80 = .ok (.iconst 1, 1) := by decide +kernel
theorem dX9_slipOf_81 : decode cX9_slipOf 81 = .ok (.istore 4, 2) := by decide +kernel
theorem dX9_slipOf_83 : decode cX9_slipOf 83 = .ok (.goto 74, 3) := by decide +kernel
theorem dX9_slipOf_86 : decode cX9_slipOf 86 = .ok (.iload_n 3, 1) := by decide +kernel
theorem dX9_slipOf_87 : decode cX9_slipOf 87 = .ok (.bipush 123, 2) := by decide +kernel
theorem dX9_slipOf_89 : decode cX9_slipOf 89 = .ok (.if_icmp .eq 15, 3) := by decide +kernel
theorem dX9_slipOf_92 : decode cX9_slipOf 92 = .ok (.iload_n 3, 1) := by decide +kernel
theorem dX9_slipOf_93 : decode cX9_slipOf 93 = .ok (.bipush 91, 2) := by decide +kernel
theorem dX9_slipOf_95 : decode cX9_slipOf 95 = .ok (.if_icmp .eq 9, 3) := by decide +kernel
theorem dX9_slipOf_98 : decode cX9_slipOf 98 = .ok (.iload_n 3, 1) := by decide +kernel
theorem dX9_slipOf_99 : decode cX9_slipOf 99 = .ok (.bipush 40, 2) := by decide +kernel
theorem dX9_slipOf_101 : decode cX9_slipOf 101 = .ok (.if_icmp .ne 56, 3) := by decide +kernel
theorem dX9_slipOf_104 : decode cX9_slipOf 104 = .ok (.aload_n 0, 1) := by decide +kernel
theorem dX9_slipOf_105 : decode cX9_slipOf 105 = .ok (.getfield 59, 3) := by decide +kernel
theorem dX9_slipOf_108 : decode cX9_slipOf 108 = .ok (.aload_n 0, 1) := by decide +kernel
theorem dX9_slipOf_109 : decode cX9_slipOf 109 = .ok (.getfield 172, 3) := by decide +kernel
theorem dX9_slipOf_112 : decode cX9_slipOf 112 = .ok (.iload_n 3, 1) := by decide +kernel
theorem dX9_slipOf_113 : decode cX9_slipOf 113 = .ok (.iastore, 1) := by decide +kernel
theorem dX9_slipOf_114 : decode cX9_slipOf 114 = .ok (.aload_n 0, 1) := by decide +kernel
theorem dX9_slipOf_115 : decode cX9_slipOf 115 = .ok (.getfield 62, 3) := by decide +kernel
theorem dX9_slipOf_118 : decode cX9_slipOf 118 = .ok (.aload_n 0, 1) := by decide +kernel
theorem dX9_slipOf_119 : decode cX9_slipOf 119 = .ok (.getfield 172, 3) := by decide +kernel
theorem dX9_slipOf_122 : decode cX9_slipOf 122 = .ok (.iconst (-1), 1) := by decide +kernel
theorem dX9_slipOf_123 : decode cX9_slipOf 123 = .ok (.iastore, 1) := by decide +kernel
theorem dX9_slipOf_124 : decode cX9_slipOf 124 = .ok (.aload_n 0, 1) := by decide +kernel
theorem dX9_slipOf_125 : decode cX9_slipOf 125 = .ok (.dup, 1) := by decide +kernel
theorem dX9_slipOf_126 : decode cX9_slipOf 126 = .ok (.getfield 172, 3) := by decide +kernel
theorem dX9_slipOf_129 : decode cX9_slipOf 129 = .ok (.iconst 1, 1) := by decide +kernel
theorem dX9_slipOf_130 : decode cX9_slipOf 130 = .ok (.iadd, 1) := by decide +kernel
theorem dX9_slipOf_131 : decode cX9_slipOf 131 = .ok (.putfield 172, 3) := by decide +kernel
theorem dX9_slipOf_134 : decode cX9_slipOf 134 = .ok (.iload_n 3, 1) := by decide +kernel
theorem dX9_slipOf_135 : decode cX9_slipOf 135 = .ok (.bipush 123, 2) := by decide +kernel
theorem dX9_slipOf_137 : decode cX9_slipOf 137 = .ok (.if_icmp .ne 7, 3) := by decide +kernel
theorem dX9_slipOf_140 : decode cX9_slipOf 140 = .ok (.iconst 2, 1) := by decide +kernel
theorem dX9_slipOf_141 : decode cX9_slipOf 141 = .ok (.goto 14, 3) := by decide +kernel
theorem dX9_slipOf_144 : decode cX9_slipOf 144 = .ok (.iload_n 3, 1) := by decide +kernel
theorem dX9_slipOf_145 : decode cX9_slipOf 145 = .ok (.bipush 91, 2) := by decide +kernel
theorem dX9_slipOf_147 : decode cX9_slipOf 147 = .ok (.if_icmp .ne 7, 3) := by decide +kernel
theorem dX9_slipOf_150 : decode cX9_slipOf 150 = .ok (.iconst 3, 1) := by decide +kernel
theorem dX9_slipOf_151 : decode cX9_slipOf 151 = .ok (.goto 4, 3) := by decide +kernel
theorem dX9_slipOf_154 : decode cX9_slipOf 154 = .ok (.iconst 5, 1) := by decide +kernel
theorem dX9_slipOf_155 : decode cX9_slipOf 155 = .ok (.istore 4, 2) := by decide +kernel
theorem dX9_slipOf_157 : decode cX9_slipOf 157 = .ok (.aload_n 0, 1) := by decide +kernel
theorem dX9_slipOf_158 : decode cX9_slipOf 158 = .ok (.dup, 1) := by decide +kernel
theorem dX9_slipOf_159 : decode cX9_slipOf 159 = .ok (.getfield 169, 3) := by decide +kernel
theorem dX9_slipOf_162 : decode cX9_slipOf 162 = .ok (.iload 5, 2) := by decide +kernel
theorem dX9_slipOf_164 : decode cX9_slipOf 164 = .ok (.ifCond .ne 8, 3) := by decide +kernel
theorem dX9_slipOf_167 : decode cX9_slipOf 167 = .ok (.iload 4, 2) := by decide +kernel
theorem dX9_slipOf_169 : decode cX9_slipOf 169 = .ok (.ifCond .lt 7, 3) := by decide +kernel
theorem dX9_slipOf_172 : decode cX9_slipOf 172 = .ok (.iconst 1, 1) := by decide +kernel
theorem dX9_slipOf_173 : decode cX9_slipOf 173 = .ok (.goto 4, 3) := by decide +kernel
theorem dX9_slipOf_176 : decode cX9_slipOf 176 = .ok (.iconst 0, 1) := by decide +kernel
theorem dX9_slipOf_177 : decode cX9_slipOf 177 = .ok (.iadd, 1) := by decide +kernel
theorem dX9_slipOf_178 : decode cX9_slipOf 178 = .ok (.putfield 169, 3) := by decide +kernel
theorem dX9_slipOf_181 : decode cX9_slipOf 181 = .ok (.iload_n 1, 1) := by decide +kernel
theorem dX9_slipOf_182 : decode cX9_slipOf 182 = .ok (.iconst 5, 1) := by decide +kernel
theorem dX9_slipOf_183 : decode cX9_slipOf 183 = .ok (.if_icmp .ne 171, 3) := by decide +kernel
theorem dX9_slipOf_186 : decode cX9_slipOf 186 = .ok (.iload_n 3, 1) := by decide +kernel
theorem dX9_slipOf_187 : decode cX9_slipOf 187 = .ok (.bipush 41, 2) := by decide +kernel
theorem dX9_slipOf_189 : decode cX9_slipOf 189 = .ok (.if_icmp .ne 165, 3) := by decide +kernel
theorem dX9_slipOf_192 : decode cX9_slipOf 192 = .ok (.aload_n 0, 1) := by decide +kernel
theorem dX9_slipOf_193 : decode cX9_slipOf 193 = .ok (.dup, 1) := by decide +kernel
theorem dX9_slipOf_194 : decode cX9_slipOf 194 = .ok (.getfield 172, 3) := by decide +kernel
theorem dX9_slipOf_197 : decode cX9_slipOf 197 = .ok (.iconst 1, 1) := by decide +kernel
theorem dX9_slipOf_198 : decode cX9_slipOf 198 = .ok (.isub, 1) := by decide +kernel
theorem dX9_slipOf_199 : decode cX9_slipOf 199 = .ok (.putfield 172, 3) := by decide +kernel
theorem dX9_slipOf_202 : decode cX9_slipOf 202 = .ok (.iconst 1, 1) := by decide +kernel
theorem dX9_slipOf_203 : decode cX9_slipOf 203 = .ok (.istore 5, 2) := by decide +kernel
theorem dX9_slipOf_205 : decode cX9_slipOf 205 = .ok (.goto 149, 3) := by decide +kernel
theorem dX9_slipOf_208 : decode cX9_slipOf 208 = .ok (.iload_n 1, 1) := by decide +kernel
theorem dX9_slipOf_209 : decode cX9_slipOf 209 = .ok (.iconst 1, 1) := by decide +kernel
theorem dX9_slipOf_210 : decode cX9_slipOf 210 = .ok (.if_icmp .ne 16, 3) := by decide +kernel
theorem dX9_slipOf_213 : decode cX9_slipOf 213 = .ok (.iload_n 3, 1) := by decide +kernel
theorem dX9_slipOf_214 : decode cX9_slipOf 214 = .ok (.bipush 97, 2) := by decide +kernel
theorem dX9_slipOf_216 : decode cX9_slipOf 216 = .ok (.bipush 122, 2) := by decide +kernel
theorem dX9_slipOf_218 : decode cX9_slipOf 218 = .ok (.invokestatic 84, 3) := by decide +kernel
theorem dX9_slipOf_221 : decode cX9_slipOf 221 = .ok (.istore 5, 2) := by decide +kernel
theorem dX9_slipOf_223 : decode cX9_slipOf 223 = .ok (.goto 131, 3) := by decide +kernel
theorem dX9_slipOf_226 : decode cX9_slipOf 226 = .ok (.iload_n 1, 1) := by decide +kernel
theorem dX9_slipOf_227 : decode cX9_slipOf 227 = .ok (.iconst 2, 1) := by decide +kernel
theorem dX9_slipOf_228 : decode cX9_slipOf 228 = .ok (.if_icmp .ne 75, 3) := by decide +kernel
theorem dX9_slipOf_231 : decode cX9_slipOf 231 = .ok (.iload_n 3, 1) := by decide +kernel
theorem dX9_slipOf_232 : decode cX9_slipOf 232 = .ok (.bipush 97, 2) := by decide +kernel
theorem dX9_slipOf_234 : decode cX9_slipOf 234 = .ok (.bipush 104, 2) := by decide +kernel
theorem dX9_slipOf_236 : decode cX9_slipOf 236 = .ok (.invokestatic 84, 3) := by decide +kernel
theorem dX9_slipOf_239 : decode cX9_slipOf 239 = .ok (.ifCond .eq 42, 3) := by decide +kernel
theorem dX9_slipOf_242 : decode cX9_slipOf 242 = .ok (.iload_n 3, 1) := by decide +kernel
