theorem dX10_thrown_0 : decode cX10_thrown 0 = .ok (.aload_n 0, 1) := by decide +kernel
theorem dX10_thrown_1 : decode cX10_thrown 1 = .ok (.getfield 3, 3) := by decide +kernel
theorem dX10_thrown_4 : decode cX10_thrown 4 = .ok (.ireturn, 1) := by decide +kernel
theorem dX10_init_0 : decode cX10_init 0 = .ok (.aload_n 0, 1) := by decide +kernel
theorem dX10_init_1 : decode cX10_init 1 = .ok (.invokespecial 7, 3) := by decide +kernel
theorem dX10_init_4 : decode cX10_init 4 = .ok (.aload_n 0, 1) := by decide +kernel
theorem dX10_init_5 : decode cX10_init 5 = .ok (.iconst 0, 1) := by decide +kernel
theorem dX10_init_6 : decode cX10_init 6 = .ok (.putfield 3, 3) := by decide +kernel
theorem dX10_init_9 : decode cX10_init 9 = .ok (.aload_n 0, 1) := by decide +kernel
theorem dX10_init_10 : decode cX10_init 10 = .ok (.sipush 2609, 3) := by decide +kernel
theorem dX10_init_13 : decode cX10_init 13 = .ok (.newarray .int, 2) := by decide +kernel
theorem dX10_init_15 : decode cX10_init 15 = .ok (.putfield 13, 3) := by decide +kernel
theorem dX10_init_18 : decode cX10_init 18 = .ok (.aload_n 0, 1) := by decide +kernel
theorem dX10_init_19 : decode cX10_init 19 = .ok (.sipush 2609, 3) := by decide +kernel
theorem dX10_init_22 : decode cX10_init 22 = .ok (.newarray .int, 2) := by decide +kernel
theorem dX10_init_24 : decode cX10_init 24 = .ok (.putfield 17, 3) := by decide +kernel
theorem dX10_init_27 : decode cX10_init 27 = .ok (.aload_n 0, 1) := by decide +kernel
theorem dX10_init_28 : decode cX10_init 28 = .ok (.sipush 2609, 3) := by decide +kernel
theorem dX10_init_31 : decode cX10_init 31 = .ok (.newarray .int, 2) := by decide +kernel
theorem dX10_init_33 : decode cX10_init 33 = .ok (.putfield 20, 3) := by decide +kernel
theorem dX10_init_36 : decode cX10_init 36 = .ok (.aload_n 0, 1) := by decide +kernel
theorem dX10_init_37 : decode cX10_init 37 = .ok (.sipush 20872, 3) := by decide +kernel
theorem dX10_init_40 : decode cX10_init 40 = .ok (.newarray .int, 2) := by decide +kernel
theorem dX10_init_42 : decode cX10_init 42 = .ok (.putfield 23, 3) := by decide +kernel
theorem dX10_init_45 : decode cX10_init 45 = .ok (.aload_n 0, 1) := by decide +kernel
theorem dX10_init_46 : decode cX10_init 46 = .ok (.iconst 0, 1) := by decide +kernel
theorem dX10_init_47 : decode cX10_init 47 = .ok (.putfield 26, 3) := by decide +kernel
theorem dX10_init_50 : decode cX10_init 50 = .ok (.aload_n 0, 1) := by decide +kernel
theorem dX10_init_51 : decode cX10_init 51 = .ok (.iconst 0, 1) := by decide +kernel
theorem dX10_init_52 : decode cX10_init 52 = .ok (.putfield 29, 3) := by decide +kernel
theorem dX10_init_55 : decode cX10_init 55 = .ok (.aload_n 0, 1) := by decide +kernel
theorem dX10_init_56 : decode cX10_init 56 = .ok (.bipush 60, 2) := by decide +kernel
theorem dX10_init_58 : decode cX10_init 58 = .ok (.newarray .int, 2) := by decide +kernel
theorem dX10_init_60 : decode cX10_init 60 = .ok (.putfield 33, 3) := by decide +kernel
theorem dX10_init_63 : decode cX10_init 63 = .ok (.aload_n 0, 1) := by decide +kernel
theorem dX10_init_64 : decode cX10_init 64 = .ok (.iconst 0, 1) := by decide +kernel
theorem dX10_init_65 : decode cX10_init 65 = .ok (.putfield 36, 3) := by decide +kernel
theorem dX10_init_68 : decode cX10_init 68 = .ok (.aload_n 0, 1) := by decide +kernel
theorem dX10_init_69 : decode cX10_init 69 = .ok (.iconst 0, 1) := by decide +kernel
theorem dX10_init_70 : decode cX10_init 70 = .ok (.putfield 39, 3) := by decide +kernel
theorem dX10_init_73 : decode cX10_init 73 = .ok (.aload_n 0, 1) := by decide +kernel
theorem dX10_init_74 : decode cX10_init 74 = .ok (.iconst (-1), 1) := by decide +kernel
theorem dX10_init_75 : decode cX10_init 75 = .ok (.putfield 42, 3) := by decide +kernel
theorem dX10_init_78 : decode cX10_init 78 = .ok (.aload_n 0, 1) := by decide +kernel
theorem dX10_init_79 : decode cX10_init 79 = .ok (.iconst 0, 1) := by decide +kernel
theorem dX10_init_80 : decode cX10_init 80 = .ok (.putfield 45, 3) := by decide +kernel
theorem dX10_init_83 : decode cX10_init 83 = .ok (.aload_n 0, 1) := by decide +kernel
theorem dX10_init_84 : decode cX10_init 84 = .ok (.iconst 0, 1) := by decide +kernel
theorem dX10_init_85 : decode cX10_init 85 = .ok (.putfield 48, 3) := by decide +kernel
theorem dX10_init_88 : decode cX10_init 88 = .ok (.aload_n 0, 1) := by decide +kernel
theorem dX10_init_89 : decode cX10_init 89 = .ok (.iconst 0, 1) := by decide +kernel
theorem dX10_init_90 : decode cX10_init 90 = .ok (.putfield 51, 3) := by decide +kernel
theorem dX10_init_93 : decode cX10_init 93 = .ok (.aload_n 0, 1) := by decide +kernel
theorem dX10_init_94 : decode cX10_init 94 = .ok (.bipush 6, 2) := by decide +kernel
theorem dX10_init_96 : decode cX10_init 96 = .ok (.newarray .int, 2) := by decide +kernel
theorem dX10_init_98 : decode cX10_init 98 = .ok (.putfield 54, 3) := by decide +kernel
theorem dX10_init_101 : decode cX10_init 101 = .ok (.aload_n 0, 1) := by decide +kernel
theorem dX10_init_102 : decode cX10_init 102 = .ok (.bipush 61, 2) := by decide +kernel
theorem dX10_init_104 : decode cX10_init 104 = .ok (.newarray .int, 2) := by decide +kernel
theorem dX10_init_106 : decode cX10_init 106 = .ok (.putfield 57, 3) := by decide +kernel
theorem dX10_init_109 : decode cX10_init 109 = .ok (.aload_n 0, 1) := by decide +kernel
theorem dX10_init_110 : decode cX10_init 110 = .ok (.iconst 0, 1) := by decide +kernel
theorem dX10_init_111 : decode cX10_init 111 = .ok (.putfield 60, 3) := by decide +kernel
theorem dX10_init_114 : decode cX10_init 114 = .ok (.aload_n 0, 1) := by decide +kernel
theorem dX10_init_115 : decode cX10_init 115 = .ok (.bipush 12, 2) := by decide +kernel
theorem dX10_init_117 : decode cX10_init 117 = .ok (.newarray .int, 2) := by decide +kernel
theorem dX10_init_119 : decode cX10_init 119 = .ok (.putfield 63, 3) := by decide +kernel
theorem dX10_init_122 : decode cX10_init 122 = .ok (.aload_n 0, 1) := by decide +kernel
theorem dX10_init_123 : decode cX10_init 123 = .ok (.bipush 12, 2) := by decide +kernel
theorem dX10_init_125 : decode cX10_init 125 = .ok (.newarray .int, 2) := by decide +kernel
theorem dX10_init_127 : decode cX10_init 127 = .ok (.putfield 66, 3) := by decide +kernel
theorem dX10_init_130 : decode cX10_init 130 = .ok (.aload_n 0, 1) := by decide +kernel
theorem dX10_init_131 : decode cX10_init 131 = .ok (.bipush 12, 2) := by decide +kernel
theorem dX10_init_133 : decode cX10_init 133 = .ok (.newarray .int, 2) := by decide +kernel
theorem dX10_init_135 : decode cX10_init 135 = .ok (.putfield 69, 3) := by decide +kernel
theorem dX10_init_138 : decode cX10_init 138 = .ok (.aload_n 0, 1) := by decide +kernel
theorem dX10_init_139 : decode cX10_init 139 = .ok (.sipush 144, 3) := by decide +kernel
theorem dX10_init_142 : decode cX10_init 142 = .ok (.newarray .int, 2) := by decide +kernel
theorem dX10_init_144 : decode cX10_init 144 = .ok (.putfield 72, 3) := by decide +kernel
theorem dX10_init_147 : decode cX10_init 147 = .ok (.aload_n 0, 1) := by decide +kernel
theorem dX10_init_148 : decode cX10_init 148 = .ok (.bipush 12, 2) := by decide +kernel
theorem dX10_init_150 : decode cX10_init 150 = .ok (.newarray .boolean, 2) := by decide +kernel
theorem dX10_init_152 : decode cX10_init 152 = .ok (.putfield 75, 3) := by decide +kernel
theorem dX10_init_155 : decode cX10_init 155 = .ok (.aload_n 0, 1) := by decide +kernel
theorem dX10_init_156 : decode cX10_init 156 = .ok (.bipush 12, 2) := by decide +kernel
theorem dX10_init_158 : decode cX10_init 158 = .ok (.newarray .boolean, 2) := by decide +kernel
theorem dX10_init_160 : decode cX10_init 160 = .ok (.putfield 79, 3) := by decide +kernel
theorem dX10_init_163 : decode cX10_init 163 = .ok (.aload_n 0, 1) := by decide +kernel
theorem dX10_init_164 : decode cX10_init 164 = .ok (.bipush 12, 2) := by decide +kernel
theorem dX10_init_166 : decode cX10_init 166 = .ok (.newarray .boolean, 2) := by decide +kernel
theorem dX10_init_168 : decode cX10_init 168 = .ok (.putfield 82, 3) := by decide +kernel
theorem dX10_init_171 : decode cX10_init 171 = .ok (.aload_n 0, 1) := by decide +kernel
theorem dX10_init_172 : decode cX10_init 172 = .ok (.iconst 0, 1) := by decide +kernel
theorem dX10_init_173 : decode cX10_init 173 = .ok (.putfield 85, 3) := by decide +kernel
theorem dX10_init_176 : decode cX10_init 176 = .ok (.aload_n 0, 1) := by decide +kernel
theorem dX10_init_177 : decode cX10_init 177 = .ok (.iconst 0, 1) := by decide +kernel
theorem dX10_init_178 : decode cX10_init 178 = .ok (.putfield 88, 3) := by decide +kernel
theorem dX10_init_181 : decode cX10_init 181 = .ok (.aload_n 0, 1) := by decide +kernel
theorem dX10_init_182 : decode cX10_init 182 = .ok (.bipush 12, 2) := by decide +kernel
theorem dX10_init_184 : decode cX10_init 184 = .ok (.newarray .int, 2) := by decide +kernel
theorem dX10_init_186 : decode cX10_init 186 = .ok (.putfield 91, 3) := by decide +kernel
theorem dX10_init_189 : decode cX10_init 189 = .ok (.aload_n 0, 1) := by decide +kernel
theorem dX10_init_190 : decode cX10_init 190 = .ok (.iconst 0, 1) := by decide +kernel
theorem dX10_init_191 : decode cX10_init 191 = .ok (.putfield 94, 3) := by decide +kernel
theorem dX10_init_194 : decode cX10_init 194 = .ok (.aload_n 0, 1) := by decide +kernel
theorem dX10_init_195 : decode cX10_init 195 = .ok (.iconst 0, 1) := by decide +kernel
theorem dX10_init_196 : decode cX10_init 196 = .ok (.putfield 97, 3) := by decide +kernel
theorem dX10_init_199 : decode cX10_init 199 = .ok (.aload_n 0, 1) := by decide +kernel
theorem dX10_init_200 : decode cX10_init 200 = .ok (.iconst 0, 1) := by decide +kernel
theorem dX10_init_201 : decode cX10_init 201 = .ok (.putfield 100, 3) := by decide +kernel
theorem dX10_init_204 : decode cX10_init 204 = .ok (.aload_n 0, 1) := by decide +kernel
theorem dX10_init_205 : decode cX10_init 205 = .ok (.iconst 0, 1) := by decide +kernel
theorem dX10_init_206 : decode cX10_init 206 = .ok (.putfield 103, 3) := by decide +kernel
theorem dX10_init_209 : decode cX10_init 209 = .ok (.aload_n 0, 1) := by decide +kernel
theorem dX10_init_210 : decode cX10_init 210 = .ok (.sipush 144, 3) := by decide +kernel
theorem dX10_init_213 : decode cX10_init 213 = .ok (.newarray .int, 2) := by decide +kernel
theorem dX10_init_215 : decode cX10_init 215 = .ok (.putfield 106, 3) := by decide +kernel
theorem dX10_init_218 : decode cX10_init 218 = .ok (.aload_n 0, 1) := by decide +kernel
theorem dX10_init_219 : decode cX10_init 219 = .ok (.sipush 144, 3) := by decide +kernel
theorem dX10_init_222 : decode cX10_init 222 = .ok (.newarray .boolean, 2) := by decide +kernel
theorem dX10_init_224 : decode cX10_init 224 = .ok (.putfield 109, 3) := by decide +kernel
theorem dX10_init_227 : decode cX10_init 227 = .ok (.aload_n 0, 1) := by decide +kernel
theorem dX10_init_228 : decode cX10_init 228 = .ok (.sipush 144, 3) := by decide +kernel
theorem dX10_init_231 : decode cX10_init 231 = .ok (.newarray .boolean, 2) := by decide +kernel
theorem dX10_init_233 : decode cX10_init 233 = .ok (.putfield 112, 3) := by decide +kernel
theorem dX10_init_236 : decode cX10_init 236 = .ok (.aload_n 0, 1) := by decide +kernel
theorem dX10_init_237 : decode cX10_init 237 = .ok (.iconst 0, 1) := by decide +kernel
theorem dX10_init_238 : decode cX10_init 238 = .ok (.putfield 115, 3) := by decide +kernel
theorem dX10_init_241 : decode cX10_init 241 = .ok (.aload_n 0, 1) := by decide +kernel
theorem dX10_init_242 : decode cX10_init 242 = .ok (.iconst 0, 1) := by decide +kernel
theorem dX10_init_243 : decode cX10_init 243 = .ok (.putfield 118, 3) := by decide +kernel
theorem dX10_init_246 : decode cX10_init 246 = .ok (.aload_n 0, 1) := by decide +kernel
theorem dX10_init_247 : decode cX10_init 247 = .ok (.iconst 0, 1) := by decide +kernel
theorem dX10_init_248 : decode cX10_init 248 = .ok (.putfield 121, 3) := by decide +kernel
theorem dX10_init_251 : decode cX10_init 251 = .ok (.aload_n 0, 1) := by decide +kernel
theorem dX10_init_252 : decode cX10_init 252 = .ok (.iconst 0, 1) := by decide +kernel
theorem dX10_init_253 : decode cX10_init 253 = .ok (.putfield 124, 3) := by decide +kernel
theorem dX10_init_256 : decode cX10_init 256 = .ok (.aload_n 0, 1) := by decide +kernel
theorem dX10_init_257 : decode cX10_init 257 = .ok (.iconst 0, 1) := by decide +kernel
theorem dX10_init_258 : decode cX10_init 258 = .ok (.putfield 127, 3) := by decide +kernel
theorem dX10_init_261 : decode cX10_init 261 = .ok (.aload_n 0, 1) := by decide +kernel
theorem dX10_init_262 : decode cX10_init 262 = .ok (.iconst 0, 1) := by decide +kernel
theorem dX10_init_263 : decode cX10_init 263 = .ok (.putfield 130, 3) := by decide +kernel
theorem dX10_init_266 : decode cX10_init 266 = .ok (.aload_n 0, 1) := by decide +kernel
theorem dX10_init_267 : decode cX10_init 267 = .ok (.iconst 0, 1) := by decide +kernel
theorem dX10_init_268 : decode cX10_init 268 = .ok (.putfield 133, 3) := by decide +kernel
theorem dX10_init_271 : decode cX10_init 271 = .ok (.aload_n 0, 1) := by decide +kernel
theorem dX10_init_272 : decode cX10_init 272 = .ok (.iconst 0, 1) := by decide +kernel
theorem dX10_init_273 : decode cX10_init 273 = .ok (.putfield 136, 3) := by decide +kernel
theorem dX10_init_276 : decode cX10_init 276 = .ok (.aload_n 0, 1) := by decide +kernel
theorem dX10_init_277 : decode cX10_init 277 = .ok (.iconst 0, 1) := by decide +kernel
theorem dX10_init_278 : decode cX10_init 278 = .ok (.putfield 139, 3) := by decide +kernel
theorem dX10_init_281 : decode cX10_init 281 = .ok (.aload_n 0, 1) := by decide +kernel
theorem dX10_init_282 : decode cX10_init 282 = .ok (.bipush 10, 2) := by decide +kernel
theorem dX10_init_284 : decode cX10_init 284 = .ok (.newarray .int, 2) := by decide +kernel
theorem dX10_init_286 : decode cX10_init 286 = .ok (.putfield 142, 3) := by decide +kernel
theorem dX10_init_289 : decode cX10_init 289 = .ok (.aload_n 0, 1) := by decide +kernel
theorem dX10_init_290 : decode cX10_init 290 = .ok (.bipush 12, 2) := by decide +kernel
theorem dX10_init_292 : decode cX10_init 292 = .ok (.newarray .int, 2) := by decide +kernel
theorem dX10_init_294 : decode cX10_init 294 = .ok (.putfield 145, 3) := by decide +kernel
theorem dX10_init_297 : decode cX10_init 297 = .ok (.aload_n 0, 1) := by decide +kernel
theorem dX10_init_298 : decode cX10_init 298 = .ok (.bipush 12, 2) := by decide +kernel
theorem dX10_init_300 : decode cX10_init 300 = .ok (.newarray .int, 2) := by decide +kernel
theorem dX10_init_302 : decode cX10_init 302 = .ok (.putfield 148, 3) := by decide +kernel
theorem dX10_init_305 : decode cX10_init 305 = .ok (.aload_n 0, 1) := by decide +kernel
theorem dX10_init_306 : decode cX10_init 306 = .ok (.bipush 121, 2) := by decide +kernel
theorem dX10_init_308 : decode cX10_init 308 = .ok (.newarray .int, 2) := by decide +kernel
theorem dX10_init_310 : decode cX10_init 310 = .ok (.putfield 151, 3) := by decide +kernel
theorem dX10_init_313 : decode cX10_init 313 = .ok (.aload_n 0, 1) := by decide +kernel
theorem dX10_init_314 : decode cX10_init 314 = .ok (.getfield 13, 3) := by decide +kernel
theorem dX10_init_317 : decode cX10_init 317 = .ok (.iconst 1, 1) := by decide +kernel
theorem dX10_init_318 : decode cX10_init 318 = .ok (.iconst 5, 1) := by decide +kernel
theorem dX10_init_319 : decode cX10_init 319 = .ok (.iastore, 1) := by decide +kernel
theorem dX10_init_320 : decode cX10_init 320 = .ok (.aload_n 0, 1) := by decide +kernel
theorem dX10_init_321 : decode cX10_init 321 = .ok (.getfield 13, 3) := by decide +kernel
theorem dX10_init_324 : decode cX10_init 324 = .ok (.iconst 3, 1) := by decide +kernel
theorem dX10_init_325 : decode cX10_init 325 = .ok (.bipush 6, 2) := by decide +kernel
theorem dX10_init_327 : decode cX10_init 327 = .ok (.iastore, 1) := by decide +kernel
theorem dX10_init_328 : decode cX10_init 328 = .ok (.return_, 1) := by decide +kernel
theorem dX10_in_0 : decode cX10_in 0 = .ok (.iload_n 0, 1) := by decide +kernel
theorem dX10_in_1 : decode cX10_in 1 = .ok (.iload_n 1, 1) := by decide +kernel
theorem dX10_in_2 : decode cX10_in 2 = .ok (.if_icmp .lt 12, 3) := by decide +kernel
theorem dX10_in_5 : decode cX10_in 5 = .ok (.iload_n 0, 1) := by decide +kernel
theorem dX10_in_6 : decode cX10_in 6 = .ok (.iload_n 2, 1) := by decide +kernel
theorem dX10_in_7 : decode cX10_in 7 = .ok (.if_icmp .gt 7, 3) := by decide +kernel
theorem dX10_in_10 : decode cX10_in 10 = .ok (.iconst 1, 1) := by decide +kernel
theorem dX10_in_11 : decode cX10_in 11 = .ok (.goto 4, 3) := by decide +kernel
theorem dX10_in_14 : decode cX10_in 14 = .ok (.iconst 0, 1) := by decide +kernel
theorem dX10_in_15 : decode cX10_in 15 = .ok (.ireturn, 1) := by decide +kernel
theorem dX10_fails_0 : decode cX10_fails 0 = .ok (.aload_n 0, 1) := by decide +kernel
theorem dX10_fails_1 : decode cX10_fails 1 = .ok (.iload_n 1, 1) := by decide +kernel
theorem dX10_fails_2 : decode cX10_fails 2 = .ok (.putfield 3, 3) := by decide +kernel
theorem dX10_fails_5 : decode cX10_fails 5 = .ok (.iconst 0, 1) := by decide +kernel
theorem dX10_fails_6 : decode cX10_fails 6 = .ok (.ireturn, 1) := by decide +kernel
theorem dX10_copies_0 : decode cX10_copies 0 = .ok (.iconst 0, 1) := by decide +kernel
theorem dX10_copies_1 : decode cX10_copies 1 = .ok (.istore 4, 2) := by decide +kernel
theorem dX10_copies_3 : decode cX10_copies 3 = .ok (.iload 4, 2) := by decide +kernel
theorem dX10_copies_5 : decode cX10_copies 5 = .ok (.sipush 2609, 3) := by decide +kernel
theorem dX10_copies_8 : decode cX10_copies 8 = .ok (.if_icmp .ge 21, 3) := by decide +kernel
theorem dX10_copies_11 : decode cX10_copies 11 = .ok (.aload_n 2, 1) := by decide +kernel
theorem dX10_copies_12 : decode cX10_copies 12 = .ok (.iload_n 3, 1) := by decide +kernel
theorem dX10_copies_13 : decode cX10_copies 13 = .ok (.iload 4, 2) := by decide +kernel
theorem dX10_copies_15 : decode cX10_copies 15 = .ok (.iadd, 1) := by decide +kernel
theorem dX10_copies_16 : decode cX10_copies 16 = .ok (.aload_n 0, 1) := by decide +kernel
theorem dX10_copies_17 : decode cX10_copies 17 = .ok (.iload_n 1, 1) := by decide +kernel
theorem dX10_copies_18 : decode cX10_copies 18 = .ok (.iload 4, 2) := by decide +kernel
theorem dX10_copies_20 : decode cX10_copies 20 = .ok (.iadd, 1) := by decide +kernel
theorem dX10_copies_21 : decode cX10_copies 21 = .ok (.iaload, 1) := by decide +kernel
theorem dX10_copies_22 : decode cX10_copies 22 = .ok (.iastore, 1) := by decide +kernel
theorem dX10_copies_23 : decode cX10_copies 23 = .ok (.iinc 4 1, 3) := by decide +kernel
theorem dX10_copies_26 : decode cX10_copies 26 = .ok (.goto (-23), 3) := by decide +kernel
theorem dX10_copies_29 : decode cX10_copies 29 = .ok (.return_, 1) := by decide +kernel
theorem dX10_keeps_0 : decode cX10_keeps 0 = .ok (.aload_n 0, 1) := by decide +kernel
theorem dX10_keeps_1 : decode cX10_keeps 1 = .ok (.getfield 26, 3) := by decide +kernel
theorem dX10_keeps_4 : decode cX10_keeps 4 = .ok (.bipush 8, 2) := by decide +kernel
theorem dX10_keeps_6 : decode cX10_keeps 6 = .ok (.if_icmp .ne 50, 3) := by decide +kernel
theorem dX10_keeps_9 : decode cX10_keeps 9 = .ok (.iconst 1, 1) := by decide +kernel
theorem dX10_keeps_10 : decode cX10_keeps 10 = .ok (.istore_n 1, 1) := by decide +kernel
theorem dX10_keeps_11 : decode cX10_keeps 11 = .ok (.iload_n 1, 1) := by decide +kernel
theorem dX10_keeps_12 : decode cX10_keeps 12 = .ok (.bipush 8, 2) := by decide +kernel
theorem dX10_keeps_14 : decode cX10_keeps 14 = .ok (.if_icmp .ge 32, 3) := by decide +kernel
theorem dX10_keeps_17 : decode cX10_keeps 17 = .ok (.aload_n 0, 1) := by decide +kernel
theorem dX10_keeps_18 : decode cX10_keeps 18 = .ok (.getfield 23, 3) := by decide +kernel
theorem dX10_keeps_21 : decode cX10_keeps 21 = .ok (.sipush 2609, 3) := by decide +kernel
theorem dX10_keeps_24 : decode cX10_keeps 24 = .ok (.iload_n 1, 1) := by decide +kernel
theorem dX10_keeps_25 : decode cX10_keeps 25 = .ok (.imul, 1) := by decide +kernel
theorem dX10_keeps_26 : decode cX10_keeps 26 = .ok (.aload_n 0, 1) := by decide +kernel
theorem dX10_keeps_27 : decode cX10_keeps 27 = .ok (.getfield 23, 3) := by decide +kernel
theorem dX10_keeps_30 : decode cX10_keeps 30 = .ok (.sipush 2609, 3) := by decide +kernel
theorem dX10_keeps_33 : decode cX10_keeps 33 = .ok (.iload_n 1, 1) := by decide +kernel
theorem dX10_keeps_34 : decode cX10_keeps 34 = .ok (.iconst 1, 1) := by decide +kernel
theorem dX10_keeps_35 : decode cX10_keeps 35 = .ok (.isub, 1) := by decide +kernel
theorem dX10_keeps_36 : decode cX10_keeps 36 = .ok (.imul, 1) := by decide +kernel
theorem dX10_keeps_37 : decode cX10_keeps 37 = .ok (.invokestatic 154, 3) := by decide +kernel
theorem dX10_keeps_40 : decode cX10_keeps 40 = .ok (.iinc 1 1, 3) := by decide +kernel
theorem dX10_keeps_43 : decode cX10_keeps 43 = .ok (.goto (-32), 3) := by decide +kernel
theorem dX10_keeps_46 : decode cX10_keeps 46 = .ok (.aload_n 0, 1) := by decide +kernel
theorem dX10_keeps_47 : decode cX10_keeps 47 = .ok (.dup, 1) := by decide +kernel
theorem dX10_keeps_48 : decode cX10_keeps 48 = .ok (.getfield 26, 3) := by decide +kernel
theorem dX10_keeps_51 : decode cX10_keeps 51 = .ok (.iconst 1, 1) := by decide +kernel
theorem dX10_keeps_52 : decode cX10_keeps 52 = .ok (.isub, 1) := by decide +kernel
theorem dX10_keeps_53 : decode cX10_keeps 53 = .ok (.putfield 26, 3) := by decide +kernel
theorem dX10_keeps_56 : decode cX10_keeps 56 = .ok (.aload_n 0, 1) := by decide +kernel
theorem dX10_keeps_57 : decode cX10_keeps 57 = .ok (.getfield 13, 3) := by decide +kernel
theorem dX10_keeps_60 : decode cX10_keeps 60 = .ok (.iconst 0, 1) := by decide +kernel
theorem dX10_keeps_61 : decode cX10_keeps 61 = .ok (.aload_n 0, 1) := by decide +kernel
theorem dX10_keeps_62 : decode cX10_keeps 62 = .ok (.getfield 23, 3) := by decide +kernel
theorem dX10_keeps_65 : decode cX10_keeps 65 = .ok (.sipush 2609, 3) := by decide +kernel
theorem dX10_keeps_68 : decode cX10_keeps 68 = .ok (.aload_n 0, 1) := by decide +kernel
theorem dX10_keeps_69 : decode cX10_keeps 69 = .ok (.getfield 26, 3) := by decide +kernel
theorem dX10_keeps_72 : decode cX10_keeps 72 = .ok (.imul, 1) := by decide +kernel
theorem dX10_keeps_73 : decode cX10_keeps 73 = .ok (.invokestatic 154, 3) := by decide +kernel
theorem dX10_keeps_76 : decode cX10_keeps 76 = .ok (.aload_n 0, 1) := by decide +kernel
theorem dX10_keeps_77 : decode cX10_keeps 77 = .ok (.dup, 1) := by decide +kernel
theorem dX10_keeps_78 : decode cX10_keeps 78 = .ok (.getfield 26, 3) := by decide +kernel
theorem dX10_keeps_81 : decode cX10_keeps 81 = .ok (.iconst 1, 1) := by decide +kernel
theorem dX10_keeps_82 : decode cX10_keeps 82 = .ok (.iadd, 1) := by decide +kernel
theorem dX10_keeps_83 : decode cX10_keeps 83 = .ok (.putfield 26, 3) := by decide +kernel
theorem dX10_keeps_86 : decode cX10_keeps 86 = .ok (.return_, 1) := by decide +kernel
theorem dX10_isLetter_0 : decode cX10_isLetter 0 = .ok (.iload_n 0, 1) := by decide +kernel
theorem dX10_isLetter_1 : decode cX10_isLetter 1 = .ok (.bipush 97, 2) := by decide +kernel
theorem dX10_isLetter_3 : decode cX10_isLetter 3 = .ok (.bipush 122, 2) := by decide +kernel
theorem dX10_isLetter_5 : decode cX10_isLetter 5 = .ok (.invokestatic 158, 3) := by decide +kernel
theorem dX10_isLetter_8 : decode cX10_isLetter 8 = .ok (.ireturn, 1) := by decide +kernel
theorem dX10_isVowel_0 : decode cX10_isVowel 0 = .ok (.iload_n 0, 1) := by decide +kernel
theorem dX10_isVowel_1 : decode cX10_isVowel 1 = .ok (.bipush 97, 2) := by decide +kernel
theorem dX10_isVowel_3 : decode cX10_isVowel 3 = .ok (.if_icmp .eq 33, 3) := by decide +kernel
theorem dX10_isVowel_6 : decode cX10_isVowel 6 = .ok (.iload_n 0, 1) := by decide +kernel
theorem dX10_isVowel_7 : decode cX10_isVowel 7 = .ok (.bipush 101, 2) := by decide +kernel
theorem dX10_isVowel_9 : decode cX10_isVowel 9 = .ok (.if_icmp .eq 27, 3) := by decide +kernel
theorem dX10_isVowel_12 : decode cX10_isVowel 12 = .ok (.iload_n 0, 1) := by decide +kernel
theorem dX10_isVowel_13 : decode cX10_isVowel 13 = .ok (.bipush 105, 2) := by decide +kernel
theorem dX10_isVowel_15 : decode cX10_isVowel 15 = .ok (.if_icmp .eq 21, 3) := by decide +kernel
theorem dX10_isVowel_18 : decode cX10_isVowel 18 = .ok (.iload_n 0, 1) := by decide +kernel
theorem dX10_isVowel_19 : decode cX10_isVowel 19 = .ok (.bipush 111, 2) := by decide +kernel
theorem dX10_isVowel_21 : decode cX10_isVowel 21 = .ok (.if_icmp .eq 15, 3) := by decide +kernel
theorem dX10_isVowel_24 : decode cX10_isVowel 24 = .ok (.iload_n 0, 1) := by decide +kernel
theorem dX10_isVowel_25 : decode cX10_isVowel 25 = .ok (.bipush 117, 2) := by decide +kernel
theorem dX10_isVowel_27 : decode cX10_isVowel 27 = .ok (.if_icmp .eq 9, 3) := by decide +kernel
theorem dX10_isVowel_30 : decode cX10_isVowel 30 = .ok (.iload_n 0, 1) := by decide +kernel
theorem dX10_isVowel_31 : decode cX10_isVowel 31 = .ok (.bipush 121, 2) := by decide +kernel
theorem dX10_isVowel_33 : decode cX10_isVowel 33 = .ok (.if_icmp .ne 7, 3) := by decide +kernel
theorem dX10_isVowel_36 : decode cX10_isVowel 36 = .ok (.iconst 1, 1) := by decide +kernel
theorem dX10_isVowel_37 : decode cX10_isVowel 37 = .ok (.goto 4, 3) := by decide +kernel
theorem dX10_isVowel_40 : decode cX10_isVowel 40 = .ok (.iconst 0, 1) := by decide +kernel
theorem dX10_isVowel_41 : decode cX10_isVowel 41 = .ok (.ireturn, 1) := by decide +kernel
theorem dX10_feed_0 : decode cX10_feed 0 = .ok (.aload_n 0, 1) := by decide +kernel
theorem dX10_feed_1 : decode cX10_feed 1 = .ok (.iconst 0, 1) := by decide +kernel
theorem dX10_feed_2 : decode cX10_feed 2 = .ok (.putfield 3, 3) := by decide +kernel
theorem dX10_feed_5 : decode cX10_feed 5 = .ok (.aload_n 0, 1) := by decide +kernel
theorem dX10_feed_6 : decode cX10_feed 6 = .ok (.getfield 36, 3) := by decide +kernel
theorem dX10_feed_9 : decode cX10_feed 9 = .ok (.bipush 60, 2) := by decide +kernel
theorem dX10_feed_11 : decode cX10_feed 11 = .ok (.if_icmp .ne 9, 3) := by decide +kernel
theorem dX10_feed_14 : decode cX10_feed 14 = .ok (.aload_n 0, 1) := by decide +kernel
theorem dX10_feed_15 : decode cX10_feed 15 = .ok (.iconst 1, 1) := by decide +kernel
theorem dX10_feed_16 : decode cX10_feed 16 = .ok (.invokevirtual 162, 3) := by decide +kernel
theorem dX10_feed_19 : decode cX10_feed 19 = .ok (.ireturn, 1) := by decide +kernel
theorem dX10_feed_20 : decode cX10_feed 20 = .ok (.aload_n 0, 1) := by decide +kernel
theorem dX10_feed_21 : decode cX10_feed 21 = .ok (.getfield 33, 3) := by decide +kernel
theorem dX10_feed_24 : decode cX10_feed 24 = .ok (.aload_n 0, 1) := by decide +kernel
theorem dX10_feed_25 : decode cX10_feed 25 = .ok (.getfield 36, 3) := by decide +kernel
theorem dX10_feed_28 : decode cX10_feed 28 = .ok (.iload_n 1, 1) := by decide +kernel
theorem dX10_feed_29 : decode cX10_feed 29 = .ok (.iastore, 1) := by decide +kernel
theorem dX10_feed_30 : decode cX10_feed 30 = .ok (.aload_n 0, 1) := by decide +kernel
theorem dX10_feed_31 : decode cX10_feed 31 = .ok (.dup, 1) := by decide +kernel
theorem dX10_feed_32 : decode cX10_feed 32 = .ok (.getfield 36, 3) := by decide +kernel
theorem dX10_feed_35 : decode cX10_feed 35 = .ok (.iconst 1, 1) := by decide +kernel
theorem dX10_feed_36 : decode cX10_feed 36 = .ok (.iadd, 1) := by decide +kernel
theorem dX10_feed_37 : decode cX10_feed 37 = .ok (.putfield 36, 3) := by decide +kernel
theorem dX10_feed_40 : decode cX10_feed 40 = .ok (.aload_n 0, 1) := by decide +kernel
theorem dX10_feed_41 : decode cX10_feed 41 = .ok (.getfield 36, 3) := by decide +kernel
theorem dX10_feed_44 : decode cX10_feed 44 = .ok (.ireturn, 1) := by decide +kernel
theorem dX10_errorPosition_0 : decode cX10_errorPosition 0 = .ok (.aload_n 0, 1) := by decide +kernel
theorem dX10_errorPosition_1 : decode cX10_errorPosition 1 = .ok (.iconst 0, 1) := by decide +kernel
theorem dX10_errorPosition_2 : decode cX10_errorPosition 2 = .ok (.putfield 3, 3) := by decide +kernel
theorem dX10_errorPosition_5 : decode cX10_errorPosition 5 = .ok (.aload_n 0, 1) := by decide +kernel
theorem dX10_errorPosition_6 : decode cX10_errorPosition 6 = .ok (.getfield 42, 3) := by decide +kernel
theorem dX10_errorPosition_9 : decode cX10_errorPosition 9 = .ok (.ifCond .ge 11, 3) := by decide +kernel
theorem dX10_errorPosition_12 : decode cX10_errorPosition 12 = .ok (.aload_n 0, 1) := by decide +kernel
theorem dX10_errorPosition_13 : decode cX10_errorPosition 13 = .ok (.iconst 1, 1) := by decide +kernel
theorem dX10_errorPosition_14 : decode cX10_errorPosition 14 = .ok (.invokevirtual 162, 3) := by decide +kernel
theorem dX10_errorPosition_17 : decode cX10_errorPosition 17 = .ok (.goto 7, 3) := by decide +kernel
theorem dX10_errorPosition_20 : decode cX10_errorPosition 20 = .ok (.aload_n 0, 1) := by decide +kernel
theorem dX10_errorPosition_21 : decode cX10_errorPosition 21 = .ok (.getfield 42, 3) := by decide +kernel
theorem dX10_errorPosition_24 : decode cX10_errorPosition 24 = .ok (.ireturn, 1) := by decide +kernel
theorem dX10_sign_0 : decode cX10_sign 0 = .ok (.aload_n 0, 1) := by decide +kernel
theorem dX10_sign_1 : decode cX10_sign 1 = .ok (.getfield 45, 3) := by decide +kernel
theorem dX10_sign_4 : decode cX10_sign 4 = .ok (.ifCond .ne 26, 3) := by decide +kernel
theorem dX10_sign_7 : decode cX10_sign 7 = .ok (.aload_n 0, 1) := by decide +kernel
theorem dX10_sign_8 : decode cX10_sign 8 = .ok (.getfield 39, 3) := by decide +kernel
theorem dX10_sign_11 : decode cX10_sign 11 = .ok (.aload_n 0, 1) := by decide +kernel
theorem dX10_sign_12 : decode cX10_sign 12 = .ok (.getfield 36, 3) := by decide +kernel
theorem dX10_sign_15 : decode cX10_sign 15 = .ok (.if_icmp .ge 15, 3) := by decide +kernel
theorem dX10_sign_18 : decode cX10_sign 18 = .ok (.aload_n 0, 1) := by decide +kernel
theorem dX10_sign_19 : decode cX10_sign 19 = .ok (.getfield 33, 3) := by decide +kernel
theorem dX10_sign_22 : decode cX10_sign 22 = .ok (.aload_n 0, 1) := by decide +kernel
theorem dX10_sign_23 : decode cX10_sign 23 = .ok (.getfield 39, 3) := by decide +kernel
theorem dX10_sign_26 : decode cX10_sign 26 = .ok (.iaload, 1) := by decide +kernel
theorem dX10_sign_27 : decode cX10_sign 27 = .ok (.goto 4, 3) := by decide +kernel
theorem dX10_sign_30 : decode cX10_sign 30 = .ok (.iconst (-1), 1) := by decide +kernel
theorem dX10_sign_31 : decode cX10_sign 31 = .ok (.ireturn, 1) := by decide +kernel
theorem dX10_takes_0 : decode cX10_takes 0 = .ok (.aload_n 0, 1) := by decide +kernel
theorem dX10_takes_1 : decode cX10_takes 1 = .ok (.invokevirtual 166, 3) := by decide +kernel
theorem dX10_takes_4 : decode cX10_takes 4 = .ok (.iload_n 1, 1) := by decide +kernel
theorem dX10_takes_5 : decode cX10_takes 5 = .ok (.if_icmp .ne 16, 3) := by decide +kernel
theorem dX10_takes_8 : decode cX10_takes 8 = .ok (.aload_n 0, 1) := by decide +kernel
theorem dX10_takes_9 : decode cX10_takes 9 = .ok (.dup, 1) := by decide +kernel
theorem dX10_takes_10 : decode cX10_takes 10 = .ok (.getfield 39, 3) := by decide +kernel
theorem dX10_takes_13 : decode cX10_takes 13 = .ok (.iconst 1, 1) := by decide +kernel
theorem dX10_takes_14 : decode cX10_takes 14 = .ok (.iadd, 1) := by decide +kernel
theorem dX10_takes_15 : decode cX10_takes 15 = .ok (.putfield 39, 3) := by decide +kernel
theorem dX10_takes_18 : decode cX10_takes 18 = .ok (.goto 8, 3) := by decide +kernel
theorem dX10_takes_21 : decode cX10_takes 21 = .ok (.aload_n 0, 1) := by decide +kernel
theorem dX10_takes_22 : decode cX10_takes 22 = .ok (.iconst 1, 1) := by decide +kernel
theorem dX10_takes_23 : decode cX10_takes 23 = .ok (.putfield 45, 3) := by decide +kernel
theorem dX10_takes_26 : decode cX10_takes 26 = .ok (.return_, 1) := by decide +kernel
theorem dX10_digit_0 : decode cX10_digit 0 = .ok (.aload_n 0, 1) := by decide +kernel
theorem dX10_digit_1 : decode cX10_digit 1 = .ok (.dup, 1) := by decide +kernel
theorem dX10_digit_2 : decode cX10_digit 2 = .ok (.getfield 45, 3) := by decide +kernel
theorem dX10_digit_5 : decode cX10_digit 5 = .ok (.aload_n 0, 1) := by decide +kernel
theorem dX10_digit_6 : decode cX10_digit 6 = .ok (.invokevirtual 166, 3) := by decide +kernel
theorem dX10_digit_9 : decode cX10_digit 9 = .ok (.bipush 48, 2) := by decide +kernel
theorem dX10_digit_11 : decode cX10_digit 11 = .ok (.iload_n 1, 1) := by decide +kernel
theorem dX10_digit_12 : decode cX10_digit 12 = .ok (.iadd, 1) := by decide +kernel
theorem dX10_digit_13 : decode cX10_digit 13 = .ok (.bipush 48, 2) := by decide +kernel
theorem dX10_digit_15 : decode cX10_digit 15 = .ok (.iload_n 2, 1) := by decide +kernel
theorem dX10_digit_16 : decode cX10_digit 16 = .ok (.iadd, 1) := by decide +kernel
theorem dX10_digit_17 : decode cX10_digit 17 = .ok (.invokestatic 158, 3) := by decide +kernel
theorem dX10_digit_20 : decode cX10_digit 20 = .ok (.ifCond .ne 7, 3) := by decide +kernel
theorem dX10_digit_23 : decode cX10_digit 23 = .ok (.iconst 1, 1) := by decide +kernel
theorem dX10_digit_24 : decode cX10_digit 24 = .ok (.goto 4, 3) := by decide +kernel
theorem dX10_digit_27 : decode cX10_digit 27 = .ok (.iconst 0, 1) := by decide +kernel
theorem dX10_digit_28 : decode cX10_digit 28 = .ok (.ior, 1) := by decide +kernel
theorem dX10_digit_29 : decode cX10_digit 29 = .ok (.putfield 45, 3) := by decide +kernel
theorem dX10_digit_32 : decode cX10_digit 32 = .ok (.aload_n 0, 1) := by decide +kernel
theorem dX10_digit_33 : decode cX10_digit 33 = .ok (.getfield 45, 3) := by decide +kernel
theorem dX10_digit_36 : decode cX10_digit 36 = .ok (.ifCond .eq 5, 3) := by decide +kernel
theorem dX10_digit_39 : decode cX10_digit 39 = .ok (.iconst 0, 1) := by decide +kernel
theorem dX10_digit_40 : decode cX10_digit 40 = .ok (.ireturn, 1) := by decide +kernel
theorem dX10_digit_41 : decode cX10_digit 41 = .ok (.aload_n 0, 1) := by decide +kernel
theorem dX10_digit_42 : decode cX10_digit 42 = .ok (.dup, 1) := by decide +kernel
theorem dX10_digit_43 : decode cX10_digit 43 = .ok (.getfield 39, 3) := by decide +kernel
theorem dX10_digit_46 : decode cX10_digit 46 = .ok (.iconst 1, 1) := by decide +kernel
theorem dX10_digit_47 : decode cX10_digit 47 = .ok (.iadd, 1) := by decide +kernel
theorem dX10_digit_48 : decode cX10_digit 48 = .ok (.putfield 39, 3) := by decide +kernel
theorem dX10_digit_51 : decode cX10_digit 51 = .ok (.aload_n 0, 1) := by decide +kernel
theorem dX10_digit_52 : decode cX10_digit 52 = .ok (.getfield 33, 3) := by decide +kernel
theorem dX10_digit_55 : decode cX10_digit 55 = .ok (.aload_n 0, 1) := by decide +kernel
theorem dX10_digit_56 : decode cX10_digit 56 = .ok (.getfield 39, 3) := by decide +kernel
theorem dX10_digit_59 : decode cX10_digit 59 = .ok (.iconst 1, 1) := by decide +kernel
theorem dX10_digit_60 : decode cX10_digit 60 = .ok (.isub, 1) := by decide +kernel
theorem dX10_digit_61 : decode cX10_digit 61 = .ok (.iaload, 1) := by decide +kernel
theorem dX10_digit_62 : decode cX10_digit 62 = .ok (.bipush 48, 2) := by decide +kernel
theorem dX10_digit_64 : decode cX10_digit 64 = .ok (.isub, 1) := by decide +kernel
theorem dX10_digit_65 : decode cX10_digit 65 = .ok (.ireturn, 1) := by decide +kernel
theorem dX10_word_0 : decode cX10_word 0 = .ok (.aload_n 0, 1) := by decide +kernel
theorem dX10_word_1 : decode cX10_word 1 = .ok (.getfield 39, 3) := by decide +kernel
theorem dX10_word_4 : decode cX10_word 4 = .ok (.istore_n 1, 1) := by decide +kernel
theorem dX10_word_5 : decode cX10_word 5 = .ok (.aload_n 0, 1) := by decide +kernel
theorem dX10_word_6 : decode cX10_word 6 = .ok (.invokevirtual 166, 3) := by decide +kernel
theorem dX10_word_9 : decode cX10_word 9 = .ok (.invokestatic 170, 3) := by decide +kernel
theorem dX10_word_12 : decode cX10_word 12 = .ok (.ifCond .eq 27, 3) := by decide +kernel
theorem dX10_word_15 : decode cX10_word 15 = .ok (.aload_n 0, 1) := by decide +kernel
theorem dX10_word_16 : decode cX10_word 16 = .ok (.getfield 39, 3) := by decide +kernel
theorem dX10_word_19 : decode cX10_word 19 = .ok (.iload_n 1, 1) := by decide +kernel
theorem dX10_word_20 : decode cX10_word 20 = .ok (.isub, 1) := by decide +kernel
theorem dX10_word_21 : decode cX10_word 21 = .ok (.bipush 12, 2) := by decide +kernel
theorem dX10_word_23 : decode cX10_word 23 = .ok (.if_icmp .ge 16, 3) := by decide +kernel
theorem dX10_word_26 : decode cX10_word 26 = .ok (.aload_n 0, 1) := by decide +kernel
theorem dX10_word_27 : decode cX10_word 27 = .ok (.dup, 1) := by decide +kernel
theorem dX10_word_28 : decode cX10_word 28 = .ok (.getfield 39, 3) := by decide +kernel
theorem dX10_word_31 : decode cX10_word 31 = .ok (.iconst 1, 1) := by decide +kernel
theorem dX10_word_32 : decode cX10_word 32 = .ok (.iadd, 1) := by decide +kernel
theorem dX10_word_33 : decode cX10_word 33 = .ok (.putfield 39, 3) := by decide +kernel
theorem dX10_word_36 : decode cX10_word 36 = .ok (.goto (-31), 3) := by decide +kernel
theorem dX10_word_39 : decode cX10_word 39 = .ok (.aload_n 0, 1) := by decide +kernel
theorem dX10_word_40 : decode cX10_word 40 = .ok (.dup, 1) := by decide +kernel
theorem dX10_word_41 : decode cX10_word 41 = .ok (.getfield 45, 3) := by decide +kernel
theorem dX10_word_44 : decode cX10_word 44 = .ok (.aload_n 0, 1) := by decide +kernel
theorem dX10_word_45 : decode cX10_word 45 = .ok (.getfield 39, 3) := by decide +kernel
theorem dX10_word_48 : decode cX10_word 48 = .ok (.iload_n 1, 1) := by decide +kernel
theorem dX10_word_49 : decode cX10_word 49 = .ok (.if_icmp .eq 13, 3) := by decide +kernel
theorem dX10_word_52 : decode cX10_word 52 = .ok (.aload_n 0, 1) := by decide +kernel
theorem dX10_word_53 : decode cX10_word 53 = .ok (.invokevirtual 166, 3) := by decide +kernel
theorem dX10_word_56 : decode cX10_word 56 = .ok (.invokestatic 170, 3) := by decide +kernel
theorem dX10_word_59 : decode cX10_word 59 = .ok (.ifCond .eq 7, 3) := by decide +kernel
theorem dX10_word_62 : decode cX10_word 62 = .ok (.iconst 1, 1) := by decide +kernel
theorem dX10_word_63 : decode cX10_word 63 = .ok (.goto 4, 3) := by decide +kernel
theorem dX10_word_66 : decode cX10_word 66 = .ok (.iconst 0, 1) := by decide +kernel
theorem dX10_word_67 : decode cX10_word 67 = .ok (.ior, 1) := by decide +kernel
theorem dX10_word_68 : decode cX10_word 68 = .ok (.putfield 45, 3) := by decide +kernel
theorem dX10_word_71 : decode cX10_word 71 = .ok (.aload_n 0, 1) := by decide +kernel
theorem dX10_word_72 : decode cX10_word 72 = .ok (.getfield 39, 3) := by decide +kernel
theorem dX10_word_75 : decode cX10_word 75 = .ok (.iload_n 1, 1) := by decide +kernel
theorem dX10_word_76 : decode cX10_word 76 = .ok (.isub, 1) := by decide +kernel
theorem dX10_word_77 : decode cX10_word 77 = .ok (.ireturn, 1) := by decide +kernel
theorem dX10_isWrong_0 : decode cX10_isWrong 0 = .ok (.aload_n 0, 1) := by decide +kernel
theorem dX10_isWrong_1 : decode cX10_isWrong 1 = .ok (.dup, 1) := by decide +kernel
theorem dX10_isWrong_2 : decode cX10_isWrong 2 = .ok (.getfield 45, 3) := by decide +kernel
theorem dX10_isWrong_5 : decode cX10_isWrong 5 = .ok (.aload_n 0, 1) := by decide +kernel
theorem dX10_isWrong_6 : decode cX10_isWrong 6 = .ok (.getfield 39, 3) := by decide +kernel
theorem dX10_isWrong_9 : decode cX10_isWrong 9 = .ok (.aload_n 0, 1) := by decide +kernel
theorem dX10_isWrong_10 : decode cX10_isWrong 10 = .ok (.getfield 36, 3) := by decide +kernel
theorem dX10_isWrong_13 : decode cX10_isWrong 13 = .ok (.if_icmp .ge 7, 3) := by decide +kernel
theorem dX10_isWrong_16 : decode cX10_isWrong 16 = .ok (.iconst 1, 1) := by decide +kernel
theorem dX10_isWrong_17 : decode cX10_isWrong 17 = .ok (.goto 4, 3) := by decide +kernel
theorem dX10_isWrong_20 : decode cX10_isWrong 20 = .ok (.iconst 0, 1) := by decide +kernel
theorem dX10_isWrong_21 : decode cX10_isWrong 21 = .ok (.ior, 1) := by decide +kernel
theorem dX10_isWrong_22 : decode cX10_isWrong 22 = .ok (.putfield 45, 3) := by decide +kernel
theorem dX10_isWrong_25 : decode cX10_isWrong 25 = .ok (.aload_n 0, 1) := by decide +kernel
theorem dX10_isWrong_26 : decode cX10_isWrong 26 = .ok (.aload_n 0, 1) := by decide +kernel
theorem dX10_isWrong_27 : decode cX10_isWrong 27 = .ok (.getfield 36, 3) := by decide +kernel
theorem dX10_isWrong_30 : decode cX10_isWrong 30 = .ok (.putfield 48, 3) := by decide +kernel
theorem dX10_isWrong_33 : decode cX10_isWrong 33 = .ok (.aload_n 0, 1) := by decide +kernel
theorem dX10_isWrong_34 : decode cX10_isWrong 34 = .ok (.iconst 0, 1) := by decide +kernel
theorem dX10_isWrong_35 : decode cX10_isWrong 35 = .ok (.putfield 36, 3) := by decide +kernel
theorem dX10_isWrong_38 : decode cX10_isWrong 38 = .ok (.aload_n 0, 1) := by decide +kernel
theorem dX10_isWrong_39 : decode cX10_isWrong 39 = .ok (.getfield 45, 3) := by decide +kernel
theorem dX10_isWrong_42 : decode cX10_isWrong 42 = .ok (.ifCond .eq 11, 3) := by decide +kernel
theorem dX10_isWrong_45 : decode cX10_isWrong 45 = .ok (.aload_n 0, 1) := by decide +kernel
theorem dX10_isWrong_46 : decode cX10_isWrong 46 = .ok (.aload_n 0, 1) := by decide +kernel
theorem dX10_isWrong_47 : decode cX10_isWrong 47 = .ok (.getfield 39, 3) := by decide +kernel
theorem dX10_isWrong_50 : decode cX10_isWrong 50 = .ok (.putfield 42, 3) := by decide +kernel
theorem dX10_isWrong_53 : decode cX10_isWrong 53 = .ok (.aload_n 0, 1) := by decide +kernel
theorem dX10_isWrong_54 : decode cX10_isWrong 54 = .ok (.getfield 45, 3) := by decide +kernel
theorem dX10_isWrong_57 : decode cX10_isWrong 57 = .ok (.ireturn, 1) := by decide +kernel
theorem dX10_begins_0 : decode cX10_begins 0 = .ok (.aload_n 0, 1) := by decide +kernel
theorem dX10_begins_1 : decode cX10_begins 1 = .ok (.iconst 0, 1) := by decide +kernel
theorem dX10_begins_2 : decode cX10_begins 2 = .ok (.putfield 3, 3) := by decide +kernel
theorem dX10_begins_5 : decode cX10_begins 5 = .ok (.aload_n 0, 1) := by decide +kernel
theorem dX10_begins_6 : decode cX10_begins 6 = .ok (.iconst 0, 1) := by decide +kernel
theorem dX10_begins_7 : decode cX10_begins 7 = .ok (.putfield 39, 3) := by decide +kernel
theorem dX10_begins_10 : decode cX10_begins 10 = .ok (.aload_n 0, 1) := by decide +kernel
theorem dX10_begins_11 : decode cX10_begins 11 = .ok (.iconst 0, 1) := by decide +kernel
theorem dX10_begins_12 : decode cX10_begins 12 = .ok (.putfield 45, 3) := by decide +kernel
theorem dX10_begins_15 : decode cX10_begins 15 = .ok (.return_, 1) := by decide +kernel
theorem dX10_isWrongLine_0 : decode cX10_isWrongLine 0 = .ok (.aload_n 0, 1) := by decide +kernel
theorem dX10_isWrongLine_1 : decode cX10_isWrongLine 1 = .ok (.invokevirtual 174, 3) := by decide +kernel
theorem dX10_isWrongLine_4 : decode cX10_isWrongLine 4 = .ok (.aload_n 0, 1) := by decide +kernel
theorem dX10_isWrongLine_5 : decode cX10_isWrongLine 5 = .ok (.iconst 0, 1) := by decide +kernel
theorem dX10_isWrongLine_6 : decode cX10_isWrongLine 6 = .ok (.putfield 51, 3) := by decide +kernel
theorem dX10_isWrongLine_9 : decode cX10_isWrongLine 9 = .ok (.iconst 1, 1) := by decide +kernel
theorem dX10_isWrongLine_10 : decode cX10_isWrongLine 10 = .ok (.istore_n 1, 1) := by decide +kernel
theorem dX10_isWrongLine_11 : decode cX10_isWrongLine 11 = .ok (.iload_n 1, 1) := by decide +kernel
theorem dX10_isWrongLine_12 : decode cX10_isWrongLine 12 = .ok (.ifCond .eq 103, 3) := by decide +kernel
theorem dX10_isWrongLine_15 : decode cX10_isWrongLine 15 = .ok (.aload_n 0, 1) := by decide +kernel
theorem dX10_isWrongLine_16 : decode cX10_isWrongLine 16 = .ok (.getfield 45, 3) := by decide +kernel
theorem dX10_isWrongLine_19 : decode cX10_isWrongLine 19 = .ok (.ifCond .ne 96, 3) := by decide +kernel
theorem dX10_isWrongLine_22 : decode cX10_isWrongLine 22 = .ok (.aload_n 0, 1) := by decide +kernel
theorem dX10_isWrongLine_23 : decode cX10_isWrongLine 23 = .ok (.getfield 51, 3) := by decide +kernel
theorem dX10_isWrongLine_26 : decode cX10_isWrongLine 26 = .ok (.bipush 12, 2) := by decide +kernel
theorem dX10_isWrongLine_28 : decode cX10_isWrongLine 28 = .ok (.if_icmp .ne 11, 3) := by decide +kernel
theorem dX10_isWrongLine_31 : decode cX10_isWrongLine 31 = .ok (.aload_n 0, 1) := by decide +kernel
theorem dX10_isWrongLine_32 : decode cX10_isWrongLine 32 = .ok (.iconst 1, 1) := by decide +kernel
theorem dX10_isWrongLine_33 : decode cX10_isWrongLine 33 = .ok (.putfield 45, 3) := by decide +kernel
theorem dX10_isWrongLine_36 : decode cX10_isWrongLine 36 = .ok (.goto 79, 3) := by decide +kernel
theorem dX10_isWrongLine_39 : decode cX10_isWrongLine 39 = .ok (.aload_n 0, 1) := by decide +kernel
theorem dX10_isWrongLine_40 : decode cX10_isWrongLine 40 = .ok (.invokevirtual 177, 3) := by decide +kernel
theorem dX10_isWrongLine_43 : decode cX10_isWrongLine 43 = .ok (.istore_n 2, 1) := by decide +kernel
theorem dX10_isWrongLine_44 : decode cX10_isWrongLine 44 = .ok (.aload_n 0, 1) := by decide +kernel
theorem dX10_isWrongLine_45 : decode cX10_isWrongLine 45 = .ok (.dup, 1) := by decide +kernel
theorem dX10_isWrongLine_46 : decode cX10_isWrongLine 46 = .ok (.getfield 51, 3) := by decide +kernel
theorem dX10_isWrongLine_49 : decode cX10_isWrongLine 49 = .ok (.iconst 1, 1) := by decide +kernel
theorem dX10_isWrongLine_50 : decode cX10_isWrongLine 50 = .ok (.iadd, 1) := by decide +kernel
theorem dX10_isWrongLine_51 : decode cX10_isWrongLine 51 = .ok (.putfield 51, 3) := by decide +kernel
theorem dX10_isWrongLine_54 : decode cX10_isWrongLine 54 = .ok (.aload_n 0, 1) := by decide +kernel
theorem dX10_isWrongLine_55 : decode cX10_isWrongLine 55 = .ok (.invokevirtual 166, 3) := by decide +kernel
theorem dX10_isWrongLine_58 : decode cX10_isWrongLine 58 = .ok (.bipush 44, 2) := by decide +kernel
theorem dX10_isWrongLine_60 : decode cX10_isWrongLine 60 = .ok (.if_icmp .ne 7, 3) := by decide +kernel
theorem dX10_isWrongLine_63 : decode cX10_isWrongLine 63 = .ok (.iconst 1, 1) := by decide +kernel
theorem dX10_isWrongLine_64 : decode cX10_isWrongLine 64 = .ok (.goto 4, 3) := by decide +kernel
theorem dX10_isWrongLine_67 : decode cX10_isWrongLine 67 = .ok (.iconst 0, 1) := by decide +kernel
theorem dX10_isWrongLine_68 : decode cX10_isWrongLine 68 = .ok (.istore_n 3, 1) := by decide +kernel
theorem dX10_isWrongLine_69 : decode cX10_isWrongLine 69 = .ok (.iload_n 3, 1) := by decide +kernel
theorem dX10_isWrongLine_70 : decode cX10_isWrongLine 70 = .ok (.ifCond .eq 13, 3) := by decide +kernel
theorem dX10_isWrongLine_73 : decode cX10_isWrongLine 73 = .ok (.aload_n 0, 1) := by decide +kernel
theorem dX10_isWrongLine_74 : decode cX10_isWrongLine 74 = .ok (.dup, 1) := by decide +kernel
theorem dX10_isWrongLine_75 : decode cX10_isWrongLine 75 = .ok (.getfield 39, 3) := by decide +kernel
theorem dX10_isWrongLine_78 : decode cX10_isWrongLine 78 = .ok (.iconst 1, 1) := by decide +kernel
theorem dX10_isWrongLine_79 : decode cX10_isWrongLine 79 = .ok (.iadd, 1) := by decide +kernel
theorem dX10_isWrongLine_80 : decode cX10_isWrongLine 80 = .ok (.putfield 39, 3) := by decide +kernel
theorem dX10_isWrongLine_83 : decode cX10_isWrongLine 83 = .ok (.aload_n 0, 1) := by decide +kernel
theorem dX10_isWrongLine_84 : decode cX10_isWrongLine 84 = .ok (.invokevirtual 166, 3) := by decide +kernel
theorem dX10_isWrongLine_87 : decode cX10_isWrongLine 87 = .ok (.bipush 32, 2) := by decide +kernel
theorem dX10_isWrongLine_89 : decode cX10_isWrongLine 89 = .ok (.if_icmp .ne 7, 3) := by decide +kernel
theorem dX10_isWrongLine_92 : decode cX10_isWrongLine 92 = .ok (.iconst 1, 1) := by decide +kernel
theorem dX10_isWrongLine_93 : decode cX10_isWrongLine 93 = .ok (.goto 4, 3) := by decide +kernel
theorem dX10_isWrongLine_96 : decode cX10_isWrongLine 96 = .ok (.iconst 0, 1) := by decide +kernel
theorem dX10_isWrongLine_97 : decode cX10_isWrongLine 97 = .ok (.istore_n 1, 1) := by decide +kernel
theorem dX10_isWrongLine_98 : decode cX10_isWrongLine 98 = .ok (.iload_n 1, 1) := by decide +kernel
theorem dX10_isWrongLine_99 : decode cX10_isWrongLine 99 = .ok (.ifCond .eq 13, 3) := by decide +kernel
theorem dX10_isWrongLine_102 : decode cX10_isWrongLine 102 = .ok (.aload_n 0, 1) := by decide +kernel
theorem dX10_isWrongLine_103 : decode cX10_isWrongLine 103 = .ok (.dup, 1) := by decide +kernel
theorem dX10_isWrongLine_104 : decode cX10_isWrongLine 104 = .ok (.getfield 39, 3) := by decide +kernel
theorem dX10_isWrongLine_107 : decode cX10_isWrongLine 107 = .ok (.iconst 1, 1) := by decide +kernel
theorem dX10_isWrongLine_108 : decode cX10_isWrongLine 108 = .ok (.iadd, 1) := by decide +kernel
theorem dX10_isWrongLine_109 : decode cX10_isWrongLine 109 = .ok (.putfield 39, 3) := by decide +kernel
theorem dX10_isWrongLine_112 : decode cX10_isWrongLine 112 = .ok (.goto (-101), 3) := by decide +kernel
theorem dX10_isWrongLine_115 : decode cX10_isWrongLine 115 = .ok (.aload_n 0, 1) := by decide +kernel
theorem dX10_isWrongLine_116 : decode cX10_isWrongLine 116 = .ok (.invokevirtual 180, 3) := by decide +kernel
theorem dX10_isWrongLine_119 : decode cX10_isWrongLine 119 = .ok (.ireturn, 1) := by decide +kernel
theorem dX10_sizeOf_0 : decode cX10_sizeOf 0 = .ok (.iload_n 0, 1) := by decide +kernel
theorem dX10_sizeOf_1 : decode cX10_sizeOf 1 = .ok (.iconst 2, 1) := by decide +kernel
theorem dX10_sizeOf_2 : decode cX10_sizeOf 2 = .ok (.if_icmp .ge 7, 3) := by decide +kernel
theorem dX10_sizeOf_5 : decode cX10_sizeOf 5 = .ok (.iconst 2, 1) := by decide +kernel
theorem dX10_sizeOf_6 : decode cX10_sizeOf 6 = .ok (.goto 4, 3) := by decide +kernel
theorem dX10_sizeOf_9 : decode cX10_sizeOf 9 = .ok (.iconst 3, 1) := by decide +kernel
theorem dX10_sizeOf_10 : decode cX10_sizeOf 10 = .ok (.ireturn, 1) := by decide +kernel
theorem dX10_strongOf_0 : decode cX10_strongOf 0 = .ok (.iload_n 0, 1) := by decide +kernel
theorem dX10_strongOf_1 : decode cX10_strongOf 1 = .ok (.ifCond .ne 7, 3) := by decide +kernel
theorem dX10_strongOf_4 : decode cX10_strongOf 4 = .ok (.iconst 1, 1) := by decide +kernel
theorem dX10_strongOf_5 : decode cX10_strongOf 5 = .ok (.goto 13, 3) := by decide +kernel
theorem dX10_strongOf_8 : decode cX10_strongOf 8 = .ok (.iload_n 0, 1) := by decide +kernel
theorem dX10_strongOf_9 : decode cX10_strongOf 9 = .ok (.iconst 2, 1) := by decide +kernel
theorem dX10_strongOf_10 : decode cX10_strongOf 10 = .ok (.if_icmp .ne 7, 3) := by decide +kernel
theorem dX10_strongOf_13 : decode cX10_strongOf 13 = .ok (.iconst 2, 1) := by decide +kernel
theorem dX10_strongOf_14 : decode cX10_strongOf 14 = .ok (.goto 4, 3) := by decide +kernel
theorem dX10_strongOf_17 : decode cX10_strongOf 17 = .ok (.iconst 0, 1) := by decide +kernel
theorem dX10_strongOf_18 : decode cX10_strongOf 18 = .ok (.ireturn, 1) := by decide +kernel
theorem dX10_metreTold_0 : decode cX10_metreTold 0 = .ok (.bipush 100, 2) := by decide +kernel
theorem dX10_metreTold_2 : decode cX10_metreTold 2 = .ok (.aload_n 0, 1) := by decide +kernel
theorem dX10_metreTold_3 : decode cX10_metreTold 3 = .ok (.getfield 13, 3) := by decide +kernel
theorem dX10_metreTold_6 : decode cX10_metreTold 6 = .ok (.iconst 0, 1) := by decide +kernel
theorem dX10_metreTold_7 : decode cX10_metreTold 7 = .ok (.iaload, 1) := by decide +kernel
theorem dX10_metreTold_8 : decode cX10_metreTold 8 = .ok (.imul, 1) := by decide +kernel
theorem dX10_metreTold_9 : decode cX10_metreTold 9 = .ok (.bipush 10, 2) := by decide +kernel
theorem dX10_metreTold_11 : decode cX10_metreTold 11 = .ok (.aload_n 0, 1) := by decide +kernel
theorem dX10_metreTold_12 : decode cX10_metreTold 12 = .ok (.getfield 13, 3) := by decide +kernel
theorem dX10_metreTold_15 : decode cX10_metreTold 15 = .ok (.iconst 1, 1) := by decide +kernel
theorem dX10_metreTold_16 : decode cX10_metreTold 16 = .ok (.iaload, 1) := by decide +kernel
theorem dX10_metreTold_17 : decode cX10_metreTold 17 = .ok (.imul, 1) := by decide +kernel
theorem dX10_metreTold_18 : decode cX10_metreTold 18 = .ok (.iadd, 1) := by decide +kernel
theorem dX10_metreTold_19 : decode cX10_metreTold 19 = .ok (.aload_n 0, 1) := by decide +kernel
theorem dX10_metreTold_20 : decode cX10_metreTold 20 = .ok (.getfield 13, 3) := by decide +kernel
theorem dX10_metreTold_23 : decode cX10_metreTold 23 = .ok (.iconst 2, 1) := by decide +kernel
theorem dX10_metreTold_24 : decode cX10_metreTold 24 = .ok (.iaload, 1) := by decide +kernel
theorem dX10_metreTold_25 : decode cX10_metreTold 25 = .ok (.iadd, 1) := by decide +kernel
theorem dX10_metreTold_26 : decode cX10_metreTold 26 = .ok (.ireturn, 1) := by decide +kernel
theorem dX10_becomes_0 : decode cX10_becomes 0 = .ok (.aload_n 0, 1) := by decide +kernel
theorem dX10_becomes_1 : decode cX10_becomes 1 = .ok (.invokevirtual 184, 3) := by decide +kernel
theorem dX10_becomes_4 : decode cX10_becomes 4 = .ok (.aload_n 0, 1) := by decide +kernel
theorem dX10_becomes_5 : decode cX10_becomes 5 = .ok (.getfield 13, 3) := by decide +kernel
theorem dX10_becomes_8 : decode cX10_becomes 8 = .ok (.iconst 0, 1) := by decide +kernel
theorem dX10_becomes_9 : decode cX10_becomes 9 = .ok (.iload_n 1, 1) := by decide +kernel
theorem dX10_becomes_10 : decode cX10_becomes 10 = .ok (.iastore, 1) := by decide +kernel
theorem dX10_becomes_11 : decode cX10_becomes 11 = .ok (.aload_n 0, 1) := by decide +kernel
theorem dX10_becomes_12 : decode cX10_becomes 12 = .ok (.getfield 13, 3) := by decide +kernel
theorem dX10_becomes_15 : decode cX10_becomes 15 = .ok (.iconst 1, 1) := by decide +kernel
theorem dX10_becomes_16 : decode cX10_becomes 16 = .ok (.iload_n 2, 1) := by decide +kernel
theorem dX10_becomes_17 : decode cX10_becomes 17 = .ok (.iastore, 1) := by decide +kernel
theorem dX10_becomes_18 : decode cX10_becomes 18 = .ok (.aload_n 0, 1) := by decide +kernel
theorem dX10_becomes_19 : decode cX10_becomes 19 = .ok (.getfield 13, 3) := by decide +kernel
theorem dX10_becomes_22 : decode cX10_becomes 22 = .ok (.iconst 2, 1) := by decide +kernel
theorem dX10_becomes_23 : decode cX10_becomes 23 = .ok (.iload_n 3, 1) := by decide +kernel
theorem dX10_becomes_24 : decode cX10_becomes 24 = .ok (.iastore, 1) := by decide +kernel
theorem dX10_becomes_25 : decode cX10_becomes 25 = .ok (.return_, 1) := by decide +kernel
theorem dX10_setMetre_0 : decode cX10_setMetre 0 = .ok (.aload_n 0, 1) := by decide +kernel
theorem dX10_setMetre_1 : decode cX10_setMetre 1 = .ok (.iconst 0, 1) := by decide +kernel
theorem dX10_setMetre_2 : decode cX10_setMetre 2 = .ok (.putfield 3, 3) := by decide +kernel
theorem dX10_setMetre_5 : decode cX10_setMetre 5 = .ok (.iload_n 1, 1) := by decide +kernel
theorem dX10_setMetre_6 : decode cX10_setMetre 6 = .ok (.iconst 0, 1) := by decide +kernel
theorem dX10_setMetre_7 : decode cX10_setMetre 7 = .ok (.iconst 3, 1) := by decide +kernel
theorem dX10_setMetre_8 : decode cX10_setMetre 8 = .ok (.invokestatic 158, 3) := by decide +kernel
theorem dX10_setMetre_11 : decode cX10_setMetre 11 = .ok (.ifCond .eq 24, 3) := by decide +kernel
theorem dX10_setMetre_14 : decode cX10_setMetre 14 = .ok (.iload_n 2, 1) := by decide +kernel
theorem dX10_setMetre_15 : decode cX10_setMetre 15 = .ok (.iconst 2, 1) := by decide +kernel
theorem dX10_setMetre_16 : decode cX10_setMetre 16 = .ok (.bipush 6, 2) := by decide +kernel
theorem dX10_setMetre_18 : decode cX10_setMetre 18 = .ok (.invokestatic 158, 3) := by decide +kernel
theorem dX10_setMetre_21 : decode cX10_setMetre 21 = .ok (.ifCond .eq 14, 3) := by decide +kernel
theorem dX10_setMetre_24 : decode cX10_setMetre 24 = .ok (.iload_n 3, 1) := by decide +kernel
theorem dX10_setMetre_25 : decode cX10_setMetre 25 = .ok (.iconst 0, 1) := by decide +kernel
theorem dX10_setMetre_26 : decode cX10_setMetre 26 = .ok (.iload_n 2, 1) := by decide +kernel
theorem dX10_setMetre_27 : decode cX10_setMetre 27 = .ok (.iconst 1, 1) := by decide +kernel
theorem dX10_setMetre_28 : decode cX10_setMetre 28 = .ok (.isub, 1) := by decide +kernel
theorem dX10_setMetre_29 : decode cX10_setMetre 29 = .ok (.invokestatic 158, 3) := by decide +kernel
theorem dX10_setMetre_32 : decode cX10_setMetre 32 = .ok (.ifCond .ne 9, 3) := by decide +kernel
theorem dX10_setMetre_35 : decode cX10_setMetre 35 = .ok (.aload_n 0, 1) := by decide +kernel
theorem dX10_setMetre_36 : decode cX10_setMetre 36 = .ok (.iconst 1, 1) := by decide +kernel
theorem dX10_setMetre_37 : decode cX10_setMetre 37 = .ok (.invokevirtual 162, 3) := by decide +kernel
theorem dX10_setMetre_40 : decode cX10_setMetre 40 = .ok (.ireturn, 1) := by decide +kernel
theorem dX10_setMetre_41 : decode cX10_setMetre 41 = .ok (.aload_n 0, 1) := by decide +kernel
theorem dX10_setMetre_42 : decode cX10_setMetre 42 = .ok (.invokevirtual 187, 3) := by decide +kernel
theorem dX10_setMetre_45 : decode cX10_setMetre 45 = .ok (.istore 4, 2) := by decide +kernel
theorem dX10_setMetre_47 : decode cX10_setMetre 47 = .ok (.aload_n 0, 1) := by decide +kernel
theorem dX10_setMetre_48 : decode cX10_setMetre 48 = .ok (.iload_n 1, 1) := by decide +kernel
theorem dX10_setMetre_49 : decode cX10_setMetre 49 = .ok (.iload_n 2, 1) := by decide +kernel
theorem dX10_setMetre_50 : decode cX10_setMetre 50 = .ok (.iload_n 3, 1) := by decide +kernel
theorem dX10_setMetre_51 : decode cX10_setMetre 51 = .ok (.invokevirtual 190, 3) := by decide +kernel
theorem dX10_setMetre_54 : decode cX10_setMetre 54 = .ok (.iload 4, 2) := by decide +kernel
theorem dX10_setMetre_56 : decode cX10_setMetre 56 = .ok (.ireturn, 1) := by decide +kernel
theorem dX10_readMetre_0 : decode cX10_readMetre 0 = .ok (.aload_n 0, 1) := by decide +kernel
theorem dX10_readMetre_1 : decode cX10_readMetre 1 = .ok (.invokevirtual 174, 3) := by decide +kernel
theorem dX10_readMetre_4 : decode cX10_readMetre 4 = .ok (.iconst 0, 1) := by decide +kernel
theorem dX10_readMetre_5 : decode cX10_readMetre 5 = .ok (.istore_n 1, 1) := by decide +kernel
theorem dX10_readMetre_6 : decode cX10_readMetre 6 = .ok (.iload_n 1, 1) := by decide +kernel
theorem dX10_readMetre_7 : decode cX10_readMetre 7 = .ok (.iconst 4, 1) := by decide +kernel
theorem dX10_readMetre_8 : decode cX10_readMetre 8 = .ok (.if_icmp .ge 24, 3) := by decide +kernel
theorem dX10_readMetre_11 : decode cX10_readMetre 11 = .ok (.aload_n 0, 1) := by decide +kernel
theorem dX10_readMetre_12 : decode cX10_readMetre 12 = .ok (.invokevirtual 166, 3) := by decide +kernel
theorem dX10_readMetre_15 : decode cX10_readMetre 15 = .ok (.getstatic 194, 3) := by decide +kernel
theorem dX10_readMetre_18 : decode cX10_readMetre 18 = .ok (.bipush 8, 2) := by decide +kernel
theorem dX10_readMetre_20 : decode cX10_readMetre 20 = .ok (.iload_n 1, 1) := by decide +kernel
theorem dX10_readMetre_21 : decode cX10_readMetre 21 = .ok (.imul, 1) := by decide +kernel
theorem dX10_readMetre_22 : decode cX10_readMetre 22 = .ok (.iaload, 1) := by decide +kernel
theorem dX10_readMetre_23 : decode cX10_readMetre 23 = .ok (.if_icmp .eq 9, 3) := by decide +kernel
theorem dX10_readMetre_26 : decode cX10_readMetre 26 = .ok (.iinc 1 1, 3) := by decide +kernel
theorem dX10_readMetre_29 : decode cX10_readMetre 29 = .ok (.goto (-23), 3) := by decide +kernel
theorem dX10_readMetre_32 : decode cX10_readMetre 32 = .ok (.aload_n 0, 1) := by decide +kernel
theorem dX10_readMetre_33 : decode cX10_readMetre 33 = .ok (.iload_n 1, 1) := by decide +kernel
theorem dX10_readMetre_34 : decode cX10_readMetre 34 = .ok (.iconst 4, 1) := by decide +kernel
theorem dX10_readMetre_35 : decode cX10_readMetre 35 = .ok (.if_icmp .ne 7, 3) := by decide +kernel
theorem dX10_readMetre_38 : decode cX10_readMetre 38 = .ok (.iconst 1, 1) := by decide +kernel
theorem dX10_readMetre_39 : decode cX10_readMetre 39 = .ok (.goto 4, 3) := by decide +kernel
theorem dX10_readMetre_42 : decode cX10_readMetre 42 = .ok (.iconst 0, 1) := by decide +kernel
theorem dX10_readMetre_43 : decode cX10_readMetre 43 = .ok (.putfield 45, 3) := by decide +kernel
theorem dX10_readMetre_46 : decode cX10_readMetre 46 = .ok (.iconst 0, 1) := by decide +kernel
theorem dX10_readMetre_47 : decode cX10_readMetre 47 = .ok (.istore_n 2, 1) := by decide +kernel
theorem dX10_readMetre_48 : decode cX10_readMetre 48 = .ok (.aload_n 0, 1) := by decide +kernel
theorem dX10_readMetre_49 : decode cX10_readMetre 49 = .ok (.getfield 45, 3) := by decide +kernel
theorem dX10_readMetre_52 : decode cX10_readMetre 52 = .ok (.ifCond .ne 36, 3) := by decide +kernel
theorem dX10_readMetre_55 : decode cX10_readMetre 55 = .ok (.getstatic 194, 3) := by decide +kernel
theorem dX10_readMetre_58 : decode cX10_readMetre 58 = .ok (.bipush 8, 2) := by decide +kernel
theorem dX10_readMetre_60 : decode cX10_readMetre 60 = .ok (.iload_n 1, 1) := by decide +kernel
theorem dX10_readMetre_61 : decode cX10_readMetre 61 = .ok (.imul, 1) := by decide +kernel
theorem dX10_readMetre_62 : decode cX10_readMetre 62 = .ok (.iload_n 2, 1) := by decide +kernel
theorem dX10_readMetre_63 : decode cX10_readMetre 63 = .ok (.iadd, 1) := by decide +kernel
theorem dX10_readMetre_64 : decode cX10_readMetre 64 = .ok (.iaload, 1) := by decide +kernel
theorem dX10_readMetre_65 : decode cX10_readMetre 65 = .ok (.ifCond .eq 23, 3) := by decide +kernel
theorem dX10_readMetre_68 : decode cX10_readMetre 68 = .ok (.aload_n 0, 1) := by decide +kernel
theorem dX10_readMetre_69 : decode cX10_readMetre 69 = .ok (.getstatic 194, 3) := by decide +kernel
theorem dX10_readMetre_72 : decode cX10_readMetre 72 = .ok (.bipush 8, 2) := by decide +kernel
theorem dX10_readMetre_74 : decode cX10_readMetre 74 = .ok (.iload_n 1, 1) := by decide +kernel
theorem dX10_readMetre_75 : decode cX10_readMetre 75 = .ok (.imul, 1) := by decide +kernel
theorem dX10_readMetre_76 : decode cX10_readMetre 76 = .ok (.iload_n 2, 1) := by decide +kernel
theorem dX10_readMetre_77 : decode cX10_readMetre 77 = .ok (.iadd, 1) := by decide +kernel
theorem dX10_readMetre_78 : decode cX10_readMetre 78 = .ok (.iaload, 1) := by decide +kernel
theorem dX10_readMetre_79 : decode cX10_readMetre 79 = .ok (.invokevirtual 197, 3) := by decide +kernel
theorem dX10_readMetre_82 : decode cX10_readMetre 82 = .ok (.iinc 2 1, 3) := by decide +kernel
theorem dX10_readMetre_85 : decode cX10_readMetre 85 = .ok (.goto (-37), 3) := by decide +kernel
theorem dX10_readMetre_88 : decode cX10_readMetre 88 = .ok (.aload_n 0, 1) := by decide +kernel
theorem dX10_readMetre_89 : decode cX10_readMetre 89 = .ok (.bipush 32, 2) := by decide +kernel
theorem dX10_readMetre_91 : decode cX10_readMetre 91 = .ok (.invokevirtual 197, 3) := by decide +kernel
theorem dX10_readMetre_94 : decode cX10_readMetre 94 = .ok (.aload_n 0, 1) := by decide +kernel
theorem dX10_readMetre_95 : decode cX10_readMetre 95 = .ok (.iconst 2, 1) := by decide +kernel
theorem dX10_readMetre_96 : decode cX10_readMetre 96 = .ok (.bipush 6, 2) := by decide +kernel
theorem dX10_readMetre_98 : decode cX10_readMetre 98 = .ok (.invokevirtual 201, 3) := by decide +kernel
theorem dX10_readMetre_101 : decode cX10_readMetre 101 = .ok (.istore_n 2, 1) := by decide +kernel
theorem dX10_readMetre_102 : decode cX10_readMetre 102 = .ok (.iconst 0, 1) := by decide +kernel
theorem dX10_readMetre_103 : decode cX10_readMetre 103 = .ok (.istore_n 3, 1) := by decide +kernel
theorem dX10_readMetre_104 : decode cX10_readMetre 104 = .ok (.aload_n 0, 1) := by decide +kernel
theorem dX10_readMetre_105 : decode cX10_readMetre 105 = .ok (.invokevirtual 166, 3) := by decide +kernel
theorem dX10_readMetre_108 : decode cX10_readMetre 108 = .ok (.bipush 47, 2) := by decide +kernel
theorem dX10_readMetre_110 : decode cX10_readMetre 110 = .ok (.if_icmp .ne 22, 3) := by decide +kernel
theorem dX10_readMetre_113 : decode cX10_readMetre 113 = .ok (.aload_n 0, 1) := by decide +kernel
theorem dX10_readMetre_114 : decode cX10_readMetre 114 = .ok (.dup, 1) := by decide +kernel
theorem dX10_readMetre_115 : decode cX10_readMetre 115 = .ok (.getfield 39, 3) := by decide +kernel
theorem dX10_readMetre_118 : decode cX10_readMetre 118 = .ok (.iconst 1, 1) := by decide +kernel
theorem dX10_readMetre_119 : decode cX10_readMetre 119 = .ok (.iadd, 1) := by decide +kernel
theorem dX10_readMetre_120 : decode cX10_readMetre 120 = .ok (.putfield 39, 3) := by decide +kernel
theorem dX10_readMetre_123 : decode cX10_readMetre 123 = .ok (.aload_n 0, 1) := by decide +kernel
theorem dX10_readMetre_124 : decode cX10_readMetre 124 = .ok (.iconst 1, 1) := by decide +kernel
theorem dX10_readMetre_125 : decode cX10_readMetre 125 = .ok (.iload_n 2, 1) := by decide +kernel
theorem dX10_readMetre_126 : decode cX10_readMetre 126 = .ok (.iconst 1, 1) := by decide +kernel
theorem dX10_readMetre_127 : decode cX10_readMetre 127 = .ok (.isub, 1) := by decide +kernel
theorem dX10_readMetre_128 : decode cX10_readMetre 128 = .ok (.invokevirtual 201, 3) := by decide +kernel
theorem dX10_readMetre_131 : decode cX10_readMetre 131 = .ok (.istore_n 3, 1) := by decide +kernel
theorem dX10_readMetre_132 : decode cX10_readMetre 132 = .ok (.aload_n 0, 1) := by decide +kernel
theorem dX10_readMetre_133 : decode cX10_readMetre 133 = .ok (.invokevirtual 180, 3) := by decide +kernel
theorem dX10_readMetre_136 : decode cX10_readMetre 136 = .ok (.ifCond .eq 9, 3) := by decide +kernel
theorem dX10_readMetre_139 : decode cX10_readMetre 139 = .ok (.aload_n 0, 1) := by decide +kernel
theorem dX10_readMetre_140 : decode cX10_readMetre 140 = .ok (.iconst 1, 1) := by decide +kernel
theorem dX10_readMetre_141 : decode cX10_readMetre 141 = .ok (.invokevirtual 162, 3) := by decide +kernel
theorem dX10_readMetre_144 : decode cX10_readMetre 144 = .ok (.ireturn, 1) := by decide +kernel
theorem dX10_readMetre_145 : decode cX10_readMetre 145 = .ok (.aload_n 0, 1) := by decide +kernel
theorem dX10_readMetre_146 : decode cX10_readMetre 146 = .ok (.iload_n 1, 1) := by decide +kernel
theorem dX10_readMetre_147 : decode cX10_readMetre 147 = .ok (.iload_n 2, 1) := by decide +kernel
theorem dX10_readMetre_148 : decode cX10_readMetre 148 = .ok (.iload_n 3, 1) := by decide +kernel
theorem dX10_readMetre_149 : decode cX10_readMetre 149 = .ok (.invokevirtual 190, 3) := by decide +kernel
theorem dX10_readMetre_152 : decode cX10_readMetre 152 = .ok (.iload_n 2, 1) := by decide +kernel
theorem dX10_readMetre_153 : decode cX10_readMetre 153 = .ok (.iload_n 1, 1) := by decide +kernel
theorem dX10_readMetre_154 : decode cX10_readMetre 154 = .ok (.invokestatic 205, 3) := by decide +kernel
theorem dX10_readMetre_157 : decode cX10_readMetre 157 = .ok (.imul, 1) := by decide +kernel
theorem dX10_readMetre_158 : decode cX10_readMetre 158 = .ok (.ireturn, 1) := by decide +kernel
theorem dX10_metre_0 : decode cX10_metre 0 = .ok (.aload_n 0, 1) := by decide +kernel
theorem dX10_metre_1 : decode cX10_metre 1 = .ok (.iconst 0, 1) := by decide +kernel
theorem dX10_metre_2 : decode cX10_metre 2 = .ok (.putfield 3, 3) := by decide +kernel
theorem dX10_metre_5 : decode cX10_metre 5 = .ok (.aload_n 0, 1) := by decide +kernel
theorem dX10_metre_6 : decode cX10_metre 6 = .ok (.getfield 13, 3) := by decide +kernel
theorem dX10_metre_9 : decode cX10_metre 9 = .ok (.iconst 1, 1) := by decide +kernel
theorem dX10_metre_10 : decode cX10_metre 10 = .ok (.iaload, 1) := by decide +kernel
theorem dX10_metre_11 : decode cX10_metre 11 = .ok (.aload_n 0, 1) := by decide +kernel
theorem dX10_metre_12 : decode cX10_metre 12 = .ok (.getfield 13, 3) := by decide +kernel
theorem dX10_metre_15 : decode cX10_metre 15 = .ok (.iconst 0, 1) := by decide +kernel
theorem dX10_metre_16 : decode cX10_metre 16 = .ok (.iaload, 1) := by decide +kernel
theorem dX10_metre_17 : decode cX10_metre 17 = .ok (.invokestatic 205, 3) := by decide +kernel
theorem dX10_metre_20 : decode cX10_metre 20 = .ok (.imul, 1) := by decide +kernel
theorem dX10_metre_21 : decode cX10_metre 21 = .ok (.istore_n 2, 1) := by decide +kernel
theorem dX10_metre_22 : decode cX10_metre 22 = .ok (.iload_n 1, 1) := by decide +kernel
theorem dX10_metre_23 : decode cX10_metre 23 = .ok (.tableswitch 98 0 4 #[33, 33, 33, 42, 44], 33) := by decide +kernel
theorem dX10_metre_56 : decode cX10_metre 56 = .ok (.aload_n 0, 1) := by decide +kernel
theorem dX10_metre_57 : decode cX10_metre 57 = .ok (.getfield 13, 3) := by decide +kernel
theorem dX10_metre_60 : decode cX10_metre 60 = .ok (.iconst 0, 1) := by decide +kernel
theorem dX10_metre_61 : decode cX10_metre 61 = .ok (.iload_n 1, 1) := by decide +kernel
theorem dX10_metre_62 : decode cX10_metre 62 = .ok (.iadd, 1) := by decide +kernel
theorem dX10_metre_63 : decode cX10_metre 63 = .ok (.iaload, 1) := by decide +kernel
theorem dX10_metre_64 : decode cX10_metre 64 = .ok (.ireturn, 1) := by decide +kernel
theorem dX10_metre_65 : decode cX10_metre 65 = .ok (.iload_n 2, 1) := by decide +kernel
theorem dX10_metre_66 : decode cX10_metre 66 = .ok (.ireturn, 1) := by decide +kernel
theorem dX10_metre_67 : decode cX10_metre 67 = .ok (.iconst 0, 1) := by decide +kernel
theorem dX10_metre_68 : decode cX10_metre 68 = .ok (.istore_n 3, 1) := by decide +kernel
theorem dX10_metre_69 : decode cX10_metre 69 = .ok (.iconst 0, 1) := by decide +kernel
theorem dX10_metre_70 : decode cX10_metre 70 = .ok (.istore 4, 2) := by decide +kernel
theorem dX10_metre_72 : decode cX10_metre 72 = .ok (.iload 4, 2) := by decide +kernel
theorem dX10_metre_74 : decode cX10_metre 74 = .ok (.iload_n 2, 1) := by decide +kernel
theorem dX10_metre_75 : decode cX10_metre 75 = .ok (.if_icmp .ge 44, 3) := by decide +kernel
theorem dX10_metre_78 : decode cX10_metre 78 = .ok (.iload_n 3, 1) := by decide +kernel
theorem dX10_metre_79 : decode cX10_metre 79 = .ok (.iload 4, 2) := by decide +kernel
theorem dX10_metre_81 : decode cX10_metre 81 = .ok (.aload_n 0, 1) := by decide +kernel
theorem dX10_metre_82 : decode cX10_metre 82 = .ok (.getfield 13, 3) := by decide +kernel
theorem dX10_metre_85 : decode cX10_metre 85 = .ok (.iconst 0, 1) := by decide +kernel
theorem dX10_metre_86 : decode cX10_metre 86 = .ok (.iaload, 1) := by decide +kernel
theorem dX10_metre_87 : decode cX10_metre 87 = .ok (.invokestatic 205, 3) := by decide +kernel
theorem dX10_metre_90 : decode cX10_metre 90 = .ok (.irem, 1) := by decide +kernel
theorem dX10_metre_91 : decode cX10_metre 91 = .ok (.aload_n 0, 1) := by decide +kernel
theorem dX10_metre_92 : decode cX10_metre 92 = .ok (.getfield 13, 3) := by decide +kernel
theorem dX10_metre_95 : decode cX10_metre 95 = .ok (.iconst 0, 1) := by decide +kernel
theorem dX10_metre_96 : decode cX10_metre 96 = .ok (.iaload, 1) := by decide +kernel
theorem dX10_metre_97 : decode cX10_metre 97 = .ok (.invokestatic 208, 3) := by decide +kernel
theorem dX10_metre_100 : decode cX10_metre 100 = .ok (.if_icmp .ne 10, 3) := by decide +kernel
theorem dX10_metre_103 : decode cX10_metre 103 = .ok (.iconst 1, 1) := by decide +kernel
theorem dX10_metre_104 : decode cX10_metre 104 = .ok (.iload 4, 2) := by decide +kernel
theorem dX10_metre_106 : decode cX10_metre 106 = .ok (.ishl, 1) := by decide +kernel
theorem dX10_metre_107 : decode cX10_metre 107 = .ok (.goto 4, 3) := by decide +kernel
theorem dX10_metre_110 : decode cX10_metre 110 = .ok (.iconst 0, 1) := by decide +kernel
theorem dX10_metre_111 : decode cX10_metre 111 = .ok (.ior, 1) := by decide +kernel
theorem dX10_metre_112 : decode cX10_metre 112 = .ok (.istore_n 3, 1) := by decide +kernel
theorem dX10_metre_113 : decode cX10_metre 113 = .ok (.iinc 4 1, 3) := by decide +kernel
theorem dX10_metre_116 : decode cX10_metre 116 = .ok (.goto (-44), 3) := by decide +kernel
theorem dX10_metre_119 : decode cX10_metre 119 = .ok (.iload_n 3, 1) := by decide +kernel
theorem dX10_metre_120 : decode cX10_metre 120 = .ok (.ireturn, 1) := by decide +kernel
theorem dX10_metre_121 : decode cX10_metre 121 = .ok (.aload_n 0, 1) := by decide +kernel
theorem dX10_metre_122 : decode cX10_metre 122 = .ok (.iconst 1, 1) := by decide +kernel
theorem dX10_metre_123 : decode cX10_metre 123 = .ok (.invokevirtual 162, 3) := by decide +kernel
theorem dX10_metre_126 : decode cX10_metre 126 = .ok (.ireturn, 1) := by decide +kernel
theorem dX10_setTolerance_0 : decode cX10_setTolerance 0 = .ok (.aload_n 0, 1) := by decide +kernel
theorem dX10_setTolerance_1 : decode cX10_setTolerance 1 = .ok (.iconst 0, 1) := by decide +kernel
theorem dX10_setTolerance_2 : decode cX10_setTolerance 2 = .ok (.putfield 3, 3) := by decide +kernel
theorem dX10_setTolerance_5 : decode cX10_setTolerance 5 = .ok (.iload_n 1, 1) := by decide +kernel
theorem dX10_setTolerance_6 : decode cX10_setTolerance 6 = .ok (.iconst 0, 1) := by decide +kernel
theorem dX10_setTolerance_7 : decode cX10_setTolerance 7 = .ok (.bipush 30, 2) := by decide +kernel
theorem dX10_setTolerance_9 : decode cX10_setTolerance 9 = .ok (.invokestatic 158, 3) := by decide +kernel
theorem dX10_setTolerance_12 : decode cX10_setTolerance 12 = .ok (.ifCond .ne 9, 3) := by decide +kernel
theorem dX10_setTolerance_15 : decode cX10_setTolerance 15 = .ok (.aload_n 0, 1) := by decide +kernel
theorem dX10_setTolerance_16 : decode cX10_setTolerance 16 = .ok (.iconst 1, 1) := by decide +kernel
theorem dX10_setTolerance_17 : decode cX10_setTolerance 17 = .ok (.invokevirtual 162, 3) := by decide +kernel
theorem dX10_setTolerance_20 : decode cX10_setTolerance 20 = .ok (.ireturn, 1) := by decide +kernel
theorem dX10_setTolerance_21 : decode cX10_setTolerance 21 = .ok (.aload_n 0, 1) := by decide +kernel
theorem dX10_setTolerance_22 : decode cX10_setTolerance 22 = .ok (.invokevirtual 184, 3) := by decide +kernel
theorem dX10_setTolerance_25 : decode cX10_setTolerance 25 = .ok (.aload_n 0, 1) := by decide +kernel
theorem dX10_setTolerance_26 : decode cX10_setTolerance 26 = .ok (.getfield 13, 3) := by decide +kernel
theorem dX10_setTolerance_29 : decode cX10_setTolerance 29 = .ok (.iconst 3, 1) := by decide +kernel
theorem dX10_setTolerance_30 : decode cX10_setTolerance 30 = .ok (.iaload, 1) := by decide +kernel
theorem dX10_setTolerance_31 : decode cX10_setTolerance 31 = .ok (.istore_n 2, 1) := by decide +kernel
theorem dX10_setTolerance_32 : decode cX10_setTolerance 32 = .ok (.aload_n 0, 1) := by decide +kernel
theorem dX10_setTolerance_33 : decode cX10_setTolerance 33 = .ok (.getfield 13, 3) := by decide +kernel
theorem dX10_setTolerance_36 : decode cX10_setTolerance 36 = .ok (.iconst 3, 1) := by decide +kernel
theorem dX10_setTolerance_37 : decode cX10_setTolerance 37 = .ok (.iload_n 1, 1) := by decide +kernel
theorem dX10_setTolerance_38 : decode cX10_setTolerance 38 = .ok (.iastore, 1) := by decide +kernel
theorem dX10_setTolerance_39 : decode cX10_setTolerance 39 = .ok (.iload_n 2, 1) := by decide +kernel
theorem dX10_setTolerance_40 : decode cX10_setTolerance 40 = .ok (.ireturn, 1) := by decide +kernel
theorem dX10_exceptionAt_0 : decode cX10_exceptionAt 0 = .ok (.bipush 9, 2) := by decide +kernel
theorem dX10_exceptionAt_2 : decode cX10_exceptionAt 2 = .ok (.bipush 20, 2) := by decide +kernel
theorem dX10_exceptionAt_4 : decode cX10_exceptionAt 4 = .ok (.iload_n 0, 1) := by decide +kernel
theorem dX10_exceptionAt_5 : decode cX10_exceptionAt 5 = .ok (.imul, 1) := by decide +kernel
theorem dX10_exceptionAt_6 : decode cX10_exceptionAt 6 = .ok (.iadd, 1) := by decide +kernel
theorem dX10_exceptionAt_7 : decode cX10_exceptionAt 7 = .ok (.ireturn, 1) := by decide +kernel
theorem dX10_exceptionOf_0 : decode cX10_exceptionOf 0 = .ok (.iconst 0, 1) := by decide +kernel
theorem dX10_exceptionOf_1 : decode cX10_exceptionOf 1 = .ok (.istore 4, 2) := by decide +kernel
theorem dX10_exceptionOf_3 : decode cX10_exceptionOf 3 = .ok (.iload 4, 2) := by decide +kernel
theorem dX10_exceptionOf_5 : decode cX10_exceptionOf 5 = .ok (.aload_n 0, 1) := by decide +kernel
theorem dX10_exceptionOf_6 : decode cX10_exceptionOf 6 = .ok (.getfield 13, 3) := by decide +kernel
theorem dX10_exceptionOf_9 : decode cX10_exceptionOf 9 = .ok (.iconst 4, 1) := by decide +kernel
theorem dX10_exceptionOf_10 : decode cX10_exceptionOf 10 = .ok (.iaload, 1) := by decide +kernel
theorem dX10_exceptionOf_11 : decode cX10_exceptionOf 11 = .ok (.if_icmp .ge 89, 3) := by decide +kernel
theorem dX10_exceptionOf_14 : decode cX10_exceptionOf 14 = .ok (.aload_n 0, 1) := by decide +kernel
theorem dX10_exceptionOf_15 : decode cX10_exceptionOf 15 = .ok (.getfield 13, 3) := by decide +kernel
theorem dX10_exceptionOf_18 : decode cX10_exceptionOf 18 = .ok (.iload 4, 2) := by decide +kernel
theorem dX10_exceptionOf_20 : decode cX10_exceptionOf 20 = .ok (.invokestatic 211, 3) := by decide +kernel
theorem dX10_exceptionOf_23 : decode cX10_exceptionOf 23 = .ok (.iaload, 1) := by decide +kernel
theorem dX10_exceptionOf_24 : decode cX10_exceptionOf 24 = .ok (.iload_n 3, 1) := by decide +kernel
theorem dX10_exceptionOf_25 : decode cX10_exceptionOf 25 = .ok (.if_icmp .ne 7, 3) := by decide +kernel
theorem dX10_exceptionOf_28 : decode cX10_exceptionOf 28 = .ok (.iconst 1, 1) := by decide +kernel
theorem dX10_exceptionOf_29 : decode cX10_exceptionOf 29 = .ok (.goto 4, 3) := by decide +kernel
theorem dX10_exceptionOf_32 : decode cX10_exceptionOf 32 = .ok (.iconst 0, 1) := by decide +kernel
theorem dX10_exceptionOf_33 : decode cX10_exceptionOf 33 = .ok (.istore 5, 2) := by decide +kernel
theorem dX10_exceptionOf_35 : decode cX10_exceptionOf 35 = .ok (.iconst 0, 1) := by decide +kernel
theorem dX10_exceptionOf_36 : decode cX10_exceptionOf 36 = .ok (.istore 6, 2) := by decide +kernel
theorem dX10_exceptionOf_38 : decode cX10_exceptionOf 38 = .ok (.iload 6, 2) := by decide +kernel
theorem dX10_exceptionOf_40 : decode cX10_exceptionOf 40 = .ok (.iload_n 3, 1) := by decide +kernel
theorem dX10_exceptionOf_41 : decode cX10_exceptionOf 41 = .ok (.if_icmp .ge 45, 3) := by decide +kernel
theorem dX10_exceptionOf_44 : decode cX10_exceptionOf 44 = .ok (.iload 5, 2) := by decide +kernel
theorem dX10_exceptionOf_46 : decode cX10_exceptionOf 46 = .ok (.ifCond .eq 40, 3) := by decide +kernel
theorem dX10_exceptionOf_49 : decode cX10_exceptionOf 49 = .ok (.aload_n 0, 1) := by decide +kernel
theorem dX10_exceptionOf_50 : decode cX10_exceptionOf 50 = .ok (.getfield 13, 3) := by decide +kernel
theorem dX10_exceptionOf_53 : decode cX10_exceptionOf 53 = .ok (.iload 4, 2) := by decide +kernel
theorem dX10_exceptionOf_55 : decode cX10_exceptionOf 55 = .ok (.invokestatic 211, 3) := by decide +kernel
theorem dX10_exceptionOf_58 : decode cX10_exceptionOf 58 = .ok (.iconst 1, 1) := by decide +kernel
theorem dX10_exceptionOf_59 : decode cX10_exceptionOf 59 = .ok (.iadd, 1) := by decide +kernel
theorem dX10_exceptionOf_60 : decode cX10_exceptionOf 60 = .ok (.iload 6, 2) := by decide +kernel
theorem dX10_exceptionOf_62 : decode cX10_exceptionOf 62 = .ok (.iadd, 1) := by decide +kernel
theorem dX10_exceptionOf_63 : decode cX10_exceptionOf 63 = .ok (.iaload, 1) := by decide +kernel
theorem dX10_exceptionOf_64 : decode cX10_exceptionOf 64 = .ok (.aload_n 1, 1) := by decide +kernel
theorem dX10_exceptionOf_65 : decode cX10_exceptionOf 65 = .ok (.iload_n 2, 1) := by decide +kernel
theorem dX10_exceptionOf_66 : decode cX10_exceptionOf 66 = .ok (.iload 6, 2) := by decide +kernel
theorem dX10_exceptionOf_68 : decode cX10_exceptionOf 68 = .ok (.iadd, 1) := by decide +kernel
theorem dX10_exceptionOf_69 : decode cX10_exceptionOf 69 = .ok (.iaload, 1) := by decide +kernel
theorem dX10_exceptionOf_70 : decode cX10_exceptionOf 70 = .ok (.if_icmp .ne 7, 3) := by decide +kernel
theorem dX10_exceptionOf_73 : decode cX10_exceptionOf 73 = .ok (.iconst 1, 1) := by decide +kernel
theorem dX10_exceptionOf_74 : decode cX10_exceptionOf 74 = .ok (.goto 4, 3) := by decide +kernel
theorem dX10_exceptionOf_77 : decode cX10_exceptionOf 77 = .ok (.iconst 0, 1) := by decide +kernel
theorem dX10_exceptionOf_78 : decode cX10_exceptionOf 78 = .ok (.istore 5, 2) := by decide +kernel
theorem dX10_exceptionOf_80 : decode cX10_exceptionOf 80 = .ok (.iinc 6 1, 3) := by decide +kernel
theorem dX10_exceptionOf_83 : decode cX10_exceptionOf 83 = .ok (.goto (-45), 3) := by decide +kernel
theorem dX10_exceptionOf_86 : decode cX10_exceptionOf 86 = .ok (.iload 5, 2) := by decide +kernel
theorem dX10_exceptionOf_88 : decode cX10_exceptionOf 88 = .ok (.ifCond .eq 6, 3) := by decide +kernel
theorem dX10_exceptionOf_91 : decode cX10_exceptionOf 91 = .ok (.iload 4, 2) := by decide +kernel
theorem dX10_exceptionOf_93 : decode cX10_exceptionOf 93 = .ok (.ireturn, 1) := by decide +kernel
theorem dX10_exceptionOf_94 : decode cX10_exceptionOf 94 = .ok (.iinc 4 1, 3) := by decide +kernel
theorem dX10_exceptionOf_97 : decode cX10_exceptionOf 97 = .ok (.goto (-94), 3) := by decide +kernel
theorem dX10_exceptionOf_100 : decode cX10_exceptionOf 100 = .ok (.iconst (-1), 1) := by decide +kernel
theorem dX10_exceptionOf_101 : decode cX10_exceptionOf 101 = .ok (.ireturn, 1) := by decide +kernel
theorem dX10_readException_0 : decode cX10_readException 0 = .ok (.aload_n 0, 1) := by decide +kernel
theorem dX10_readException_1 : decode cX10_readException 1 = .ok (.invokevirtual 174, 3) := by decide +kernel
theorem dX10_readException_4 : decode cX10_readException 4 = .ok (.aload_n 0, 1) := by decide +kernel
theorem dX10_readException_5 : decode cX10_readException 5 = .ok (.invokevirtual 177, 3) := by decide +kernel
theorem dX10_readException_8 : decode cX10_readException 8 = .ok (.istore_n 1, 1) := by decide +kernel
theorem dX10_readException_9 : decode cX10_readException 9 = .ok (.aload_n 0, 1) := by decide +kernel
theorem dX10_readException_10 : decode cX10_readException 10 = .ok (.bipush 32, 2) := by decide +kernel
theorem dX10_readException_12 : decode cX10_readException 12 = .ok (.invokevirtual 197, 3) := by decide +kernel
theorem dX10_readException_15 : decode cX10_readException 15 = .ok (.iconst 0, 1) := by decide +kernel
theorem dX10_readException_16 : decode cX10_readException 16 = .ok (.istore_n 2, 1) := by decide +kernel
theorem dX10_readException_17 : decode cX10_readException 17 = .ok (.iload_n 2, 1) := by decide +kernel
theorem dX10_readException_18 : decode cX10_readException 18 = .ok (.ifCond .eq 23, 3) := by decide +kernel
theorem dX10_readException_21 : decode cX10_readException 21 = .ok (.iload_n 2, 1) := by decide +kernel
theorem dX10_readException_22 : decode cX10_readException 22 = .ok (.bipush 6, 2) := by decide +kernel
theorem dX10_readException_24 : decode cX10_readException 24 = .ok (.if_icmp .ge 35, 3) := by decide +kernel
theorem dX10_readException_27 : decode cX10_readException 27 = .ok (.aload_n 0, 1) := by decide +kernel
theorem dX10_readException_28 : decode cX10_readException 28 = .ok (.invokevirtual 166, 3) := by decide +kernel
theorem dX10_readException_31 : decode cX10_readException 31 = .ok (.bipush 48, 2) := by decide +kernel
theorem dX10_readException_33 : decode cX10_readException 33 = .ok (.bipush 50, 2) := by decide +kernel
theorem dX10_readException_35 : decode cX10_readException 35 = .ok (.invokestatic 158, 3) := by decide +kernel
theorem dX10_readException_38 : decode cX10_readException 38 = .ok (.ifCond .eq 21, 3) := by decide +kernel
theorem dX10_readException_41 : decode cX10_readException 41 = .ok (.aload_n 0, 1) := by decide +kernel
theorem dX10_readException_42 : decode cX10_readException 42 = .ok (.getfield 54, 3) := by decide +kernel
theorem dX10_readException_45 : decode cX10_readException 45 = .ok (.iload_n 2, 1) := by decide +kernel
theorem dX10_readException_46 : decode cX10_readException 46 = .ok (.aload_n 0, 1) := by decide +kernel
theorem dX10_readException_47 : decode cX10_readException 47 = .ok (.iconst 0, 1) := by decide +kernel
theorem dX10_readException_48 : decode cX10_readException 48 = .ok (.iconst 2, 1) := by decide +kernel
theorem dX10_readException_49 : decode cX10_readException 49 = .ok (.invokevirtual 201, 3) := by decide +kernel
theorem dX10_readException_52 : decode cX10_readException 52 = .ok (.iastore, 1) := by decide +kernel
theorem dX10_readException_53 : decode cX10_readException 53 = .ok (.iinc 2 1, 3) := by decide +kernel
theorem dX10_readException_56 : decode cX10_readException 56 = .ok (.goto (-39), 3) := by decide +kernel
theorem dX10_readException_59 : decode cX10_readException 59 = .ok (.aload_n 0, 1) := by decide +kernel
theorem dX10_readException_60 : decode cX10_readException 60 = .ok (.invokevirtual 180, 3) := by decide +kernel
theorem dX10_readException_63 : decode cX10_readException 63 = .ok (.ifCond .eq 9, 3) := by decide +kernel
theorem dX10_readException_66 : decode cX10_readException 66 = .ok (.aload_n 0, 1) := by decide +kernel
theorem dX10_readException_67 : decode cX10_readException 67 = .ok (.iconst 1, 1) := by decide +kernel
theorem dX10_readException_68 : decode cX10_readException 68 = .ok (.invokevirtual 162, 3) := by decide +kernel
theorem dX10_readException_71 : decode cX10_readException 71 = .ok (.ireturn, 1) := by decide +kernel
theorem dX10_readException_72 : decode cX10_readException 72 = .ok (.aload_n 0, 1) := by decide +kernel
theorem dX10_readException_73 : decode cX10_readException 73 = .ok (.aload_n 0, 1) := by decide +kernel
theorem dX10_readException_74 : decode cX10_readException 74 = .ok (.getfield 33, 3) := by decide +kernel
theorem dX10_readException_77 : decode cX10_readException 77 = .ok (.iconst 0, 1) := by decide +kernel
theorem dX10_readException_78 : decode cX10_readException 78 = .ok (.iload_n 1, 1) := by decide +kernel
theorem dX10_readException_79 : decode cX10_readException 79 = .ok (.invokevirtual 214, 3) := by decide +kernel
theorem dX10_readException_82 : decode cX10_readException 82 = .ok (.istore_n 3, 1) := by decide +kernel
theorem dX10_readException_83 : decode cX10_readException 83 = .ok (.iload_n 3, 1) := by decide +kernel
theorem dX10_readException_84 : decode cX10_readException 84 = .ok (.ifCond .ge 20, 3) := by decide +kernel
theorem dX10_readException_87 : decode cX10_readException 87 = .ok (.aload_n 0, 1) := by decide +kernel
theorem dX10_readException_88 : decode cX10_readException 88 = .ok (.getfield 13, 3) := by decide +kernel
theorem dX10_readException_91 : decode cX10_readException 91 = .ok (.iconst 4, 1) := by decide +kernel
theorem dX10_readException_92 : decode cX10_readException 92 = .ok (.iaload, 1) := by decide +kernel
theorem dX10_readException_93 : decode cX10_readException 93 = .ok (.bipush 8, 2) := by decide +kernel
theorem dX10_readException_95 : decode cX10_readException 95 = .ok (.if_icmp .ne 9, 3) := by decide +kernel
theorem dX10_readException_98 : decode cX10_readException 98 = .ok (.aload_n 0, 1) := by decide +kernel
theorem dX10_readException_99 : decode cX10_readException 99 = .ok (.iconst 2, 1) := by decide +kernel
theorem dX10_readException_100 : decode cX10_readException 100 = .ok (.invokevirtual 162, 3) := by decide +kernel
theorem dX10_readException_103 : decode cX10_readException 103 = .ok (.ireturn, 1) := by decide +kernel
theorem dX10_readException_104 : decode cX10_readException 104 = .ok (.aload_n 0, 1) := by decide +kernel
theorem dX10_readException_105 : decode cX10_readException 105 = .ok (.invokevirtual 184, 3) := by decide +kernel
theorem dX10_readException_108 : decode cX10_readException 108 = .ok (.iload_n 3, 1) := by decide +kernel
theorem dX10_readException_109 : decode cX10_readException 109 = .ok (.ifCond .ge 20, 3) := by decide +kernel
theorem dX10_readException_112 : decode cX10_readException 112 = .ok (.aload_n 0, 1) := by decide +kernel
theorem dX10_readException_113 : decode cX10_readException 113 = .ok (.getfield 13, 3) := by decide +kernel
theorem dX10_readException_116 : decode cX10_readException 116 = .ok (.iconst 4, 1) := by decide +kernel
theorem dX10_readException_117 : decode cX10_readException 117 = .ok (.iaload, 1) := by decide +kernel
theorem dX10_readException_118 : decode cX10_readException 118 = .ok (.istore_n 3, 1) := by decide +kernel
theorem dX10_readException_119 : decode cX10_readException 119 = .ok (.aload_n 0, 1) := by decide +kernel
theorem dX10_readException_120 : decode cX10_readException 120 = .ok (.getfield 13, 3) := by decide +kernel
theorem dX10_readException_123 : decode cX10_readException 123 = .ok (.iconst 4, 1) := by decide +kernel
theorem dX10_readException_124 : decode cX10_readException 124 = .ok (.dup2, 1) := by decide +kernel
theorem dX10_readException_125 : decode cX10_readException 125 = .ok (.iaload, 1) := by decide +kernel
theorem dX10_readException_126 : decode cX10_readException 126 = .ok (.iconst 1, 1) := by decide +kernel
theorem dX10_readException_127 : decode cX10_readException 127 = .ok (.iadd, 1) := by decide +kernel
theorem dX10_readException_128 : decode cX10_readException 128 = .ok (.iastore, 1) := by decide +kernel
theorem dX10_readException_129 : decode cX10_readException 129 = .ok (.iload_n 3, 1) := by decide +kernel
theorem dX10_readException_130 : decode cX10_readException 130 = .ok (.invokestatic 211, 3) := by decide +kernel
theorem dX10_readException_133 : decode cX10_readException 133 = .ok (.istore 4, 2) := by decide +kernel
theorem dX10_readException_135 : decode cX10_readException 135 = .ok (.aload_n 0, 1) := by decide +kernel
theorem dX10_readException_136 : decode cX10_readException 136 = .ok (.getfield 13, 3) := by decide +kernel
theorem dX10_readException_139 : decode cX10_readException 139 = .ok (.iload 4, 2) := by decide +kernel
theorem dX10_readException_141 : decode cX10_readException 141 = .ok (.iload_n 1, 1) := by decide +kernel
theorem dX10_readException_142 : decode cX10_readException 142 = .ok (.iastore, 1) := by decide +kernel
theorem dX10_readException_143 : decode cX10_readException 143 = .ok (.iconst 0, 1) := by decide +kernel
theorem dX10_readException_144 : decode cX10_readException 144 = .ok (.istore 5, 2) := by decide +kernel
theorem dX10_readException_146 : decode cX10_readException 146 = .ok (.iload 5, 2) := by decide +kernel
theorem dX10_readException_148 : decode cX10_readException 148 = .ok (.bipush 12, 2) := by decide +kernel
theorem dX10_readException_150 : decode cX10_readException 150 = .ok (.if_icmp .ge 38, 3) := by decide +kernel
theorem dX10_readException_153 : decode cX10_readException 153 = .ok (.aload_n 0, 1) := by decide +kernel
theorem dX10_readException_154 : decode cX10_readException 154 = .ok (.getfield 13, 3) := by decide +kernel
theorem dX10_readException_157 : decode cX10_readException 157 = .ok (.iload 4, 2) := by decide +kernel
theorem dX10_readException_159 : decode cX10_readException 159 = .ok (.iconst 1, 1) := by decide +kernel
theorem dX10_readException_160 : decode cX10_readException 160 = .ok (.iadd, 1) := by decide +kernel
theorem dX10_readException_161 : decode cX10_readException 161 = .ok (.iload 5, 2) := by decide +kernel
theorem dX10_readException_163 : decode cX10_readException 163 = .ok (.iadd, 1) := by decide +kernel
theorem dX10_readException_164 : decode cX10_readException 164 = .ok (.iload 5, 2) := by decide +kernel
theorem dX10_readException_166 : decode cX10_readException 166 = .ok (.iload_n 1, 1) := by decide +kernel
theorem dX10_readException_167 : decode cX10_readException 167 = .ok (.if_icmp .ge 13, 3) := by decide +kernel
theorem dX10_readException_170 : decode cX10_readException 170 = .ok (.aload_n 0, 1) := by decide +kernel
theorem dX10_readException_171 : decode cX10_readException 171 = .ok (.getfield 33, 3) := by decide +kernel
theorem dX10_readException_174 : decode cX10_readException 174 = .ok (.iload 5, 2) := by decide +kernel
theorem dX10_readException_176 : decode cX10_readException 176 = .ok (.iaload, 1) := by decide +kernel
theorem dX10_readException_177 : decode cX10_readException 177 = .ok (.goto 4, 3) := by decide +kernel
theorem dX10_readException_180 : decode cX10_readException 180 = .ok (.iconst 0, 1) := by decide +kernel
theorem dX10_readException_181 : decode cX10_readException 181 = .ok (.iastore, 1) := by decide +kernel
theorem dX10_readException_182 : decode cX10_readException 182 = .ok (.iinc 5 1, 3) := by decide +kernel
theorem dX10_readException_185 : decode cX10_readException 185 = .ok (.goto (-39), 3) := by decide +kernel
theorem dX10_readException_188 : decode cX10_readException 188 = .ok (.aload_n 0, 1) := by decide +kernel
theorem dX10_readException_189 : decode cX10_readException 189 = .ok (.getfield 13, 3) := by decide +kernel
theorem dX10_readException_192 : decode cX10_readException 192 = .ok (.iload 4, 2) := by decide +kernel
theorem dX10_readException_194 : decode cX10_readException 194 = .ok (.iconst 1, 1) := by decide +kernel
theorem dX10_readException_195 : decode cX10_readException 195 = .ok (.iadd, 1) := by decide +kernel
theorem dX10_readException_196 : decode cX10_readException 196 = .ok (.bipush 12, 2) := by decide +kernel
theorem dX10_readException_198 : decode cX10_readException 198 = .ok (.iadd, 1) := by decide +kernel
theorem dX10_readException_199 : decode cX10_readException 199 = .ok (.iload_n 2, 1) := by decide +kernel
theorem dX10_readException_200 : decode cX10_readException 200 = .ok (.iastore, 1) := by decide +kernel
theorem dX10_readException_201 : decode cX10_readException 201 = .ok (.iconst 0, 1) := by decide +kernel
theorem dX10_readException_202 : decode cX10_readException 202 = .ok (.istore 5, 2) := by decide +kernel
theorem dX10_readException_204 : decode cX10_readException 204 = .ok (.iload 5, 2) := by decide +kernel
theorem dX10_readException_206 : decode cX10_readException 206 = .ok (.bipush 6, 2) := by decide +kernel
theorem dX10_readException_208 : decode cX10_readException 208 = .ok (.if_icmp .ge 41, 3) := by decide +kernel
theorem dX10_readException_211 : decode cX10_readException 211 = .ok (.aload_n 0, 1) := by decide +kernel
theorem dX10_readException_212 : decode cX10_readException 212 = .ok (.getfield 13, 3) := by decide +kernel
theorem dX10_readException_215 : decode cX10_readException 215 = .ok (.iload 4, 2) := by decide +kernel
theorem dX10_readException_217 : decode cX10_readException 217 = .ok (.iconst 2, 1) := by decide +kernel
theorem dX10_readException_218 : decode cX10_readException 218 = .ok (.iadd, 1) := by decide +kernel
theorem dX10_readException_219 : decode cX10_readException 219 = .ok (.bipush 12, 2) := by decide +kernel
theorem dX10_readException_221 : decode cX10_readException 221 = .ok (.iadd, 1) := by decide +kernel
theorem dX10_readException_222 : decode cX10_readException 222 = .ok (.iload 5, 2) := by decide +kernel
theorem dX10_readException_224 : decode cX10_readException 224 = .ok (.iadd, 1) := by decide +kernel
theorem dX10_readException_225 : decode cX10_readException 225 = .ok (.iload 5, 2) := by decide +kernel
theorem dX10_readException_227 : decode cX10_readException 227 = .ok (.iload_n 2, 1) := by decide +kernel
theorem dX10_readException_228 : decode cX10_readException 228 = .ok (.if_icmp .ge 13, 3) := by decide +kernel
theorem dX10_readException_231 : decode cX10_readException 231 = .ok (.aload_n 0, 1) := by decide +kernel
theorem dX10_readException_232 : decode cX10_readException 232 = .ok (.getfield 54, 3) := by decide +kernel
theorem dX10_readException_235 : decode cX10_readException 235 = .ok (.iload 5, 2) := by decide +kernel
theorem dX10_readException_237 : decode cX10_readException 237 = .ok (.iaload, 1) := by decide +kernel
theorem dX10_readException_238 : decode cX10_readException 238 = .ok (.goto 4, 3) := by decide +kernel
theorem dX10_readException_241 : decode cX10_readException 241 = .ok (.iconst 0, 1) := by decide +kernel
theorem dX10_readException_242 : decode cX10_readException 242 = .ok (.iastore, 1) := by decide +kernel
theorem dX10_readException_243 : decode cX10_readException 243 = .ok (.iinc 5 1, 3) := by decide +kernel
theorem dX10_readException_246 : decode cX10_readException 246 = .ok (.goto (-42), 3) := by decide +kernel
theorem dX10_readException_249 : decode cX10_readException 249 = .ok (.iload_n 3, 1) := by decide +kernel
theorem dX10_readException_250 : decode cX10_readException 250 = .ok (.ireturn, 1) := by decide +kernel
theorem dX10_dropException_0 : decode cX10_dropException 0 = .ok (.aload_n 0, 1) := by decide +kernel
theorem dX10_dropException_1 : decode cX10_dropException 1 = .ok (.iconst 0, 1) := by decide +kernel
theorem dX10_dropException_2 : decode cX10_dropException 2 = .ok (.putfield 3, 3) := by decide +kernel
theorem dX10_dropException_5 : decode cX10_dropException 5 = .ok (.iload_n 1, 1) := by decide +kernel
theorem dX10_dropException_6 : decode cX10_dropException 6 = .ok (.iconst 0, 1) := by decide +kernel
theorem dX10_dropException_7 : decode cX10_dropException 7 = .ok (.aload_n 0, 1) := by decide +kernel
theorem dX10_dropException_8 : decode cX10_dropException 8 = .ok (.getfield 13, 3) := by decide +kernel
theorem dX10_dropException_11 : decode cX10_dropException 11 = .ok (.iconst 4, 1) := by decide +kernel
theorem dX10_dropException_12 : decode cX10_dropException 12 = .ok (.iaload, 1) := by decide +kernel
theorem dX10_dropException_13 : decode cX10_dropException 13 = .ok (.iconst 1, 1) := by decide +kernel
theorem dX10_dropException_14 : decode cX10_dropException 14 = .ok (.isub, 1) := by decide +kernel
theorem dX10_dropException_15 : decode cX10_dropException 15 = .ok (.invokestatic 158, 3) := by decide +kernel
theorem dX10_dropException_18 : decode cX10_dropException 18 = .ok (.ifCond .ne 9, 3) := by decide +kernel
theorem dX10_dropException_21 : decode cX10_dropException 21 = .ok (.aload_n 0, 1) := by decide +kernel
theorem dX10_dropException_22 : decode cX10_dropException 22 = .ok (.iconst 1, 1) := by decide +kernel
theorem dX10_dropException_23 : decode cX10_dropException 23 = .ok (.invokevirtual 162, 3) := by decide +kernel
theorem dX10_dropException_26 : decode cX10_dropException 26 = .ok (.ireturn, 1) := by decide +kernel
theorem dX10_dropException_27 : decode cX10_dropException 27 = .ok (.aload_n 0, 1) := by decide +kernel
theorem dX10_dropException_28 : decode cX10_dropException 28 = .ok (.invokevirtual 184, 3) := by decide +kernel
theorem dX10_dropException_31 : decode cX10_dropException 31 = .ok (.aload_n 0, 1) := by decide +kernel
theorem dX10_dropException_32 : decode cX10_dropException 32 = .ok (.getfield 13, 3) := by decide +kernel
theorem dX10_dropException_35 : decode cX10_dropException 35 = .ok (.iload_n 1, 1) := by decide +kernel
theorem dX10_dropException_36 : decode cX10_dropException 36 = .ok (.invokestatic 211, 3) := by decide +kernel
theorem dX10_dropException_39 : decode cX10_dropException 39 = .ok (.iconst 1, 1) := by decide +kernel
theorem dX10_dropException_40 : decode cX10_dropException 40 = .ok (.iadd, 1) := by decide +kernel
theorem dX10_dropException_41 : decode cX10_dropException 41 = .ok (.bipush 12, 2) := by decide +kernel
theorem dX10_dropException_43 : decode cX10_dropException 43 = .ok (.iadd, 1) := by decide +kernel
theorem dX10_dropException_44 : decode cX10_dropException 44 = .ok (.iaload, 1) := by decide +kernel
theorem dX10_dropException_45 : decode cX10_dropException 45 = .ok (.istore_n 2, 1) := by decide +kernel
theorem dX10_dropException_46 : decode cX10_dropException 46 = .ok (.iload_n 1, 1) := by decide +kernel
theorem dX10_dropException_47 : decode cX10_dropException 47 = .ok (.invokestatic 211, 3) := by decide +kernel
theorem dX10_dropException_50 : decode cX10_dropException 50 = .ok (.istore_n 3, 1) := by decide +kernel
theorem dX10_dropException_51 : decode cX10_dropException 51 = .ok (.iload_n 3, 1) := by decide +kernel
theorem dX10_dropException_52 : decode cX10_dropException 52 = .ok (.aload_n 0, 1) := by decide +kernel
theorem dX10_dropException_53 : decode cX10_dropException 53 = .ok (.getfield 13, 3) := by decide +kernel
theorem dX10_dropException_56 : decode cX10_dropException 56 = .ok (.iconst 4, 1) := by decide +kernel
theorem dX10_dropException_57 : decode cX10_dropException 57 = .ok (.iaload, 1) := by decide +kernel
theorem dX10_dropException_58 : decode cX10_dropException 58 = .ok (.iconst 1, 1) := by decide +kernel
theorem dX10_dropException_59 : decode cX10_dropException 59 = .ok (.isub, 1) := by decide +kernel
theorem dX10_dropException_60 : decode cX10_dropException 60 = .ok (.invokestatic 211, 3) := by decide +kernel
theorem dX10_dropException_63 : decode cX10_dropException 63 = .ok (.if_icmp .ge 24, 3) := by decide +kernel
theorem dX10_dropException_66 : decode cX10_dropException 66 = .ok (.aload_n 0, 1) := by decide +kernel
theorem dX10_dropException_67 : decode cX10_dropException 67 = .ok (.getfield 13, 3) := by decide +kernel
theorem dX10_dropException_70 : decode cX10_dropException 70 = .ok (.iload_n 3, 1) := by decide +kernel
theorem dX10_dropException_71 : decode cX10_dropException 71 = .ok (.aload_n 0, 1) := by decide +kernel
theorem dX10_dropException_72 : decode cX10_dropException 72 = .ok (.getfield 13, 3) := by decide +kernel
theorem dX10_dropException_75 : decode cX10_dropException 75 = .ok (.iload_n 3, 1) := by decide +kernel
theorem dX10_dropException_76 : decode cX10_dropException 76 = .ok (.bipush 20, 2) := by decide +kernel
theorem dX10_dropException_78 : decode cX10_dropException 78 = .ok (.iadd, 1) := by decide +kernel
theorem dX10_dropException_79 : decode cX10_dropException 79 = .ok (.iaload, 1) := by decide +kernel
theorem dX10_dropException_80 : decode cX10_dropException 80 = .ok (.iastore, 1) := by decide +kernel
theorem dX10_dropException_81 : decode cX10_dropException 81 = .ok (.iinc 3 1, 3) := by decide +kernel
theorem dX10_dropException_84 : decode cX10_dropException 84 = .ok (.goto (-33), 3) := by decide +kernel
theorem dX10_dropException_87 : decode cX10_dropException 87 = .ok (.aload_n 0, 1) := by decide +kernel
theorem dX10_dropException_88 : decode cX10_dropException 88 = .ok (.getfield 13, 3) := by decide +kernel
theorem dX10_dropException_91 : decode cX10_dropException 91 = .ok (.iconst 4, 1) := by decide +kernel
theorem dX10_dropException_92 : decode cX10_dropException 92 = .ok (.dup2, 1) := by decide +kernel
theorem dX10_dropException_93 : decode cX10_dropException 93 = .ok (.iaload, 1) := by decide +kernel
theorem dX10_dropException_94 : decode cX10_dropException 94 = .ok (.iconst 1, 1) := by decide +kernel
theorem dX10_dropException_95 : decode cX10_dropException 95 = .ok (.isub, 1) := by decide +kernel
theorem dX10_dropException_96 : decode cX10_dropException 96 = .ok (.iastore, 1) := by decide +kernel
theorem dX10_dropException_97 : decode cX10_dropException 97 = .ok (.iload_n 2, 1) := by decide +kernel
theorem dX10_dropException_98 : decode cX10_dropException 98 = .ok (.ireturn, 1) := by decide +kernel
theorem dX10_exceptions_0 : decode cX10_exceptions 0 = .ok (.aload_n 0, 1) := by decide +kernel
theorem dX10_exceptions_1 : decode cX10_exceptions 1 = .ok (.getfield 13, 3) := by decide +kernel
theorem dX10_exceptions_4 : decode cX10_exceptions 4 = .ok (.iconst 4, 1) := by decide +kernel
theorem dX10_exceptions_5 : decode cX10_exceptions 5 = .ok (.iaload, 1) := by decide +kernel
theorem dX10_exceptions_6 : decode cX10_exceptions 6 = .ok (.ireturn, 1) := by decide +kernel
theorem dX10_isDraft_0 : decode cX10_isDraft 0 = .ok (.iload_n 0, 1) := by decide +kernel
theorem dX10_isDraft_1 : decode cX10_isDraft 1 = .ok (.iconst 0, 1) := by decide +kernel
theorem dX10_isDraft_2 : decode cX10_isDraft 2 = .ok (.iconst 3, 1) := by decide +kernel
theorem dX10_isDraft_3 : decode cX10_isDraft 3 = .ok (.invokestatic 158, 3) := by decide +kernel
theorem dX10_isDraft_6 : decode cX10_isDraft 6 = .ok (.ireturn, 1) := by decide +kernel
theorem dX10_isLine_0 : decode cX10_isLine 0 = .ok (.iload_n 1, 1) := by decide +kernel
theorem dX10_isLine_1 : decode cX10_isLine 1 = .ok (.invokestatic 218, 3) := by decide +kernel
theorem dX10_isLine_4 : decode cX10_isLine 4 = .ok (.ifCond .eq 25, 3) := by decide +kernel
theorem dX10_isLine_7 : decode cX10_isLine 7 = .ok (.iload_n 2, 1) := by decide +kernel
theorem dX10_isLine_8 : decode cX10_isLine 8 = .ok (.iconst 0, 1) := by decide +kernel
theorem dX10_isLine_9 : decode cX10_isLine 9 = .ok (.aload_n 0, 1) := by decide +kernel
theorem dX10_isLine_10 : decode cX10_isLine 10 = .ok (.getfield 13, 3) := by decide +kernel
theorem dX10_isLine_13 : decode cX10_isLine 13 = .ok (.iconst 5, 1) := by decide +kernel
theorem dX10_isLine_14 : decode cX10_isLine 14 = .ok (.iload_n 1, 1) := by decide +kernel
theorem dX10_isLine_15 : decode cX10_isLine 15 = .ok (.iadd, 1) := by decide +kernel
theorem dX10_isLine_16 : decode cX10_isLine 16 = .ok (.iaload, 1) := by decide +kernel
theorem dX10_isLine_17 : decode cX10_isLine 17 = .ok (.iconst 1, 1) := by decide +kernel
theorem dX10_isLine_18 : decode cX10_isLine 18 = .ok (.isub, 1) := by decide +kernel
theorem dX10_isLine_19 : decode cX10_isLine 19 = .ok (.invokestatic 158, 3) := by decide +kernel
theorem dX10_isLine_22 : decode cX10_isLine 22 = .ok (.ifCond .eq 7, 3) := by decide +kernel
theorem dX10_isLine_25 : decode cX10_isLine 25 = .ok (.iconst 1, 1) := by decide +kernel
theorem dX10_isLine_26 : decode cX10_isLine 26 = .ok (.goto 4, 3) := by decide +kernel
theorem dX10_isLine_29 : decode cX10_isLine 29 = .ok (.iconst 0, 1) := by decide +kernel
theorem dX10_isLine_30 : decode cX10_isLine 30 = .ok (.ireturn, 1) := by decide +kernel
theorem dX10_lineAt_0 : decode cX10_lineAt 0 = .ok (.sipush 169, 3) := by decide +kernel
theorem dX10_lineAt_3 : decode cX10_lineAt 3 = .ok (.bipush 61, 2) := by decide +kernel
theorem dX10_lineAt_5 : decode cX10_lineAt 5 = .ok (.bipush 10, 2) := by decide +kernel
theorem dX10_lineAt_7 : decode cX10_lineAt 7 = .ok (.iload_n 0, 1) := by decide +kernel
theorem dX10_lineAt_8 : decode cX10_lineAt 8 = .ok (.imul, 1) := by decide +kernel
theorem dX10_lineAt_9 : decode cX10_lineAt 9 = .ok (.iload_n 1, 1) := by decide +kernel
theorem dX10_lineAt_10 : decode cX10_lineAt 10 = .ok (.iadd, 1) := by decide +kernel
theorem dX10_lineAt_11 : decode cX10_lineAt 11 = .ok (.imul, 1) := by decide +kernel
theorem dX10_lineAt_12 : decode cX10_lineAt 12 = .ok (.iadd, 1) := by decide +kernel
theorem dX10_lineAt_13 : decode cX10_lineAt 13 = .ok (.ireturn, 1) := by decide +kernel
theorem dX10_lays_0 : decode cX10_lays 0 = .ok (.iload_n 1, 1) := by decide +kernel
theorem dX10_lays_1 : decode cX10_lays 1 = .ok (.iload_n 2, 1) := by decide +kernel
theorem dX10_lays_2 : decode cX10_lays 2 = .ok (.invokestatic 221, 3) := by decide +kernel
theorem dX10_lays_5 : decode cX10_lays 5 = .ok (.istore_n 3, 1) := by decide +kernel
theorem dX10_lays_6 : decode cX10_lays 6 = .ok (.aload_n 0, 1) := by decide +kernel
theorem dX10_lays_7 : decode cX10_lays 7 = .ok (.getfield 13, 3) := by decide +kernel
theorem dX10_lays_10 : decode cX10_lays 10 = .ok (.iload_n 3, 1) := by decide +kernel
theorem dX10_lays_11 : decode cX10_lays 11 = .ok (.aload_n 0, 1) := by decide +kernel
theorem dX10_lays_12 : decode cX10_lays 12 = .ok (.getfield 48, 3) := by decide +kernel
theorem dX10_lays_15 : decode cX10_lays 15 = .ok (.iastore, 1) := by decide +kernel
theorem dX10_lays_16 : decode cX10_lays 16 = .ok (.iconst 0, 1) := by decide +kernel
theorem dX10_lays_17 : decode cX10_lays 17 = .ok (.istore 4, 2) := by decide +kernel
theorem dX10_lays_19 : decode cX10_lays 19 = .ok (.iload 4, 2) := by decide +kernel
theorem dX10_lays_21 : decode cX10_lays 21 = .ok (.bipush 60, 2) := by decide +kernel
theorem dX10_lays_23 : decode cX10_lays 23 = .ok (.if_icmp .ge 40, 3) := by decide +kernel
theorem dX10_lays_26 : decode cX10_lays 26 = .ok (.aload_n 0, 1) := by decide +kernel
theorem dX10_lays_27 : decode cX10_lays 27 = .ok (.getfield 13, 3) := by decide +kernel
theorem dX10_lays_30 : decode cX10_lays 30 = .ok (.iload_n 3, 1) := by decide +kernel
theorem dX10_lays_31 : decode cX10_lays 31 = .ok (.iconst 1, 1) := by decide +kernel
theorem dX10_lays_32 : decode cX10_lays 32 = .ok (.iadd, 1) := by decide +kernel
theorem dX10_lays_33 : decode cX10_lays 33 = .ok (.iload 4, 2) := by decide +kernel
theorem dX10_lays_35 : decode cX10_lays 35 = .ok (.iadd, 1) := by decide +kernel
theorem dX10_lays_36 : decode cX10_lays 36 = .ok (.iload 4, 2) := by decide +kernel
theorem dX10_lays_38 : decode cX10_lays 38 = .ok (.aload_n 0, 1) := by decide +kernel
theorem dX10_lays_39 : decode cX10_lays 39 = .ok (.getfield 48, 3) := by decide +kernel
theorem dX10_lays_42 : decode cX10_lays 42 = .ok (.if_icmp .ge 13, 3) := by decide +kernel
theorem dX10_lays_45 : decode cX10_lays 45 = .ok (.aload_n 0, 1) := by decide +kernel
theorem dX10_lays_46 : decode cX10_lays 46 = .ok (.getfield 33, 3) := by decide +kernel
theorem dX10_lays_49 : decode cX10_lays 49 = .ok (.iload 4, 2) := by decide +kernel
theorem dX10_lays_51 : decode cX10_lays 51 = .ok (.iaload, 1) := by decide +kernel
theorem dX10_lays_52 : decode cX10_lays 52 = .ok (.goto 4, 3) := by decide +kernel
theorem dX10_lays_55 : decode cX10_lays 55 = .ok (.iconst 0, 1) := by decide +kernel
theorem dX10_lays_56 : decode cX10_lays 56 = .ok (.iastore, 1) := by decide +kernel
theorem dX10_lays_57 : decode cX10_lays 57 = .ok (.iinc 4 1, 3) := by decide +kernel
theorem dX10_lays_60 : decode cX10_lays 60 = .ok (.goto (-41), 3) := by decide +kernel
theorem dX10_lays_63 : decode cX10_lays 63 = .ok (.return_, 1) := by decide +kernel
theorem dX10_moves_0 : decode cX10_moves 0 = .ok (.iconst 0, 1) := by decide +kernel
theorem dX10_moves_1 : decode cX10_moves 1 = .ok (.istore_n 3, 1) := by decide +kernel
theorem dX10_moves_2 : decode cX10_moves 2 = .ok (.iload_n 3, 1) := by decide +kernel
theorem dX10_moves_3 : decode cX10_moves 3 = .ok (.bipush 61, 2) := by decide +kernel
theorem dX10_moves_5 : decode cX10_moves 5 = .ok (.if_icmp .ge 25, 3) := by decide +kernel
theorem dX10_moves_8 : decode cX10_moves 8 = .ok (.aload_n 0, 1) := by decide +kernel
theorem dX10_moves_9 : decode cX10_moves 9 = .ok (.getfield 13, 3) := by decide +kernel
theorem dX10_moves_12 : decode cX10_moves 12 = .ok (.iload_n 2, 1) := by decide +kernel
theorem dX10_moves_13 : decode cX10_moves 13 = .ok (.iload_n 3, 1) := by decide +kernel
theorem dX10_moves_14 : decode cX10_moves 14 = .ok (.iadd, 1) := by decide +kernel
theorem dX10_moves_15 : decode cX10_moves 15 = .ok (.aload_n 0, 1) := by decide +kernel
theorem dX10_moves_16 : decode cX10_moves 16 = .ok (.getfield 13, 3) := by decide +kernel
theorem dX10_moves_19 : decode cX10_moves 19 = .ok (.iload_n 1, 1) := by decide +kernel
theorem dX10_moves_20 : decode cX10_moves 20 = .ok (.iload_n 3, 1) := by decide +kernel
theorem dX10_moves_21 : decode cX10_moves 21 = .ok (.iadd, 1) := by decide +kernel
theorem dX10_moves_22 : decode cX10_moves 22 = .ok (.iaload, 1) := by decide +kernel
theorem dX10_moves_23 : decode cX10_moves 23 = .ok (.iastore, 1) := by decide +kernel
theorem dX10_moves_24 : decode cX10_moves 24 = .ok (.iinc 3 1, 3) := by decide +kernel
theorem dX10_moves_27 : decode cX10_moves 27 = .ok (.goto (-25), 3) := by decide +kernel
theorem dX10_moves_30 : decode cX10_moves 30 = .ok (.return_, 1) := by decide +kernel
theorem dX10_addLine_0 : decode cX10_addLine 0 = .ok (.aload_n 0, 1) := by decide +kernel
theorem dX10_addLine_1 : decode cX10_addLine 1 = .ok (.iconst 0, 1) := by decide +kernel
theorem dX10_addLine_2 : decode cX10_addLine 2 = .ok (.putfield 3, 3) := by decide +kernel
theorem dX10_addLine_5 : decode cX10_addLine 5 = .ok (.iload_n 1, 1) := by decide +kernel
theorem dX10_addLine_6 : decode cX10_addLine 6 = .ok (.invokestatic 218, 3) := by decide +kernel
theorem dX10_addLine_9 : decode cX10_addLine 9 = .ok (.ifCond .eq 19, 3) := by decide +kernel
theorem dX10_addLine_12 : decode cX10_addLine 12 = .ok (.iload_n 2, 1) := by decide +kernel
theorem dX10_addLine_13 : decode cX10_addLine 13 = .ok (.iconst 0, 1) := by decide +kernel
theorem dX10_addLine_14 : decode cX10_addLine 14 = .ok (.aload_n 0, 1) := by decide +kernel
theorem dX10_addLine_15 : decode cX10_addLine 15 = .ok (.getfield 13, 3) := by decide +kernel
theorem dX10_addLine_18 : decode cX10_addLine 18 = .ok (.iconst 5, 1) := by decide +kernel
theorem dX10_addLine_19 : decode cX10_addLine 19 = .ok (.iload_n 1, 1) := by decide +kernel
theorem dX10_addLine_20 : decode cX10_addLine 20 = .ok (.iadd, 1) := by decide +kernel
theorem dX10_addLine_21 : decode cX10_addLine 21 = .ok (.iaload, 1) := by decide +kernel
theorem dX10_addLine_22 : decode cX10_addLine 22 = .ok (.invokestatic 158, 3) := by decide +kernel
theorem dX10_addLine_25 : decode cX10_addLine 25 = .ok (.ifCond .ne 9, 3) := by decide +kernel
theorem dX10_addLine_28 : decode cX10_addLine 28 = .ok (.aload_n 0, 1) := by decide +kernel
theorem dX10_addLine_29 : decode cX10_addLine 29 = .ok (.iconst 1, 1) := by decide +kernel
theorem dX10_addLine_30 : decode cX10_addLine 30 = .ok (.invokevirtual 162, 3) := by decide +kernel
theorem dX10_addLine_33 : decode cX10_addLine 33 = .ok (.ireturn, 1) := by decide +kernel
theorem dX10_addLine_34 : decode cX10_addLine 34 = .ok (.aload_n 0, 1) := by decide +kernel
theorem dX10_addLine_35 : decode cX10_addLine 35 = .ok (.invokevirtual 224, 3) := by decide +kernel
theorem dX10_addLine_38 : decode cX10_addLine 38 = .ok (.ifCond .eq 9, 3) := by decide +kernel
theorem dX10_addLine_41 : decode cX10_addLine 41 = .ok (.aload_n 0, 1) := by decide +kernel
theorem dX10_addLine_42 : decode cX10_addLine 42 = .ok (.iconst 2, 1) := by decide +kernel
theorem dX10_addLine_43 : decode cX10_addLine 43 = .ok (.invokevirtual 162, 3) := by decide +kernel
theorem dX10_addLine_46 : decode cX10_addLine 46 = .ok (.ireturn, 1) := by decide +kernel
theorem dX10_addLine_47 : decode cX10_addLine 47 = .ok (.aload_n 0, 1) := by decide +kernel
theorem dX10_addLine_48 : decode cX10_addLine 48 = .ok (.getfield 13, 3) := by decide +kernel
theorem dX10_addLine_51 : decode cX10_addLine 51 = .ok (.iconst 5, 1) := by decide +kernel
theorem dX10_addLine_52 : decode cX10_addLine 52 = .ok (.iload_n 1, 1) := by decide +kernel
theorem dX10_addLine_53 : decode cX10_addLine 53 = .ok (.iadd, 1) := by decide +kernel
theorem dX10_addLine_54 : decode cX10_addLine 54 = .ok (.iaload, 1) := by decide +kernel
theorem dX10_addLine_55 : decode cX10_addLine 55 = .ok (.bipush 10, 2) := by decide +kernel
theorem dX10_addLine_57 : decode cX10_addLine 57 = .ok (.if_icmp .ne 9, 3) := by decide +kernel
theorem dX10_addLine_60 : decode cX10_addLine 60 = .ok (.aload_n 0, 1) := by decide +kernel
theorem dX10_addLine_61 : decode cX10_addLine 61 = .ok (.iconst 3, 1) := by decide +kernel
theorem dX10_addLine_62 : decode cX10_addLine 62 = .ok (.invokevirtual 162, 3) := by decide +kernel
theorem dX10_addLine_65 : decode cX10_addLine 65 = .ok (.ireturn, 1) := by decide +kernel
theorem dX10_addLine_66 : decode cX10_addLine 66 = .ok (.aload_n 0, 1) := by decide +kernel
theorem dX10_addLine_67 : decode cX10_addLine 67 = .ok (.invokevirtual 184, 3) := by decide +kernel
theorem dX10_addLine_70 : decode cX10_addLine 70 = .ok (.aload_n 0, 1) := by decide +kernel
theorem dX10_addLine_71 : decode cX10_addLine 71 = .ok (.getfield 13, 3) := by decide +kernel
theorem dX10_addLine_74 : decode cX10_addLine 74 = .ok (.iconst 5, 1) := by decide +kernel
theorem dX10_addLine_75 : decode cX10_addLine 75 = .ok (.iload_n 1, 1) := by decide +kernel
theorem dX10_addLine_76 : decode cX10_addLine 76 = .ok (.iadd, 1) := by decide +kernel
theorem dX10_addLine_77 : decode cX10_addLine 77 = .ok (.iaload, 1) := by decide +kernel
theorem dX10_addLine_78 : decode cX10_addLine 78 = .ok (.istore_n 3, 1) := by decide +kernel
theorem dX10_addLine_79 : decode cX10_addLine 79 = .ok (.iload_n 3, 1) := by decide +kernel
theorem dX10_addLine_80 : decode cX10_addLine 80 = .ok (.iload_n 2, 1) := by decide +kernel
theorem dX10_addLine_81 : decode cX10_addLine 81 = .ok (.if_icmp .le 25, 3) := by decide +kernel
theorem dX10_addLine_84 : decode cX10_addLine 84 = .ok (.aload_n 0, 1) := by decide +kernel
theorem dX10_addLine_85 : decode cX10_addLine 85 = .ok (.iload_n 1, 1) := by decide +kernel
theorem dX10_addLine_86 : decode cX10_addLine 86 = .ok (.iload_n 3, 1) := by decide +kernel
theorem dX10_addLine_87 : decode cX10_addLine 87 = .ok (.iconst 1, 1) := by decide +kernel
theorem dX10_addLine_88 : decode cX10_addLine 88 = .ok (.isub, 1) := by decide +kernel
theorem dX10_addLine_89 : decode cX10_addLine 89 = .ok (.invokestatic 221, 3) := by decide +kernel
theorem dX10_addLine_92 : decode cX10_addLine 92 = .ok (.iload_n 1, 1) := by decide +kernel
theorem dX10_addLine_93 : decode cX10_addLine 93 = .ok (.iload_n 3, 1) := by decide +kernel
theorem dX10_addLine_94 : decode cX10_addLine 94 = .ok (.invokestatic 221, 3) := by decide +kernel
theorem dX10_addLine_97 : decode cX10_addLine 97 = .ok (.invokevirtual 227, 3) := by decide +kernel
theorem dX10_addLine_100 : decode cX10_addLine 100 = .ok (.iinc 3 (-1), 3) := by decide +kernel
theorem dX10_addLine_103 : decode cX10_addLine 103 = .ok (.goto (-24), 3) := by decide +kernel
theorem dX10_addLine_106 : decode cX10_addLine 106 = .ok (.aload_n 0, 1) := by decide +kernel
theorem dX10_addLine_107 : decode cX10_addLine 107 = .ok (.getfield 13, 3) := by decide +kernel
theorem dX10_addLine_110 : decode cX10_addLine 110 = .ok (.iconst 5, 1) := by decide +kernel
theorem dX10_addLine_111 : decode cX10_addLine 111 = .ok (.iload_n 1, 1) := by decide +kernel
theorem dX10_addLine_112 : decode cX10_addLine 112 = .ok (.iadd, 1) := by decide +kernel
theorem dX10_addLine_113 : decode cX10_addLine 113 = .ok (.dup2, 1) := by decide +kernel
theorem dX10_addLine_114 : decode cX10_addLine 114 = .ok (.iaload, 1) := by decide +kernel
theorem dX10_addLine_115 : decode cX10_addLine 115 = .ok (.iconst 1, 1) := by decide +kernel
theorem dX10_addLine_116 : decode cX10_addLine 116 = .ok (.iadd, 1) := by decide +kernel
theorem dX10_addLine_117 : decode cX10_addLine 117 = .ok (.iastore, 1) := by decide +kernel
theorem dX10_addLine_118 : decode cX10_addLine 118 = .ok (.aload_n 0, 1) := by decide +kernel
theorem dX10_addLine_119 : decode cX10_addLine 119 = .ok (.iload_n 1, 1) := by decide +kernel
theorem dX10_addLine_120 : decode cX10_addLine 120 = .ok (.iload_n 2, 1) := by decide +kernel
theorem dX10_addLine_121 : decode cX10_addLine 121 = .ok (.invokevirtual 231, 3) := by decide +kernel
theorem dX10_addLine_124 : decode cX10_addLine 124 = .ok (.aload_n 0, 1) := by decide +kernel
theorem dX10_addLine_125 : decode cX10_addLine 125 = .ok (.getfield 51, 3) := by decide +kernel
theorem dX10_addLine_128 : decode cX10_addLine 128 = .ok (.ireturn, 1) := by decide +kernel
theorem dX10_replaceLine_0 : decode cX10_replaceLine 0 = .ok (.aload_n 0, 1) := by decide +kernel
theorem dX10_replaceLine_1 : decode cX10_replaceLine 1 = .ok (.iconst 0, 1) := by decide +kernel
theorem dX10_replaceLine_2 : decode cX10_replaceLine 2 = .ok (.putfield 3, 3) := by decide +kernel
theorem dX10_replaceLine_5 : decode cX10_replaceLine 5 = .ok (.aload_n 0, 1) := by decide +kernel
theorem dX10_replaceLine_6 : decode cX10_replaceLine 6 = .ok (.iload_n 1, 1) := by decide +kernel
theorem dX10_replaceLine_7 : decode cX10_replaceLine 7 = .ok (.iload_n 2, 1) := by decide +kernel
theorem dX10_replaceLine_8 : decode cX10_replaceLine 8 = .ok (.invokevirtual 234, 3) := by decide +kernel
theorem dX10_replaceLine_11 : decode cX10_replaceLine 11 = .ok (.ifCond .ne 9, 3) := by decide +kernel
theorem dX10_replaceLine_14 : decode cX10_replaceLine 14 = .ok (.aload_n 0, 1) := by decide +kernel
theorem dX10_replaceLine_15 : decode cX10_replaceLine 15 = .ok (.iconst 1, 1) := by decide +kernel
theorem dX10_replaceLine_16 : decode cX10_replaceLine 16 = .ok (.invokevirtual 162, 3) := by decide +kernel
theorem dX10_replaceLine_19 : decode cX10_replaceLine 19 = .ok (.ireturn, 1) := by decide +kernel
theorem dX10_replaceLine_20 : decode cX10_replaceLine 20 = .ok (.aload_n 0, 1) := by decide +kernel
theorem dX10_replaceLine_21 : decode cX10_replaceLine 21 = .ok (.invokevirtual 224, 3) := by decide +kernel
theorem dX10_replaceLine_24 : decode cX10_replaceLine 24 = .ok (.ifCond .eq 9, 3) := by decide +kernel
theorem dX10_replaceLine_27 : decode cX10_replaceLine 27 = .ok (.aload_n 0, 1) := by decide +kernel
theorem dX10_replaceLine_28 : decode cX10_replaceLine 28 = .ok (.iconst 2, 1) := by decide +kernel
theorem dX10_replaceLine_29 : decode cX10_replaceLine 29 = .ok (.invokevirtual 162, 3) := by decide +kernel
theorem dX10_replaceLine_32 : decode cX10_replaceLine 32 = .ok (.ireturn, 1) := by decide +kernel
theorem dX10_replaceLine_33 : decode cX10_replaceLine 33 = .ok (.aload_n 0, 1) := by decide +kernel
theorem dX10_replaceLine_34 : decode cX10_replaceLine 34 = .ok (.invokevirtual 184, 3) := by decide +kernel
theorem dX10_replaceLine_37 : decode cX10_replaceLine 37 = .ok (.aload_n 0, 1) := by decide +kernel
theorem dX10_replaceLine_38 : decode cX10_replaceLine 38 = .ok (.iload_n 1, 1) := by decide +kernel
theorem dX10_replaceLine_39 : decode cX10_replaceLine 39 = .ok (.iload_n 2, 1) := by decide +kernel
theorem dX10_replaceLine_40 : decode cX10_replaceLine 40 = .ok (.invokevirtual 231, 3) := by decide +kernel
theorem dX10_replaceLine_43 : decode cX10_replaceLine 43 = .ok (.aload_n 0, 1) := by decide +kernel
theorem dX10_replaceLine_44 : decode cX10_replaceLine 44 = .ok (.getfield 51, 3) := by decide +kernel
theorem dX10_replaceLine_47 : decode cX10_replaceLine 47 = .ok (.ireturn, 1) := by decide +kernel
theorem dX10_removeLine_0 : decode cX10_removeLine 0 = .ok (.aload_n 0, 1) := by decide +kernel
theorem dX10_removeLine_1 : decode cX10_removeLine 1 = .ok (.iconst 0, 1) := by decide +kernel
theorem dX10_removeLine_2 : decode cX10_removeLine 2 = .ok (.putfield 3, 3) := by decide +kernel
theorem dX10_removeLine_5 : decode cX10_removeLine 5 = .ok (.aload_n 0, 1) := by decide +kernel
theorem dX10_removeLine_6 : decode cX10_removeLine 6 = .ok (.iload_n 1, 1) := by decide +kernel
theorem dX10_removeLine_7 : decode cX10_removeLine 7 = .ok (.iload_n 2, 1) := by decide +kernel
theorem dX10_removeLine_8 : decode cX10_removeLine 8 = .ok (.invokevirtual 234, 3) := by decide +kernel
theorem dX10_removeLine_11 : decode cX10_removeLine 11 = .ok (.ifCond .ne 9, 3) := by decide +kernel
theorem dX10_removeLine_14 : decode cX10_removeLine 14 = .ok (.aload_n 0, 1) := by decide +kernel
theorem dX10_removeLine_15 : decode cX10_removeLine 15 = .ok (.iconst 1, 1) := by decide +kernel
theorem dX10_removeLine_16 : decode cX10_removeLine 16 = .ok (.invokevirtual 162, 3) := by decide +kernel
theorem dX10_removeLine_19 : decode cX10_removeLine 19 = .ok (.ireturn, 1) := by decide +kernel
theorem dX10_removeLine_20 : decode cX10_removeLine 20 = .ok (.aload_n 0, 1) := by decide +kernel
theorem dX10_removeLine_21 : decode cX10_removeLine 21 = .ok (.invokevirtual 184, 3) := by decide +kernel
theorem dX10_removeLine_24 : decode cX10_removeLine 24 = .ok (.iload_n 2, 1) := by decide +kernel
theorem dX10_removeLine_25 : decode cX10_removeLine 25 = .ok (.istore_n 3, 1) := by decide +kernel
theorem dX10_removeLine_26 : decode cX10_removeLine 26 = .ok (.iload_n 3, 1) := by decide +kernel
theorem dX10_removeLine_27 : decode cX10_removeLine 27 = .ok (.iconst 1, 1) := by decide +kernel
theorem dX10_removeLine_28 : decode cX10_removeLine 28 = .ok (.iadd, 1) := by decide +kernel
theorem dX10_removeLine_29 : decode cX10_removeLine 29 = .ok (.aload_n 0, 1) := by decide +kernel
theorem dX10_removeLine_30 : decode cX10_removeLine 30 = .ok (.getfield 13, 3) := by decide +kernel
theorem dX10_removeLine_33 : decode cX10_removeLine 33 = .ok (.iconst 5, 1) := by decide +kernel
theorem dX10_removeLine_34 : decode cX10_removeLine 34 = .ok (.iload_n 1, 1) := by decide +kernel
theorem dX10_removeLine_35 : decode cX10_removeLine 35 = .ok (.iadd, 1) := by decide +kernel
theorem dX10_removeLine_36 : decode cX10_removeLine 36 = .ok (.iaload, 1) := by decide +kernel
theorem dX10_removeLine_37 : decode cX10_removeLine 37 = .ok (.if_icmp .ge 25, 3) := by decide +kernel
theorem dX10_removeLine_40 : decode cX10_removeLine 40 = .ok (.aload_n 0, 1) := by decide +kernel
theorem dX10_removeLine_41 : decode cX10_removeLine 41 = .ok (.iload_n 1, 1) := by decide +kernel
theorem dX10_removeLine_42 : decode cX10_removeLine 42 = .ok (.iload_n 3, 1) := by decide +kernel
theorem dX10_removeLine_43 : decode cX10_removeLine 43 = .ok (.iconst 1, 1) := by decide +kernel
theorem dX10_removeLine_44 : decode cX10_removeLine 44 = .ok (.iadd, 1) := by decide +kernel
theorem dX10_removeLine_45 : decode cX10_removeLine 45 = .ok (.invokestatic 221, 3) := by decide +kernel
theorem dX10_removeLine_48 : decode cX10_removeLine 48 = .ok (.iload_n 1, 1) := by decide +kernel
theorem dX10_removeLine_49 : decode cX10_removeLine 49 = .ok (.iload_n 3, 1) := by decide +kernel
theorem dX10_removeLine_50 : decode cX10_removeLine 50 = .ok (.invokestatic 221, 3) := by decide +kernel
theorem dX10_removeLine_53 : decode cX10_removeLine 53 = .ok (.invokevirtual 227, 3) := by decide +kernel
theorem dX10_removeLine_56 : decode cX10_removeLine 56 = .ok (.iinc 3 1, 3) := by decide +kernel
theorem dX10_removeLine_59 : decode cX10_removeLine 59 = .ok (.goto (-33), 3) := by decide +kernel
theorem dX10_removeLine_62 : decode cX10_removeLine 62 = .ok (.aload_n 0, 1) := by decide +kernel
theorem dX10_removeLine_63 : decode cX10_removeLine 63 = .ok (.getfield 13, 3) := by decide +kernel
theorem dX10_removeLine_66 : decode cX10_removeLine 66 = .ok (.iconst 5, 1) := by decide +kernel
theorem dX10_removeLine_67 : decode cX10_removeLine 67 = .ok (.iload_n 1, 1) := by decide +kernel
theorem dX10_removeLine_68 : decode cX10_removeLine 68 = .ok (.iadd, 1) := by decide +kernel
theorem dX10_removeLine_69 : decode cX10_removeLine 69 = .ok (.dup2, 1) := by decide +kernel
theorem dX10_removeLine_70 : decode cX10_removeLine 70 = .ok (.iaload, 1) := by decide +kernel
theorem dX10_removeLine_71 : decode cX10_removeLine 71 = .ok (.iconst 1, 1) := by decide +kernel
theorem dX10_removeLine_72 : decode cX10_removeLine 72 = .ok (.isub, 1) := by decide +kernel
theorem dX10_removeLine_73 : decode cX10_removeLine 73 = .ok (.iastore, 1) := by decide +kernel
theorem dX10_removeLine_74 : decode cX10_removeLine 74 = .ok (.aload_n 0, 1) := by decide +kernel
theorem dX10_removeLine_75 : decode cX10_removeLine 75 = .ok (.getfield 13, 3) := by decide +kernel
theorem dX10_removeLine_78 : decode cX10_removeLine 78 = .ok (.iconst 5, 1) := by decide +kernel
theorem dX10_removeLine_79 : decode cX10_removeLine 79 = .ok (.iload_n 1, 1) := by decide +kernel
theorem dX10_removeLine_80 : decode cX10_removeLine 80 = .ok (.iadd, 1) := by decide +kernel
theorem dX10_removeLine_81 : decode cX10_removeLine 81 = .ok (.iaload, 1) := by decide +kernel
theorem dX10_removeLine_82 : decode cX10_removeLine 82 = .ok (.ireturn, 1) := by decide +kernel
theorem dX10_moveLine_0 : decode cX10_moveLine 0 = .ok (.aload_n 0, 1) := by decide +kernel
theorem dX10_moveLine_1 : decode cX10_moveLine 1 = .ok (.iconst 0, 1) := by decide +kernel
theorem dX10_moveLine_2 : decode cX10_moveLine 2 = .ok (.putfield 3, 3) := by decide +kernel
theorem dX10_moveLine_5 : decode cX10_moveLine 5 = .ok (.aload_n 0, 1) := by decide +kernel
theorem dX10_moveLine_6 : decode cX10_moveLine 6 = .ok (.iload_n 1, 1) := by decide +kernel
theorem dX10_moveLine_7 : decode cX10_moveLine 7 = .ok (.iload_n 2, 1) := by decide +kernel
theorem dX10_moveLine_8 : decode cX10_moveLine 8 = .ok (.invokevirtual 234, 3) := by decide +kernel
theorem dX10_moveLine_11 : decode cX10_moveLine 11 = .ok (.ifCond .eq 12, 3) := by decide +kernel
theorem dX10_moveLine_14 : decode cX10_moveLine 14 = .ok (.aload_n 0, 1) := by decide +kernel
theorem dX10_moveLine_15 : decode cX10_moveLine 15 = .ok (.iload_n 1, 1) := by decide +kernel
theorem dX10_moveLine_16 : decode cX10_moveLine 16 = .ok (.iload_n 3, 1) := by decide +kernel
theorem dX10_moveLine_17 : decode cX10_moveLine 17 = .ok (.invokevirtual 234, 3) := by decide +kernel
theorem dX10_moveLine_20 : decode cX10_moveLine 20 = .ok (.ifCond .ne 9, 3) := by decide +kernel
theorem dX10_moveLine_23 : decode cX10_moveLine 23 = .ok (.aload_n 0, 1) := by decide +kernel
theorem dX10_moveLine_24 : decode cX10_moveLine 24 = .ok (.iconst 1, 1) := by decide +kernel
theorem dX10_moveLine_25 : decode cX10_moveLine 25 = .ok (.invokevirtual 162, 3) := by decide +kernel
theorem dX10_moveLine_28 : decode cX10_moveLine 28 = .ok (.ireturn, 1) := by decide +kernel
theorem dX10_moveLine_29 : decode cX10_moveLine 29 = .ok (.aload_n 0, 1) := by decide +kernel
theorem dX10_moveLine_30 : decode cX10_moveLine 30 = .ok (.invokevirtual 184, 3) := by decide +kernel
theorem dX10_moveLine_33 : decode cX10_moveLine 33 = .ok (.iconst 0, 1) := by decide +kernel
theorem dX10_moveLine_34 : decode cX10_moveLine 34 = .ok (.istore 4, 2) := by decide +kernel
theorem dX10_moveLine_36 : decode cX10_moveLine 36 = .ok (.iload 4, 2) := by decide +kernel
theorem dX10_moveLine_38 : decode cX10_moveLine 38 = .ok (.bipush 61, 2) := by decide +kernel
theorem dX10_moveLine_40 : decode cX10_moveLine 40 = .ok (.if_icmp .ge 29, 3) := by decide +kernel
theorem dX10_moveLine_43 : decode cX10_moveLine 43 = .ok (.aload_n 0, 1) := by decide +kernel
theorem dX10_moveLine_44 : decode cX10_moveLine 44 = .ok (.getfield 57, 3) := by decide +kernel
theorem dX10_moveLine_47 : decode cX10_moveLine 47 = .ok (.iload 4, 2) := by decide +kernel
theorem dX10_moveLine_49 : decode cX10_moveLine 49 = .ok (.aload_n 0, 1) := by decide +kernel
theorem dX10_moveLine_50 : decode cX10_moveLine 50 = .ok (.getfield 13, 3) := by decide +kernel
theorem dX10_moveLine_53 : decode cX10_moveLine 53 = .ok (.iload_n 1, 1) := by decide +kernel
theorem dX10_moveLine_54 : decode cX10_moveLine 54 = .ok (.iload_n 2, 1) := by decide +kernel
theorem dX10_moveLine_55 : decode cX10_moveLine 55 = .ok (.invokestatic 221, 3) := by decide +kernel
theorem dX10_moveLine_58 : decode cX10_moveLine 58 = .ok (.iload 4, 2) := by decide +kernel
theorem dX10_moveLine_60 : decode cX10_moveLine 60 = .ok (.iadd, 1) := by decide +kernel
theorem dX10_moveLine_61 : decode cX10_moveLine 61 = .ok (.iaload, 1) := by decide +kernel
theorem dX10_moveLine_62 : decode cX10_moveLine 62 = .ok (.iastore, 1) := by decide +kernel
theorem dX10_moveLine_63 : decode cX10_moveLine 63 = .ok (.iinc 4 1, 3) := by decide +kernel
theorem dX10_moveLine_66 : decode cX10_moveLine 66 = .ok (.goto (-30), 3) := by decide +kernel
theorem dX10_moveLine_69 : decode cX10_moveLine 69 = .ok (.iload_n 2, 1) := by decide +kernel
theorem dX10_moveLine_70 : decode cX10_moveLine 70 = .ok (.istore 4, 2) := by decide +kernel
theorem dX10_moveLine_72 : decode cX10_moveLine 72 = .ok (.iload 4, 2) := by decide +kernel
theorem dX10_moveLine_74 : decode cX10_moveLine 74 = .ok (.iload_n 3, 1) := by decide +kernel
theorem dX10_moveLine_75 : decode cX10_moveLine 75 = .ok (.if_icmp .ge 27, 3) := by decide +kernel
theorem dX10_moveLine_78 : decode cX10_moveLine 78 = .ok (.aload_n 0, 1) := by decide +kernel
theorem dX10_moveLine_79 : decode cX10_moveLine 79 = .ok (.iload_n 1, 1) := by decide +kernel
theorem dX10_moveLine_80 : decode cX10_moveLine 80 = .ok (.iload 4, 2) := by decide +kernel
theorem dX10_moveLine_82 : decode cX10_moveLine 82 = .ok (.iconst 1, 1) := by decide +kernel
theorem dX10_moveLine_83 : decode cX10_moveLine 83 = .ok (.iadd, 1) := by decide +kernel
theorem dX10_moveLine_84 : decode cX10_moveLine 84 = .ok (.invokestatic 221, 3) := by decide +kernel
theorem dX10_moveLine_87 : decode cX10_moveLine 87 = .ok (.iload_n 1, 1) := by decide +kernel
theorem dX10_moveLine_88 : decode cX10_moveLine 88 = .ok (.iload 4, 2) := by decide +kernel
theorem dX10_moveLine_90 : decode cX10_moveLine 90 = .ok (.invokestatic 221, 3) := by decide +kernel
theorem dX10_moveLine_93 : decode cX10_moveLine 93 = .ok (.invokevirtual 227, 3) := by decide +kernel
theorem dX10_moveLine_96 : decode cX10_moveLine 96 = .ok (.iinc 4 1, 3) := by decide +kernel
theorem dX10_moveLine_99 : decode cX10_moveLine 99 = .ok (.goto (-27), 3) := by decide +kernel
theorem dX10_moveLine_102 : decode cX10_moveLine 102 = .ok (.iload_n 2, 1) := by decide +kernel
theorem dX10_moveLine_103 : decode cX10_moveLine 103 = .ok (.istore 4, 2) := by decide +kernel
theorem dX10_moveLine_105 : decode cX10_moveLine 105 = .ok (.iload 4, 2) := by decide +kernel
theorem dX10_moveLine_107 : decode cX10_moveLine 107 = .ok (.iload_n 3, 1) := by decide +kernel
theorem dX10_moveLine_108 : decode cX10_moveLine 108 = .ok (.if_icmp .le 27, 3) := by decide +kernel
theorem dX10_moveLine_111 : decode cX10_moveLine 111 = .ok (.aload_n 0, 1) := by decide +kernel
theorem dX10_moveLine_112 : decode cX10_moveLine 112 = .ok (.iload_n 1, 1) := by decide +kernel
theorem dX10_moveLine_113 : decode cX10_moveLine 113 = .ok (.iload 4, 2) := by decide +kernel
theorem dX10_moveLine_115 : decode cX10_moveLine 115 = .ok (.iconst 1, 1) := by decide +kernel
theorem dX10_moveLine_116 : decode cX10_moveLine 116 = .ok (.isub, 1) := by decide +kernel
theorem dX10_moveLine_117 : decode cX10_moveLine 117 = .ok (.invokestatic 221, 3) := by decide +kernel
theorem dX10_moveLine_120 : decode cX10_moveLine 120 = .ok (.iload_n 1, 1) := by decide +kernel
theorem dX10_moveLine_121 : decode cX10_moveLine 121 = .ok (.iload 4, 2) := by decide +kernel
theorem dX10_moveLine_123 : decode cX10_moveLine 123 = .ok (.invokestatic 221, 3) := by decide +kernel
theorem dX10_moveLine_126 : decode cX10_moveLine 126 = .ok (.invokevirtual 227, 3) := by decide +kernel
theorem dX10_moveLine_129 : decode cX10_moveLine 129 = .ok (.iinc 4 (-1), 3) := by decide +kernel
theorem dX10_moveLine_132 : decode cX10_moveLine 132 = .ok (.goto (-27), 3) := by decide +kernel
theorem dX10_moveLine_135 : decode cX10_moveLine 135 = .ok (.iconst 0, 1) := by decide +kernel
theorem dX10_moveLine_136 : decode cX10_moveLine 136 = .ok (.istore 4, 2) := by decide +kernel
theorem dX10_moveLine_138 : decode cX10_moveLine 138 = .ok (.iload 4, 2) := by decide +kernel
theorem dX10_moveLine_140 : decode cX10_moveLine 140 = .ok (.bipush 61, 2) := by decide +kernel
theorem dX10_moveLine_142 : decode cX10_moveLine 142 = .ok (.if_icmp .ge 29, 3) := by decide +kernel
theorem dX10_moveLine_145 : decode cX10_moveLine 145 = .ok (.aload_n 0, 1) := by decide +kernel
theorem dX10_moveLine_146 : decode cX10_moveLine 146 = .ok (.getfield 13, 3) := by decide +kernel
theorem dX10_moveLine_149 : decode cX10_moveLine 149 = .ok (.iload_n 1, 1) := by decide +kernel
theorem dX10_moveLine_150 : decode cX10_moveLine 150 = .ok (.iload_n 3, 1) := by decide +kernel
theorem dX10_moveLine_151 : decode cX10_moveLine 151 = .ok (.invokestatic 221, 3) := by decide +kernel
theorem dX10_moveLine_154 : decode cX10_moveLine 154 = .ok (.iload 4, 2) := by decide +kernel
theorem dX10_moveLine_156 : decode cX10_moveLine 156 = .ok (.iadd, 1) := by decide +kernel
theorem dX10_moveLine_157 : decode cX10_moveLine 157 = .ok (.aload_n 0, 1) := by decide +kernel
theorem dX10_moveLine_158 : decode cX10_moveLine 158 = .ok (.getfield 57, 3) := by decide +kernel
theorem dX10_moveLine_161 : decode cX10_moveLine 161 = .ok (.iload 4, 2) := by decide +kernel
theorem dX10_moveLine_163 : decode cX10_moveLine 163 = .ok (.iaload, 1) := by decide +kernel
theorem dX10_moveLine_164 : decode cX10_moveLine 164 = .ok (.iastore, 1) := by decide +kernel
theorem dX10_moveLine_165 : decode cX10_moveLine 165 = .ok (.iinc 4 1, 3) := by decide +kernel
theorem dX10_moveLine_168 : decode cX10_moveLine 168 = .ok (.goto (-30), 3) := by decide +kernel
theorem dX10_moveLine_171 : decode cX10_moveLine 171 = .ok (.iload_n 2, 1) := by decide +kernel
theorem dX10_moveLine_172 : decode cX10_moveLine 172 = .ok (.iload_n 3, 1) := by decide +kernel
theorem dX10_moveLine_173 : decode cX10_moveLine 173 = .ok (.isub, 1) := by decide +kernel
theorem dX10_moveLine_174 : decode cX10_moveLine 174 = .ok (.invokestatic 238, 3) := by decide +kernel
theorem dX10_moveLine_177 : decode cX10_moveLine 177 = .ok (.ireturn, 1) := by decide +kernel
theorem dX10_copyDraft_0 : decode cX10_copyDraft 0 = .ok (.aload_n 0, 1) := by decide +kernel
theorem dX10_copyDraft_1 : decode cX10_copyDraft 1 = .ok (.iconst 0, 1) := by decide +kernel
theorem dX10_copyDraft_2 : decode cX10_copyDraft 2 = .ok (.putfield 3, 3) := by decide +kernel
theorem dX10_copyDraft_5 : decode cX10_copyDraft 5 = .ok (.iload_n 1, 1) := by decide +kernel
theorem dX10_copyDraft_6 : decode cX10_copyDraft 6 = .ok (.invokestatic 218, 3) := by decide +kernel
theorem dX10_copyDraft_9 : decode cX10_copyDraft 9 = .ok (.ifCond .eq 10, 3) := by decide +kernel
theorem dX10_copyDraft_12 : decode cX10_copyDraft 12 = .ok (.iload_n 2, 1) := by decide +kernel
theorem dX10_copyDraft_13 : decode cX10_copyDraft 13 = .ok (.invokestatic 218, 3) := by decide +kernel
theorem dX10_copyDraft_16 : decode cX10_copyDraft 16 = .ok (.ifCond .ne 9, 3) := by decide +kernel
theorem dX10_copyDraft_19 : decode cX10_copyDraft 19 = .ok (.aload_n 0, 1) := by decide +kernel
theorem dX10_copyDraft_20 : decode cX10_copyDraft 20 = .ok (.iconst 1, 1) := by decide +kernel
theorem dX10_copyDraft_21 : decode cX10_copyDraft 21 = .ok (.invokevirtual 162, 3) := by decide +kernel
theorem dX10_copyDraft_24 : decode cX10_copyDraft 24 = .ok (.ireturn, 1) := by decide +kernel
theorem dX10_copyDraft_25 : decode cX10_copyDraft 25 = .ok (.aload_n 0, 1) := by decide +kernel
theorem dX10_copyDraft_26 : decode cX10_copyDraft 26 = .ok (.invokevirtual 184, 3) := by decide +kernel
theorem dX10_copyDraft_29 : decode cX10_copyDraft 29 = .ok (.aload_n 0, 1) := by decide +kernel
theorem dX10_copyDraft_30 : decode cX10_copyDraft 30 = .ok (.getfield 13, 3) := by decide +kernel
theorem dX10_copyDraft_33 : decode cX10_copyDraft 33 = .ok (.iconst 5, 1) := by decide +kernel
theorem dX10_copyDraft_34 : decode cX10_copyDraft 34 = .ok (.iload_n 2, 1) := by decide +kernel
theorem dX10_copyDraft_35 : decode cX10_copyDraft 35 = .ok (.iadd, 1) := by decide +kernel
theorem dX10_copyDraft_36 : decode cX10_copyDraft 36 = .ok (.aload_n 0, 1) := by decide +kernel
theorem dX10_copyDraft_37 : decode cX10_copyDraft 37 = .ok (.getfield 13, 3) := by decide +kernel
theorem dX10_copyDraft_40 : decode cX10_copyDraft 40 = .ok (.iconst 5, 1) := by decide +kernel
theorem dX10_copyDraft_41 : decode cX10_copyDraft 41 = .ok (.iload_n 1, 1) := by decide +kernel
theorem dX10_copyDraft_42 : decode cX10_copyDraft 42 = .ok (.iadd, 1) := by decide +kernel
theorem dX10_copyDraft_43 : decode cX10_copyDraft 43 = .ok (.iaload, 1) := by decide +kernel
theorem dX10_copyDraft_44 : decode cX10_copyDraft 44 = .ok (.iastore, 1) := by decide +kernel
theorem dX10_copyDraft_45 : decode cX10_copyDraft 45 = .ok (.iconst 0, 1) := by decide +kernel
theorem dX10_copyDraft_46 : decode cX10_copyDraft 46 = .ok (.istore_n 3, 1) := by decide +kernel
theorem dX10_copyDraft_47 : decode cX10_copyDraft 47 = .ok (.iload_n 3, 1) := by decide +kernel
theorem dX10_copyDraft_48 : decode cX10_copyDraft 48 = .ok (.bipush 10, 2) := by decide +kernel
theorem dX10_copyDraft_50 : decode cX10_copyDraft 50 = .ok (.if_icmp .ge 23, 3) := by decide +kernel
theorem dX10_copyDraft_53 : decode cX10_copyDraft 53 = .ok (.aload_n 0, 1) := by decide +kernel
theorem dX10_copyDraft_54 : decode cX10_copyDraft 54 = .ok (.iload_n 1, 1) := by decide +kernel
theorem dX10_copyDraft_55 : decode cX10_copyDraft 55 = .ok (.iload_n 3, 1) := by decide +kernel
theorem dX10_copyDraft_56 : decode cX10_copyDraft 56 = .ok (.invokestatic 221, 3) := by decide +kernel
theorem dX10_copyDraft_59 : decode cX10_copyDraft 59 = .ok (.iload_n 2, 1) := by decide +kernel
theorem dX10_copyDraft_60 : decode cX10_copyDraft 60 = .ok (.iload_n 3, 1) := by decide +kernel
theorem dX10_copyDraft_61 : decode cX10_copyDraft 61 = .ok (.invokestatic 221, 3) := by decide +kernel
theorem dX10_copyDraft_64 : decode cX10_copyDraft 64 = .ok (.invokevirtual 227, 3) := by decide +kernel
theorem dX10_copyDraft_67 : decode cX10_copyDraft 67 = .ok (.iinc 3 1, 3) := by decide +kernel
theorem dX10_copyDraft_70 : decode cX10_copyDraft 70 = .ok (.goto (-23), 3) := by decide +kernel
theorem dX10_copyDraft_73 : decode cX10_copyDraft 73 = .ok (.aload_n 0, 1) := by decide +kernel
theorem dX10_copyDraft_74 : decode cX10_copyDraft 74 = .ok (.getfield 13, 3) := by decide +kernel
theorem dX10_copyDraft_77 : decode cX10_copyDraft 77 = .ok (.iconst 5, 1) := by decide +kernel
theorem dX10_copyDraft_78 : decode cX10_copyDraft 78 = .ok (.iload_n 1, 1) := by decide +kernel
theorem dX10_copyDraft_79 : decode cX10_copyDraft 79 = .ok (.iadd, 1) := by decide +kernel
theorem dX10_copyDraft_80 : decode cX10_copyDraft 80 = .ok (.iaload, 1) := by decide +kernel
theorem dX10_copyDraft_81 : decode cX10_copyDraft 81 = .ok (.ireturn, 1) := by decide +kernel
theorem dX10_clearDraft_0 : decode cX10_clearDraft 0 = .ok (.aload_n 0, 1) := by decide +kernel
theorem dX10_clearDraft_1 : decode cX10_clearDraft 1 = .ok (.iconst 0, 1) := by decide +kernel
theorem dX10_clearDraft_2 : decode cX10_clearDraft 2 = .ok (.putfield 3, 3) := by decide +kernel
theorem dX10_clearDraft_5 : decode cX10_clearDraft 5 = .ok (.iload_n 1, 1) := by decide +kernel
theorem dX10_clearDraft_6 : decode cX10_clearDraft 6 = .ok (.invokestatic 218, 3) := by decide +kernel
theorem dX10_clearDraft_9 : decode cX10_clearDraft 9 = .ok (.ifCond .ne 9, 3) := by decide +kernel
theorem dX10_clearDraft_12 : decode cX10_clearDraft 12 = .ok (.aload_n 0, 1) := by decide +kernel
theorem dX10_clearDraft_13 : decode cX10_clearDraft 13 = .ok (.iconst 1, 1) := by decide +kernel
theorem dX10_clearDraft_14 : decode cX10_clearDraft 14 = .ok (.invokevirtual 162, 3) := by decide +kernel
theorem dX10_clearDraft_17 : decode cX10_clearDraft 17 = .ok (.ireturn, 1) := by decide +kernel
theorem dX10_clearDraft_18 : decode cX10_clearDraft 18 = .ok (.aload_n 0, 1) := by decide +kernel
theorem dX10_clearDraft_19 : decode cX10_clearDraft 19 = .ok (.invokevirtual 184, 3) := by decide +kernel
theorem dX10_clearDraft_22 : decode cX10_clearDraft 22 = .ok (.aload_n 0, 1) := by decide +kernel
theorem dX10_clearDraft_23 : decode cX10_clearDraft 23 = .ok (.getfield 13, 3) := by decide +kernel
theorem dX10_clearDraft_26 : decode cX10_clearDraft 26 = .ok (.iconst 5, 1) := by decide +kernel
theorem dX10_clearDraft_27 : decode cX10_clearDraft 27 = .ok (.iload_n 1, 1) := by decide +kernel
theorem dX10_clearDraft_28 : decode cX10_clearDraft 28 = .ok (.iadd, 1) := by decide +kernel
theorem dX10_clearDraft_29 : decode cX10_clearDraft 29 = .ok (.iaload, 1) := by decide +kernel
theorem dX10_clearDraft_30 : decode cX10_clearDraft 30 = .ok (.istore_n 2, 1) := by decide +kernel
theorem dX10_clearDraft_31 : decode cX10_clearDraft 31 = .ok (.aload_n 0, 1) := by decide +kernel
theorem dX10_clearDraft_32 : decode cX10_clearDraft 32 = .ok (.getfield 13, 3) := by decide +kernel
theorem dX10_clearDraft_35 : decode cX10_clearDraft 35 = .ok (.iconst 5, 1) := by decide +kernel
theorem dX10_clearDraft_36 : decode cX10_clearDraft 36 = .ok (.iload_n 1, 1) := by decide +kernel
theorem dX10_clearDraft_37 : decode cX10_clearDraft 37 = .ok (.iadd, 1) := by decide +kernel
theorem dX10_clearDraft_38 : decode cX10_clearDraft 38 = .ok (.iconst 0, 1) := by decide +kernel
theorem dX10_clearDraft_39 : decode cX10_clearDraft 39 = .ok (.iastore, 1) := by decide +kernel
theorem dX10_clearDraft_40 : decode cX10_clearDraft 40 = .ok (.iload_n 2, 1) := by decide +kernel
theorem dX10_clearDraft_41 : decode cX10_clearDraft 41 = .ok (.ireturn, 1) := by decide +kernel
theorem dX10_character_0 : decode cX10_character 0 = .ok (.aload_n 0, 1) := by decide +kernel
theorem dX10_character_1 : decode cX10_character 1 = .ok (.iconst 0, 1) := by decide +kernel
theorem dX10_character_2 : decode cX10_character 2 = .ok (.putfield 3, 3) := by decide +kernel
theorem dX10_character_5 : decode cX10_character 5 = .ok (.aload_n 0, 1) := by decide +kernel
theorem dX10_character_6 : decode cX10_character 6 = .ok (.iload_n 1, 1) := by decide +kernel
theorem dX10_character_7 : decode cX10_character 7 = .ok (.iload_n 2, 1) := by decide +kernel
theorem dX10_character_8 : decode cX10_character 8 = .ok (.invokevirtual 234, 3) := by decide +kernel
theorem dX10_character_11 : decode cX10_character 11 = .ok (.ifCond .eq 23, 3) := by decide +kernel
theorem dX10_character_14 : decode cX10_character 14 = .ok (.iload_n 3, 1) := by decide +kernel
theorem dX10_character_15 : decode cX10_character 15 = .ok (.iconst 0, 1) := by decide +kernel
theorem dX10_character_16 : decode cX10_character 16 = .ok (.aload_n 0, 1) := by decide +kernel
theorem dX10_character_17 : decode cX10_character 17 = .ok (.getfield 13, 3) := by decide +kernel
theorem dX10_character_20 : decode cX10_character 20 = .ok (.iload_n 1, 1) := by decide +kernel
theorem dX10_character_21 : decode cX10_character 21 = .ok (.iload_n 2, 1) := by decide +kernel
theorem dX10_character_22 : decode cX10_character 22 = .ok (.invokestatic 221, 3) := by decide +kernel
theorem dX10_character_25 : decode cX10_character 25 = .ok (.iaload, 1) := by decide +kernel
theorem dX10_character_26 : decode cX10_character 26 = .ok (.iconst 1, 1) := by decide +kernel
theorem dX10_character_27 : decode cX10_character 27 = .ok (.isub, 1) := by decide +kernel
theorem dX10_character_28 : decode cX10_character 28 = .ok (.invokestatic 158, 3) := by decide +kernel
theorem dX10_character_31 : decode cX10_character 31 = .ok (.ifCond .ne 10, 3) := by decide +kernel
theorem dX10_character_34 : decode cX10_character 34 = .ok (.aload_n 0, 1) := by decide +kernel
theorem dX10_character_35 : decode cX10_character 35 = .ok (.iconst 1, 1) := by decide +kernel
theorem dX10_character_36 : decode cX10_character 36 = .ok (.invokevirtual 162, 3) := by decide +kernel
theorem dX10_character_39 : decode cX10_character 39 = .ok (.i2c, 1) := by decide +kernel
theorem dX10_character_40 : decode cX10_character 40 = .ok (.ireturn, 1) := by decide +kernel
theorem dX10_character_41 : decode cX10_character 41 = .ok (.aload_n 0, 1) := by decide +kernel
theorem dX10_character_42 : decode cX10_character 42 = .ok (.getfield 13, 3) := by decide +kernel
theorem dX10_character_45 : decode cX10_character 45 = .ok (.iload_n 1, 1) := by decide +kernel
theorem dX10_character_46 : decode cX10_character 46 = .ok (.iload_n 2, 1) := by decide +kernel
theorem dX10_character_47 : decode cX10_character 47 = .ok (.invokestatic 221, 3) := by decide +kernel
theorem dX10_character_50 : decode cX10_character 50 = .ok (.iconst 1, 1) := by decide +kernel
theorem dX10_character_51 : decode cX10_character 51 = .ok (.iadd, 1) := by decide +kernel
theorem dX10_character_52 : decode cX10_character 52 = .ok (.iload_n 3, 1) := by decide +kernel
theorem dX10_character_53 : decode cX10_character 53 = .ok (.iadd, 1) := by decide +kernel
theorem dX10_character_54 : decode cX10_character 54 = .ok (.iaload, 1) := by decide +kernel
theorem dX10_character_55 : decode cX10_character 55 = .ok (.i2c, 1) := by decide +kernel
theorem dX10_character_56 : decode cX10_character 56 = .ok (.ireturn, 1) := by decide +kernel
theorem dX10_letter_0 : decode cX10_letter 0 = .ok (.aload_n 0, 1) := by decide +kernel
theorem dX10_letter_1 : decode cX10_letter 1 = .ok (.getfield 13, 3) := by decide +kernel
theorem dX10_letter_4 : decode cX10_letter 4 = .ok (.aload_n 0, 1) := by decide +kernel
theorem dX10_letter_5 : decode cX10_letter 5 = .ok (.getfield 63, 3) := by decide +kernel
theorem dX10_letter_8 : decode cX10_letter 8 = .ok (.iload_n 1, 1) := by decide +kernel
theorem dX10_letter_9 : decode cX10_letter 9 = .ok (.iaload, 1) := by decide +kernel
theorem dX10_letter_10 : decode cX10_letter 10 = .ok (.iload_n 2, 1) := by decide +kernel
theorem dX10_letter_11 : decode cX10_letter 11 = .ok (.iadd, 1) := by decide +kernel
theorem dX10_letter_12 : decode cX10_letter 12 = .ok (.iaload, 1) := by decide +kernel
theorem dX10_letter_13 : decode cX10_letter 13 = .ok (.ireturn, 1) := by decide +kernel
theorem dX10_laysCores_0 : decode cX10_laysCores 0 = .ok (.aload_n 0, 1) := by decide +kernel
theorem dX10_laysCores_1 : decode cX10_laysCores 1 = .ok (.getfield 66, 3) := by decide +kernel
theorem dX10_laysCores_4 : decode cX10_laysCores 4 = .ok (.iload_n 1, 1) := by decide +kernel
theorem dX10_laysCores_5 : decode cX10_laysCores 5 = .ok (.iaload, 1) := by decide +kernel
theorem dX10_laysCores_6 : decode cX10_laysCores 6 = .ok (.istore_n 2, 1) := by decide +kernel
theorem dX10_laysCores_7 : decode cX10_laysCores 7 = .ok (.aload_n 0, 1) := by decide +kernel
theorem dX10_laysCores_8 : decode cX10_laysCores 8 = .ok (.iconst 0, 1) := by decide +kernel
theorem dX10_laysCores_9 : decode cX10_laysCores 9 = .ok (.putfield 85, 3) := by decide +kernel
theorem dX10_laysCores_12 : decode cX10_laysCores 12 = .ok (.iconst 0, 1) := by decide +kernel
theorem dX10_laysCores_13 : decode cX10_laysCores 13 = .ok (.istore_n 3, 1) := by decide +kernel
theorem dX10_laysCores_14 : decode cX10_laysCores 14 = .ok (.iload_n 3, 1) := by decide +kernel
theorem dX10_laysCores_15 : decode cX10_laysCores 15 = .ok (.iload_n 2, 1) := by decide +kernel
theorem dX10_laysCores_16 : decode cX10_laysCores 16 = .ok (.if_icmp .ge 62, 3) := by decide +kernel
theorem dX10_laysCores_19 : decode cX10_laysCores 19 = .ok (.aload_n 0, 1) := by decide +kernel
theorem dX10_laysCores_20 : decode cX10_laysCores 20 = .ok (.iload_n 1, 1) := by decide +kernel
theorem dX10_laysCores_21 : decode cX10_laysCores 21 = .ok (.iload_n 3, 1) := by decide +kernel
theorem dX10_laysCores_22 : decode cX10_laysCores 22 = .ok (.invokevirtual 243, 3) := by decide +kernel
theorem dX10_laysCores_25 : decode cX10_laysCores 25 = .ok (.invokestatic 246, 3) := by decide +kernel
theorem dX10_laysCores_28 : decode cX10_laysCores 28 = .ok (.ifCond .eq 44, 3) := by decide +kernel
theorem dX10_laysCores_31 : decode cX10_laysCores 31 = .ok (.iload_n 3, 1) := by decide +kernel
theorem dX10_laysCores_32 : decode cX10_laysCores 32 = .ok (.ifCond .le 20, 3) := by decide +kernel
theorem dX10_laysCores_35 : decode cX10_laysCores 35 = .ok (.aload_n 0, 1) := by decide +kernel
theorem dX10_laysCores_36 : decode cX10_laysCores 36 = .ok (.iload_n 1, 1) := by decide +kernel
theorem dX10_laysCores_37 : decode cX10_laysCores 37 = .ok (.iload_n 3, 1) := by decide +kernel
theorem dX10_laysCores_38 : decode cX10_laysCores 38 = .ok (.iconst 1, 1) := by decide +kernel
theorem dX10_laysCores_39 : decode cX10_laysCores 39 = .ok (.isub, 1) := by decide +kernel
theorem dX10_laysCores_40 : decode cX10_laysCores 40 = .ok (.invokevirtual 243, 3) := by decide +kernel
theorem dX10_laysCores_43 : decode cX10_laysCores 43 = .ok (.invokestatic 246, 3) := by decide +kernel
theorem dX10_laysCores_46 : decode cX10_laysCores 46 = .ok (.ifCond .eq 6, 3) := by decide +kernel
theorem dX10_laysCores_49 : decode cX10_laysCores 49 = .ok (.goto 23, 3) := by decide +kernel
theorem dX10_laysCores_52 : decode cX10_laysCores 52 = .ok (.aload_n 0, 1) := by decide +kernel
theorem dX10_laysCores_53 : decode cX10_laysCores 53 = .ok (.getfield 91, 3) := by decide +kernel
theorem dX10_laysCores_56 : decode cX10_laysCores 56 = .ok (.aload_n 0, 1) := by decide +kernel
theorem dX10_laysCores_57 : decode cX10_laysCores 57 = .ok (.getfield 85, 3) := by decide +kernel
theorem dX10_laysCores_60 : decode cX10_laysCores 60 = .ok (.iload_n 3, 1) := by decide +kernel
theorem dX10_laysCores_61 : decode cX10_laysCores 61 = .ok (.iastore, 1) := by decide +kernel
theorem dX10_laysCores_62 : decode cX10_laysCores 62 = .ok (.aload_n 0, 1) := by decide +kernel
theorem dX10_laysCores_63 : decode cX10_laysCores 63 = .ok (.dup, 1) := by decide +kernel
theorem dX10_laysCores_64 : decode cX10_laysCores 64 = .ok (.getfield 85, 3) := by decide +kernel
theorem dX10_laysCores_67 : decode cX10_laysCores 67 = .ok (.iconst 1, 1) := by decide +kernel
theorem dX10_laysCores_68 : decode cX10_laysCores 68 = .ok (.iadd, 1) := by decide +kernel
theorem dX10_laysCores_69 : decode cX10_laysCores 69 = .ok (.putfield 85, 3) := by decide +kernel
theorem dX10_laysCores_72 : decode cX10_laysCores 72 = .ok (.iinc 3 1, 3) := by decide +kernel
theorem dX10_laysCores_75 : decode cX10_laysCores 75 = .ok (.goto (-61), 3) := by decide +kernel
theorem dX10_laysCores_78 : decode cX10_laysCores 78 = .ok (.aload_n 0, 1) := by decide +kernel
theorem dX10_laysCores_79 : decode cX10_laysCores 79 = .ok (.getfield 79, 3) := by decide +kernel
theorem dX10_laysCores_82 : decode cX10_laysCores 82 = .ok (.iload_n 1, 1) := by decide +kernel
theorem dX10_laysCores_83 : decode cX10_laysCores 83 = .ok (.aload_n 0, 1) := by decide +kernel
theorem dX10_laysCores_84 : decode cX10_laysCores 84 = .ok (.iload_n 1, 1) := by decide +kernel
theorem dX10_laysCores_85 : decode cX10_laysCores 85 = .ok (.iload_n 2, 1) := by decide +kernel
theorem dX10_laysCores_86 : decode cX10_laysCores 86 = .ok (.iconst 1, 1) := by decide +kernel
theorem dX10_laysCores_87 : decode cX10_laysCores 87 = .ok (.isub, 1) := by decide +kernel
theorem dX10_laysCores_88 : decode cX10_laysCores 88 = .ok (.invokevirtual 243, 3) := by decide +kernel
theorem dX10_laysCores_91 : decode cX10_laysCores 91 = .ok (.invokestatic 246, 3) := by decide +kernel
theorem dX10_laysCores_94 : decode cX10_laysCores 94 = .ok (.bastore, 1) := by decide +kernel
theorem dX10_laysCores_95 : decode cX10_laysCores 95 = .ok (.aload_n 0, 1) := by decide +kernel
theorem dX10_laysCores_96 : decode cX10_laysCores 96 = .ok (.aload_n 0, 1) := by decide +kernel
theorem dX10_laysCores_97 : decode cX10_laysCores 97 = .ok (.getfield 85, 3) := by decide +kernel
theorem dX10_laysCores_100 : decode cX10_laysCores 100 = .ok (.iconst 1, 1) := by decide +kernel
theorem dX10_laysCores_101 : decode cX10_laysCores 101 = .ok (.if_icmp .le 37, 3) := by decide +kernel
theorem dX10_laysCores_104 : decode cX10_laysCores 104 = .ok (.aload_n 0, 1) := by decide +kernel
theorem dX10_laysCores_105 : decode cX10_laysCores 105 = .ok (.getfield 91, 3) := by decide +kernel
theorem dX10_laysCores_108 : decode cX10_laysCores 108 = .ok (.aload_n 0, 1) := by decide +kernel
theorem dX10_laysCores_109 : decode cX10_laysCores 109 = .ok (.getfield 85, 3) := by decide +kernel
theorem dX10_laysCores_112 : decode cX10_laysCores 112 = .ok (.iconst 1, 1) := by decide +kernel
theorem dX10_laysCores_113 : decode cX10_laysCores 113 = .ok (.isub, 1) := by decide +kernel
theorem dX10_laysCores_114 : decode cX10_laysCores 114 = .ok (.iaload, 1) := by decide +kernel
theorem dX10_laysCores_115 : decode cX10_laysCores 115 = .ok (.iload_n 2, 1) := by decide +kernel
theorem dX10_laysCores_116 : decode cX10_laysCores 116 = .ok (.iconst 1, 1) := by decide +kernel
theorem dX10_laysCores_117 : decode cX10_laysCores 117 = .ok (.isub, 1) := by decide +kernel
theorem dX10_laysCores_118 : decode cX10_laysCores 118 = .ok (.if_icmp .ne 20, 3) := by decide +kernel
theorem dX10_laysCores_121 : decode cX10_laysCores 121 = .ok (.aload_n 0, 1) := by decide +kernel
theorem dX10_laysCores_122 : decode cX10_laysCores 122 = .ok (.iload_n 1, 1) := by decide +kernel
theorem dX10_laysCores_123 : decode cX10_laysCores 123 = .ok (.iload_n 2, 1) := by decide +kernel
theorem dX10_laysCores_124 : decode cX10_laysCores 124 = .ok (.iconst 1, 1) := by decide +kernel
theorem dX10_laysCores_125 : decode cX10_laysCores 125 = .ok (.isub, 1) := by decide +kernel
theorem dX10_laysCores_126 : decode cX10_laysCores 126 = .ok (.invokevirtual 243, 3) := by decide +kernel
theorem dX10_laysCores_129 : decode cX10_laysCores 129 = .ok (.bipush 101, 2) := by decide +kernel
theorem dX10_laysCores_131 : decode cX10_laysCores 131 = .ok (.if_icmp .ne 7, 3) := by decide +kernel
theorem dX10_laysCores_134 : decode cX10_laysCores 134 = .ok (.iconst 1, 1) := by decide +kernel
theorem dX10_laysCores_135 : decode cX10_laysCores 135 = .ok (.goto 4, 3) := by decide +kernel
theorem dX10_laysCores_138 : decode cX10_laysCores 138 = .ok (.iconst 0, 1) := by decide +kernel
theorem dX10_laysCores_139 : decode cX10_laysCores 139 = .ok (.putfield 88, 3) := by decide +kernel
theorem dX10_laysCores_142 : decode cX10_laysCores 142 = .ok (.aload_n 0, 1) := by decide +kernel
theorem dX10_laysCores_143 : decode cX10_laysCores 143 = .ok (.getfield 88, 3) := by decide +kernel
theorem dX10_laysCores_146 : decode cX10_laysCores 146 = .ok (.ifCond .eq 20, 3) := by decide +kernel
theorem dX10_laysCores_149 : decode cX10_laysCores 149 = .ok (.aload_n 0, 1) := by decide +kernel
theorem dX10_laysCores_150 : decode cX10_laysCores 150 = .ok (.dup, 1) := by decide +kernel
theorem dX10_laysCores_151 : decode cX10_laysCores 151 = .ok (.getfield 85, 3) := by decide +kernel
theorem dX10_laysCores_154 : decode cX10_laysCores 154 = .ok (.iconst 1, 1) := by decide +kernel
theorem dX10_laysCores_155 : decode cX10_laysCores 155 = .ok (.isub, 1) := by decide +kernel
theorem dX10_laysCores_156 : decode cX10_laysCores 156 = .ok (.putfield 85, 3) := by decide +kernel
theorem dX10_laysCores_159 : decode cX10_laysCores 159 = .ok (.aload_n 0, 1) := by decide +kernel
theorem dX10_laysCores_160 : decode cX10_laysCores 160 = .ok (.getfield 79, 3) := by decide +kernel
theorem dX10_laysCores_163 : decode cX10_laysCores 163 = .ok (.iload_n 1, 1) := by decide +kernel
theorem dX10_laysCores_164 : decode cX10_laysCores 164 = .ok (.iconst 0, 1) := by decide +kernel
theorem dX10_laysCores_165 : decode cX10_laysCores 165 = .ok (.bastore, 1) := by decide +kernel
theorem dX10_laysCores_166 : decode cX10_laysCores 166 = .ok (.aload_n 0, 1) := by decide +kernel
theorem dX10_laysCores_167 : decode cX10_laysCores 167 = .ok (.getfield 85, 3) := by decide +kernel
theorem dX10_laysCores_170 : decode cX10_laysCores 170 = .ok (.ifCond .ne 15, 3) := by decide +kernel
theorem dX10_laysCores_173 : decode cX10_laysCores 173 = .ok (.aload_n 0, 1) := by decide +kernel
theorem dX10_laysCores_174 : decode cX10_laysCores 174 = .ok (.getfield 91, 3) := by decide +kernel
theorem dX10_laysCores_177 : decode cX10_laysCores 177 = .ok (.iconst 0, 1) := by decide +kernel
theorem dX10_laysCores_178 : decode cX10_laysCores 178 = .ok (.iconst 0, 1) := by decide +kernel
theorem dX10_laysCores_179 : decode cX10_laysCores 179 = .ok (.iastore, 1) := by decide +kernel
theorem dX10_laysCores_180 : decode cX10_laysCores 180 = .ok (.aload_n 0, 1) := by decide +kernel
theorem dX10_laysCores_181 : decode cX10_laysCores 181 = .ok (.iconst 1, 1) := by decide +kernel
theorem dX10_laysCores_182 : decode cX10_laysCores 182 = .ok (.putfield 85, 3) := by decide +kernel
theorem dX10_laysCores_185 : decode cX10_laysCores 185 = .ok (.return_, 1) := by decide +kernel
theorem dX10_laysMarks_0 : decode cX10_laysMarks 0 = .ok (.aload_n 0, 1) := by decide +kernel
theorem dX10_laysMarks_1 : decode cX10_laysMarks 1 = .ok (.aload_n 0, 1) := by decide +kernel
theorem dX10_laysMarks_2 : decode cX10_laysMarks 2 = .ok (.getfield 13, 3) := by decide +kernel
theorem dX10_laysMarks_5 : decode cX10_laysMarks 5 = .ok (.aload_n 0, 1) := by decide +kernel
theorem dX10_laysMarks_6 : decode cX10_laysMarks 6 = .ok (.getfield 63, 3) := by decide +kernel
theorem dX10_laysMarks_9 : decode cX10_laysMarks 9 = .ok (.iload_n 1, 1) := by decide +kernel
theorem dX10_laysMarks_10 : decode cX10_laysMarks 10 = .ok (.iaload, 1) := by decide +kernel
theorem dX10_laysMarks_11 : decode cX10_laysMarks 11 = .ok (.aload_n 0, 1) := by decide +kernel
theorem dX10_laysMarks_12 : decode cX10_laysMarks 12 = .ok (.getfield 66, 3) := by decide +kernel
theorem dX10_laysMarks_15 : decode cX10_laysMarks 15 = .ok (.iload_n 1, 1) := by decide +kernel
theorem dX10_laysMarks_16 : decode cX10_laysMarks 16 = .ok (.iaload, 1) := by decide +kernel
theorem dX10_laysMarks_17 : decode cX10_laysMarks 17 = .ok (.invokevirtual 214, 3) := by decide +kernel
theorem dX10_laysMarks_20 : decode cX10_laysMarks 20 = .ok (.istore_n 2, 1) := by decide +kernel
theorem dX10_laysMarks_21 : decode cX10_laysMarks 21 = .ok (.iload_n 2, 1) := by decide +kernel
theorem dX10_laysMarks_22 : decode cX10_laysMarks 22 = .ok (.ifCond .ge 10, 3) := by decide +kernel
theorem dX10_laysMarks_25 : decode cX10_laysMarks 25 = .ok (.aload_n 0, 1) := by decide +kernel
theorem dX10_laysMarks_26 : decode cX10_laysMarks 26 = .ok (.getfield 85, 3) := by decide +kernel
theorem dX10_laysMarks_29 : decode cX10_laysMarks 29 = .ok (.goto 17, 3) := by decide +kernel
theorem dX10_laysMarks_32 : decode cX10_laysMarks 32 = .ok (.aload_n 0, 1) := by decide +kernel
theorem dX10_laysMarks_33 : decode cX10_laysMarks 33 = .ok (.getfield 13, 3) := by decide +kernel
theorem dX10_laysMarks_36 : decode cX10_laysMarks 36 = .ok (.iload_n 2, 1) := by decide +kernel
theorem dX10_laysMarks_37 : decode cX10_laysMarks 37 = .ok (.invokestatic 211, 3) := by decide +kernel
theorem dX10_laysMarks_40 : decode cX10_laysMarks 40 = .ok (.iconst 1, 1) := by decide +kernel
theorem dX10_laysMarks_41 : decode cX10_laysMarks 41 = .ok (.iadd, 1) := by decide +kernel
theorem dX10_laysMarks_42 : decode cX10_laysMarks 42 = .ok (.bipush 12, 2) := by decide +kernel
theorem dX10_laysMarks_44 : decode cX10_laysMarks 44 = .ok (.iadd, 1) := by decide +kernel
theorem dX10_laysMarks_45 : decode cX10_laysMarks 45 = .ok (.iaload, 1) := by decide +kernel
theorem dX10_laysMarks_46 : decode cX10_laysMarks 46 = .ok (.istore_n 3, 1) := by decide +kernel
theorem dX10_laysMarks_47 : decode cX10_laysMarks 47 = .ok (.aload_n 0, 1) := by decide +kernel
theorem dX10_laysMarks_48 : decode cX10_laysMarks 48 = .ok (.getfield 69, 3) := by decide +kernel
theorem dX10_laysMarks_51 : decode cX10_laysMarks 51 = .ok (.iload_n 1, 1) := by decide +kernel
theorem dX10_laysMarks_52 : decode cX10_laysMarks 52 = .ok (.iload_n 3, 1) := by decide +kernel
theorem dX10_laysMarks_53 : decode cX10_laysMarks 53 = .ok (.iastore, 1) := by decide +kernel
theorem dX10_laysMarks_54 : decode cX10_laysMarks 54 = .ok (.iconst 0, 1) := by decide +kernel
theorem dX10_laysMarks_55 : decode cX10_laysMarks 55 = .ok (.istore 4, 2) := by decide +kernel
theorem dX10_laysMarks_57 : decode cX10_laysMarks 57 = .ok (.iload 4, 2) := by decide +kernel
theorem dX10_laysMarks_59 : decode cX10_laysMarks 59 = .ok (.iload_n 3, 1) := by decide +kernel
theorem dX10_laysMarks_60 : decode cX10_laysMarks 60 = .ok (.if_icmp .ge 100, 3) := by decide +kernel
theorem dX10_laysMarks_63 : decode cX10_laysMarks 63 = .ok (.iload_n 3, 1) := by decide +kernel
theorem dX10_laysMarks_64 : decode cX10_laysMarks 64 = .ok (.iconst 1, 1) := by decide +kernel
theorem dX10_laysMarks_65 : decode cX10_laysMarks 65 = .ok (.isub, 1) := by decide +kernel
theorem dX10_laysMarks_66 : decode cX10_laysMarks 66 = .ok (.iload 4, 2) := by decide +kernel
theorem dX10_laysMarks_68 : decode cX10_laysMarks 68 = .ok (.isub, 1) := by decide +kernel
theorem dX10_laysMarks_69 : decode cX10_laysMarks 69 = .ok (.istore 5, 2) := by decide +kernel
theorem dX10_laysMarks_71 : decode cX10_laysMarks 71 = .ok (.iload_n 3, 1) := by decide +kernel
theorem dX10_laysMarks_72 : decode cX10_laysMarks 72 = .ok (.iconst 1, 1) := by decide +kernel
theorem dX10_laysMarks_73 : decode cX10_laysMarks 73 = .ok (.if_icmp .ne 7, 3) := by decide +kernel
theorem dX10_laysMarks_76 : decode cX10_laysMarks 76 = .ok (.iconst 1, 1) := by decide +kernel
theorem dX10_laysMarks_77 : decode cX10_laysMarks 77 = .ok (.goto 37, 3) := by decide +kernel
theorem dX10_laysMarks_80 : decode cX10_laysMarks 80 = .ok (.iload_n 3, 1) := by decide +kernel
theorem dX10_laysMarks_81 : decode cX10_laysMarks 81 = .ok (.iconst 2, 1) := by decide +kernel
theorem dX10_laysMarks_82 : decode cX10_laysMarks 82 = .ok (.if_icmp .ne 10, 3) := by decide +kernel
theorem dX10_laysMarks_85 : decode cX10_laysMarks 85 = .ok (.iconst 2, 1) := by decide +kernel
theorem dX10_laysMarks_86 : decode cX10_laysMarks 86 = .ok (.iload 5, 2) := by decide +kernel
theorem dX10_laysMarks_88 : decode cX10_laysMarks 88 = .ok (.imul, 1) := by decide +kernel
theorem dX10_laysMarks_89 : decode cX10_laysMarks 89 = .ok (.goto 25, 3) := by decide +kernel
theorem dX10_laysMarks_92 : decode cX10_laysMarks 92 = .ok (.iload 5, 2) := by decide +kernel
theorem dX10_laysMarks_94 : decode cX10_laysMarks 94 = .ok (.iconst 2, 1) := by decide +kernel
theorem dX10_laysMarks_95 : decode cX10_laysMarks 95 = .ok (.if_icmp .ne 7, 3) := by decide +kernel
theorem dX10_laysMarks_98 : decode cX10_laysMarks 98 = .ok (.iconst 2, 1) := by decide +kernel
theorem dX10_laysMarks_99 : decode cX10_laysMarks 99 = .ok (.goto 15, 3) := by decide +kernel
theorem dX10_laysMarks_102 : decode cX10_laysMarks 102 = .ok (.iload 5, 2) := by decide +kernel
theorem dX10_laysMarks_104 : decode cX10_laysMarks 104 = .ok (.iconst 2, 1) := by decide +kernel
theorem dX10_laysMarks_105 : decode cX10_laysMarks 105 = .ok (.irem, 1) := by decide +kernel
theorem dX10_laysMarks_106 : decode cX10_laysMarks 106 = .ok (.ifCond .ne 7, 3) := by decide +kernel
theorem dX10_laysMarks_109 : decode cX10_laysMarks 109 = .ok (.iconst 1, 1) := by decide +kernel
theorem dX10_laysMarks_110 : decode cX10_laysMarks 110 = .ok (.goto 4, 3) := by decide +kernel
theorem dX10_laysMarks_113 : decode cX10_laysMarks 113 = .ok (.iconst 0, 1) := by decide +kernel
theorem dX10_laysMarks_114 : decode cX10_laysMarks 114 = .ok (.istore 6, 2) := by decide +kernel
theorem dX10_laysMarks_116 : decode cX10_laysMarks 116 = .ok (.aload_n 0, 1) := by decide +kernel
theorem dX10_laysMarks_117 : decode cX10_laysMarks 117 = .ok (.getfield 72, 3) := by decide +kernel
theorem dX10_laysMarks_120 : decode cX10_laysMarks 120 = .ok (.bipush 12, 2) := by decide +kernel
theorem dX10_laysMarks_122 : decode cX10_laysMarks 122 = .ok (.iload_n 1, 1) := by decide +kernel
theorem dX10_laysMarks_123 : decode cX10_laysMarks 123 = .ok (.imul, 1) := by decide +kernel
theorem dX10_laysMarks_124 : decode cX10_laysMarks 124 = .ok (.iload 4, 2) := by decide +kernel
theorem dX10_laysMarks_126 : decode cX10_laysMarks 126 = .ok (.iadd, 1) := by decide +kernel
theorem dX10_laysMarks_127 : decode cX10_laysMarks 127 = .ok (.iload_n 2, 1) := by decide +kernel
theorem dX10_laysMarks_128 : decode cX10_laysMarks 128 = .ok (.ifCond .ge 8, 3) := by decide +kernel
theorem dX10_laysMarks_131 : decode cX10_laysMarks 131 = .ok (.iload 6, 2) := by decide +kernel
theorem dX10_laysMarks_133 : decode cX10_laysMarks 133 = .ok (.goto 20, 3) := by decide +kernel
theorem dX10_laysMarks_136 : decode cX10_laysMarks 136 = .ok (.aload_n 0, 1) := by decide +kernel
theorem dX10_laysMarks_137 : decode cX10_laysMarks 137 = .ok (.getfield 13, 3) := by decide +kernel
theorem dX10_laysMarks_140 : decode cX10_laysMarks 140 = .ok (.iload_n 2, 1) := by decide +kernel
theorem dX10_laysMarks_141 : decode cX10_laysMarks 141 = .ok (.invokestatic 211, 3) := by decide +kernel
theorem dX10_laysMarks_144 : decode cX10_laysMarks 144 = .ok (.iconst 2, 1) := by decide +kernel
theorem dX10_laysMarks_145 : decode cX10_laysMarks 145 = .ok (.iadd, 1) := by decide +kernel
theorem dX10_laysMarks_146 : decode cX10_laysMarks 146 = .ok (.bipush 12, 2) := by decide +kernel
theorem dX10_laysMarks_148 : decode cX10_laysMarks 148 = .ok (.iadd, 1) := by decide +kernel
theorem dX10_laysMarks_149 : decode cX10_laysMarks 149 = .ok (.iload 4, 2) := by decide +kernel
theorem dX10_laysMarks_151 : decode cX10_laysMarks 151 = .ok (.iadd, 1) := by decide +kernel
theorem dX10_laysMarks_152 : decode cX10_laysMarks 152 = .ok (.iaload, 1) := by decide +kernel
theorem dX10_laysMarks_153 : decode cX10_laysMarks 153 = .ok (.iastore, 1) := by decide +kernel
theorem dX10_laysMarks_154 : decode cX10_laysMarks 154 = .ok (.iinc 4 1, 3) := by decide +kernel
theorem dX10_laysMarks_157 : decode cX10_laysMarks 157 = .ok (.goto (-100), 3) := by decide +kernel
theorem dX10_laysMarks_160 : decode cX10_laysMarks 160 = .ok (.return_, 1) := by decide +kernel
theorem dX10_laysLine_0 : decode cX10_laysLine 0 = .ok (.iload_n 1, 1) := by decide +kernel
theorem dX10_laysLine_1 : decode cX10_laysLine 1 = .ok (.iload_n 2, 1) := by decide +kernel
theorem dX10_laysLine_2 : decode cX10_laysLine 2 = .ok (.invokestatic 221, 3) := by decide +kernel
theorem dX10_laysLine_5 : decode cX10_laysLine 5 = .ok (.istore_n 3, 1) := by decide +kernel
theorem dX10_laysLine_6 : decode cX10_laysLine 6 = .ok (.aload_n 0, 1) := by decide +kernel
theorem dX10_laysLine_7 : decode cX10_laysLine 7 = .ok (.getfield 13, 3) := by decide +kernel
theorem dX10_laysLine_10 : decode cX10_laysLine 10 = .ok (.iload_n 3, 1) := by decide +kernel
theorem dX10_laysLine_11 : decode cX10_laysLine 11 = .ok (.iaload, 1) := by decide +kernel
theorem dX10_laysLine_12 : decode cX10_laysLine 12 = .ok (.istore 4, 2) := by decide +kernel
theorem dX10_laysLine_14 : decode cX10_laysLine 14 = .ok (.aload_n 0, 1) := by decide +kernel
theorem dX10_laysLine_15 : decode cX10_laysLine 15 = .ok (.iconst 0, 1) := by decide +kernel
theorem dX10_laysLine_16 : decode cX10_laysLine 16 = .ok (.putfield 60, 3) := by decide +kernel
theorem dX10_laysLine_19 : decode cX10_laysLine 19 = .ok (.iconst 0, 1) := by decide +kernel
theorem dX10_laysLine_20 : decode cX10_laysLine 20 = .ok (.istore 5, 2) := by decide +kernel
theorem dX10_laysLine_22 : decode cX10_laysLine 22 = .ok (.iload 5, 2) := by decide +kernel
theorem dX10_laysLine_24 : decode cX10_laysLine 24 = .ok (.iload 4, 2) := by decide +kernel
theorem dX10_laysLine_26 : decode cX10_laysLine 26 = .ok (.if_icmp .ge 165, 3) := by decide +kernel
theorem dX10_laysLine_29 : decode cX10_laysLine 29 = .ok (.aload_n 0, 1) := by decide +kernel
theorem dX10_laysLine_30 : decode cX10_laysLine 30 = .ok (.getfield 60, 3) := by decide +kernel
theorem dX10_laysLine_33 : decode cX10_laysLine 33 = .ok (.istore 6, 2) := by decide +kernel
theorem dX10_laysLine_35 : decode cX10_laysLine 35 = .ok (.aload_n 0, 1) := by decide +kernel
theorem dX10_laysLine_36 : decode cX10_laysLine 36 = .ok (.getfield 63, 3) := by decide +kernel
theorem dX10_laysLine_39 : decode cX10_laysLine 39 = .ok (.iload 6, 2) := by decide +kernel
theorem dX10_laysLine_41 : decode cX10_laysLine 41 = .ok (.iload_n 3, 1) := by decide +kernel
theorem dX10_laysLine_42 : decode cX10_laysLine 42 = .ok (.iconst 1, 1) := by decide +kernel
theorem dX10_laysLine_43 : decode cX10_laysLine 43 = .ok (.iadd, 1) := by decide +kernel
theorem dX10_laysLine_44 : decode cX10_laysLine 44 = .ok (.iload 5, 2) := by decide +kernel
theorem dX10_laysLine_46 : decode cX10_laysLine 46 = .ok (.iadd, 1) := by decide +kernel
theorem dX10_laysLine_47 : decode cX10_laysLine 47 = .ok (.iastore, 1) := by decide +kernel
theorem dX10_laysLine_48 : decode cX10_laysLine 48 = .ok (.iload 5, 2) := by decide +kernel
theorem dX10_laysLine_50 : decode cX10_laysLine 50 = .ok (.istore 7, 2) := by decide +kernel
theorem dX10_laysLine_52 : decode cX10_laysLine 52 = .ok (.iload 5, 2) := by decide +kernel
theorem dX10_laysLine_54 : decode cX10_laysLine 54 = .ok (.iload 4, 2) := by decide +kernel
theorem dX10_laysLine_56 : decode cX10_laysLine 56 = .ok (.if_icmp .ge 26, 3) := by decide +kernel
theorem dX10_laysLine_59 : decode cX10_laysLine 59 = .ok (.aload_n 0, 1) := by decide +kernel
theorem dX10_laysLine_60 : decode cX10_laysLine 60 = .ok (.getfield 13, 3) := by decide +kernel
theorem dX10_laysLine_63 : decode cX10_laysLine 63 = .ok (.iload_n 3, 1) := by decide +kernel
theorem dX10_laysLine_64 : decode cX10_laysLine 64 = .ok (.iconst 1, 1) := by decide +kernel
theorem dX10_laysLine_65 : decode cX10_laysLine 65 = .ok (.iadd, 1) := by decide +kernel
theorem dX10_laysLine_66 : decode cX10_laysLine 66 = .ok (.iload 5, 2) := by decide +kernel
theorem dX10_laysLine_68 : decode cX10_laysLine 68 = .ok (.iadd, 1) := by decide +kernel
theorem dX10_laysLine_69 : decode cX10_laysLine 69 = .ok (.iaload, 1) := by decide +kernel
theorem dX10_laysLine_70 : decode cX10_laysLine 70 = .ok (.invokestatic 170, 3) := by decide +kernel
theorem dX10_laysLine_73 : decode cX10_laysLine 73 = .ok (.ifCond .eq 9, 3) := by decide +kernel
theorem dX10_laysLine_76 : decode cX10_laysLine 76 = .ok (.iinc 5 1, 3) := by decide +kernel
theorem dX10_laysLine_79 : decode cX10_laysLine 79 = .ok (.goto (-27), 3) := by decide +kernel
theorem dX10_laysLine_82 : decode cX10_laysLine 82 = .ok (.aload_n 0, 1) := by decide +kernel
theorem dX10_laysLine_83 : decode cX10_laysLine 83 = .ok (.getfield 66, 3) := by decide +kernel
theorem dX10_laysLine_86 : decode cX10_laysLine 86 = .ok (.iload 6, 2) := by decide +kernel
theorem dX10_laysLine_88 : decode cX10_laysLine 88 = .ok (.iload 5, 2) := by decide +kernel
theorem dX10_laysLine_90 : decode cX10_laysLine 90 = .ok (.iload 7, 2) := by decide +kernel
theorem dX10_laysLine_92 : decode cX10_laysLine 92 = .ok (.isub, 1) := by decide +kernel
theorem dX10_laysLine_93 : decode cX10_laysLine 93 = .ok (.iastore, 1) := by decide +kernel
theorem dX10_laysLine_94 : decode cX10_laysLine 94 = .ok (.aload_n 0, 1) := by decide +kernel
theorem dX10_laysLine_95 : decode cX10_laysLine 95 = .ok (.getfield 75, 3) := by decide +kernel
theorem dX10_laysLine_98 : decode cX10_laysLine 98 = .ok (.iload 6, 2) := by decide +kernel
theorem dX10_laysLine_100 : decode cX10_laysLine 100 = .ok (.iload 5, 2) := by decide +kernel
theorem dX10_laysLine_102 : decode cX10_laysLine 102 = .ok (.iload 4, 2) := by decide +kernel
theorem dX10_laysLine_104 : decode cX10_laysLine 104 = .ok (.if_icmp .ge 23, 3) := by decide +kernel
theorem dX10_laysLine_107 : decode cX10_laysLine 107 = .ok (.aload_n 0, 1) := by decide +kernel
theorem dX10_laysLine_108 : decode cX10_laysLine 108 = .ok (.getfield 13, 3) := by decide +kernel
theorem dX10_laysLine_111 : decode cX10_laysLine 111 = .ok (.iload_n 3, 1) := by decide +kernel
theorem dX10_laysLine_112 : decode cX10_laysLine 112 = .ok (.iconst 1, 1) := by decide +kernel
theorem dX10_laysLine_113 : decode cX10_laysLine 113 = .ok (.iadd, 1) := by decide +kernel
theorem dX10_laysLine_114 : decode cX10_laysLine 114 = .ok (.iload 5, 2) := by decide +kernel
theorem dX10_laysLine_116 : decode cX10_laysLine 116 = .ok (.iadd, 1) := by decide +kernel
theorem dX10_laysLine_117 : decode cX10_laysLine 117 = .ok (.iaload, 1) := by decide +kernel
theorem dX10_laysLine_118 : decode cX10_laysLine 118 = .ok (.bipush 44, 2) := by decide +kernel
theorem dX10_laysLine_120 : decode cX10_laysLine 120 = .ok (.if_icmp .ne 7, 3) := by decide +kernel
theorem dX10_laysLine_123 : decode cX10_laysLine 123 = .ok (.iconst 1, 1) := by decide +kernel
theorem dX10_laysLine_124 : decode cX10_laysLine 124 = .ok (.goto 4, 3) := by decide +kernel
theorem dX10_laysLine_127 : decode cX10_laysLine 127 = .ok (.iconst 0, 1) := by decide +kernel
theorem dX10_laysLine_128 : decode cX10_laysLine 128 = .ok (.bastore, 1) := by decide +kernel
theorem dX10_laysLine_129 : decode cX10_laysLine 129 = .ok (.iload 5, 2) := by decide +kernel
theorem dX10_laysLine_131 : decode cX10_laysLine 131 = .ok (.aload_n 0, 1) := by decide +kernel
theorem dX10_laysLine_132 : decode cX10_laysLine 132 = .ok (.getfield 75, 3) := by decide +kernel
theorem dX10_laysLine_135 : decode cX10_laysLine 135 = .ok (.iload 6, 2) := by decide +kernel
theorem dX10_laysLine_137 : decode cX10_laysLine 137 = .ok (.baload, 1) := by decide +kernel
theorem dX10_laysLine_138 : decode cX10_laysLine 138 = .ok (.ifCond .eq 7, 3) := by decide +kernel
theorem dX10_laysLine_141 : decode cX10_laysLine 141 = .ok (.iconst 2, 1) := by decide +kernel
theorem dX10_laysLine_142 : decode cX10_laysLine 142 = .ok (.goto 4, 3) := by decide +kernel
theorem dX10_laysLine_145 : decode cX10_laysLine 145 = .ok (.iconst 1, 1) := by decide +kernel
theorem dX10_laysLine_146 : decode cX10_laysLine 146 = .ok (.iadd, 1) := by decide +kernel
theorem dX10_laysLine_147 : decode cX10_laysLine 147 = .ok (.istore 5, 2) := by decide +kernel
theorem dX10_laysLine_149 : decode cX10_laysLine 149 = .ok (.aload_n 0, 1) := by decide +kernel
theorem dX10_laysLine_150 : decode cX10_laysLine 150 = .ok (.dup, 1) := by decide +kernel
theorem dX10_laysLine_151 : decode cX10_laysLine 151 = .ok (.getfield 60, 3) := by decide +kernel
theorem dX10_laysLine_154 : decode cX10_laysLine 154 = .ok (.iconst 1, 1) := by decide +kernel
theorem dX10_laysLine_155 : decode cX10_laysLine 155 = .ok (.iadd, 1) := by decide +kernel
theorem dX10_laysLine_156 : decode cX10_laysLine 156 = .ok (.putfield 60, 3) := by decide +kernel
theorem dX10_laysLine_159 : decode cX10_laysLine 159 = .ok (.aload_n 0, 1) := by decide +kernel
theorem dX10_laysLine_160 : decode cX10_laysLine 160 = .ok (.getfield 82, 3) := by decide +kernel
theorem dX10_laysLine_163 : decode cX10_laysLine 163 = .ok (.iload 6, 2) := by decide +kernel
theorem dX10_laysLine_165 : decode cX10_laysLine 165 = .ok (.aload_n 0, 1) := by decide +kernel
theorem dX10_laysLine_166 : decode cX10_laysLine 166 = .ok (.iload 6, 2) := by decide +kernel
theorem dX10_laysLine_168 : decode cX10_laysLine 168 = .ok (.iconst 0, 1) := by decide +kernel
theorem dX10_laysLine_169 : decode cX10_laysLine 169 = .ok (.invokevirtual 243, 3) := by decide +kernel
theorem dX10_laysLine_172 : decode cX10_laysLine 172 = .ok (.invokestatic 246, 3) := by decide +kernel
theorem dX10_laysLine_175 : decode cX10_laysLine 175 = .ok (.bastore, 1) := by decide +kernel
theorem dX10_laysLine_176 : decode cX10_laysLine 176 = .ok (.aload_n 0, 1) := by decide +kernel
theorem dX10_laysLine_177 : decode cX10_laysLine 177 = .ok (.iload 6, 2) := by decide +kernel
theorem dX10_laysLine_179 : decode cX10_laysLine 179 = .ok (.invokevirtual 249, 3) := by decide +kernel
theorem dX10_laysLine_182 : decode cX10_laysLine 182 = .ok (.aload_n 0, 1) := by decide +kernel
theorem dX10_laysLine_183 : decode cX10_laysLine 183 = .ok (.iload 6, 2) := by decide +kernel
theorem dX10_laysLine_185 : decode cX10_laysLine 185 = .ok (.invokevirtual 252, 3) := by decide +kernel
theorem dX10_laysLine_188 : decode cX10_laysLine 188 = .ok (.goto (-166), 3) := by decide +kernel
theorem dX10_laysLine_191 : decode cX10_laysLine 191 = .ok (.return_, 1) := by decide +kernel
theorem dX10_isElision_0 : decode cX10_isElision 0 = .ok (.iload_n 1, 1) := by decide +kernel
theorem dX10_isElision_1 : decode cX10_isElision 1 = .ok (.iconst 1, 1) := by decide +kernel
theorem dX10_isElision_2 : decode cX10_isElision 2 = .ok (.iadd, 1) := by decide +kernel
theorem dX10_isElision_3 : decode cX10_isElision 3 = .ok (.aload_n 0, 1) := by decide +kernel
theorem dX10_isElision_4 : decode cX10_isElision 4 = .ok (.getfield 60, 3) := by decide +kernel
theorem dX10_isElision_7 : decode cX10_isElision 7 = .ok (.if_icmp .ge 36, 3) := by decide +kernel
theorem dX10_isElision_10 : decode cX10_isElision 10 = .ok (.aload_n 0, 1) := by decide +kernel
theorem dX10_isElision_11 : decode cX10_isElision 11 = .ok (.getfield 75, 3) := by decide +kernel
theorem dX10_isElision_14 : decode cX10_isElision 14 = .ok (.iload_n 1, 1) := by decide +kernel
theorem dX10_isElision_15 : decode cX10_isElision 15 = .ok (.baload, 1) := by decide +kernel
theorem dX10_isElision_16 : decode cX10_isElision 16 = .ok (.ifCond .ne 27, 3) := by decide +kernel
theorem dX10_isElision_19 : decode cX10_isElision 19 = .ok (.aload_n 0, 1) := by decide +kernel
theorem dX10_isElision_20 : decode cX10_isElision 20 = .ok (.getfield 79, 3) := by decide +kernel
theorem dX10_isElision_23 : decode cX10_isElision 23 = .ok (.iload_n 1, 1) := by decide +kernel
theorem dX10_isElision_24 : decode cX10_isElision 24 = .ok (.baload, 1) := by decide +kernel
theorem dX10_isElision_25 : decode cX10_isElision 25 = .ok (.ifCond .eq 18, 3) := by decide +kernel
theorem dX10_isElision_28 : decode cX10_isElision 28 = .ok (.aload_n 0, 1) := by decide +kernel
theorem dX10_isElision_29 : decode cX10_isElision 29 = .ok (.getfield 82, 3) := by decide +kernel
theorem dX10_isElision_32 : decode cX10_isElision 32 = .ok (.iload_n 1, 1) := by decide +kernel
theorem dX10_isElision_33 : decode cX10_isElision 33 = .ok (.iconst 1, 1) := by decide +kernel
theorem dX10_isElision_34 : decode cX10_isElision 34 = .ok (.iadd, 1) := by decide +kernel
theorem dX10_isElision_35 : decode cX10_isElision 35 = .ok (.baload, 1) := by decide +kernel
theorem dX10_isElision_36 : decode cX10_isElision 36 = .ok (.ifCond .eq 7, 3) := by decide +kernel
theorem dX10_isElision_39 : decode cX10_isElision 39 = .ok (.iconst 1, 1) := by decide +kernel
theorem dX10_isElision_40 : decode cX10_isElision 40 = .ok (.goto 4, 3) := by decide +kernel
theorem dX10_isElision_43 : decode cX10_isElision 43 = .ok (.iconst 0, 1) := by decide +kernel
theorem dX10_isElision_44 : decode cX10_isElision 44 = .ok (.ireturn, 1) := by decide +kernel
theorem dX10_places_0 : decode cX10_places 0 = .ok (.iconst 0, 1) := by decide +kernel
theorem dX10_places_1 : decode cX10_places 1 = .ok (.istore_n 1, 1) := by decide +kernel
theorem dX10_places_2 : decode cX10_places 2 = .ok (.iconst 0, 1) := by decide +kernel
theorem dX10_places_3 : decode cX10_places 3 = .ok (.istore_n 2, 1) := by decide +kernel
theorem dX10_places_4 : decode cX10_places 4 = .ok (.iload_n 2, 1) := by decide +kernel
theorem dX10_places_5 : decode cX10_places 5 = .ok (.aload_n 0, 1) := by decide +kernel
theorem dX10_places_6 : decode cX10_places 6 = .ok (.getfield 60, 3) := by decide +kernel
theorem dX10_places_9 : decode cX10_places 9 = .ok (.if_icmp .ge 27, 3) := by decide +kernel
theorem dX10_places_12 : decode cX10_places 12 = .ok (.iload_n 1, 1) := by decide +kernel
theorem dX10_places_13 : decode cX10_places 13 = .ok (.aload_n 0, 1) := by decide +kernel
theorem dX10_places_14 : decode cX10_places 14 = .ok (.iload_n 2, 1) := by decide +kernel
theorem dX10_places_15 : decode cX10_places 15 = .ok (.invokevirtual 255, 3) := by decide +kernel
theorem dX10_places_18 : decode cX10_places 18 = .ok (.ifCond .eq 9, 3) := by decide +kernel
theorem dX10_places_21 : decode cX10_places 21 = .ok (.iconst 1, 1) := by decide +kernel
theorem dX10_places_22 : decode cX10_places 22 = .ok (.iload_n 2, 1) := by decide +kernel
theorem dX10_places_23 : decode cX10_places 23 = .ok (.ishl, 1) := by decide +kernel
theorem dX10_places_24 : decode cX10_places 24 = .ok (.goto 4, 3) := by decide +kernel
theorem dX10_places_27 : decode cX10_places 27 = .ok (.iconst 0, 1) := by decide +kernel
theorem dX10_places_28 : decode cX10_places 28 = .ok (.ior, 1) := by decide +kernel
theorem dX10_places_29 : decode cX10_places 29 = .ok (.istore_n 1, 1) := by decide +kernel
theorem dX10_places_30 : decode cX10_places 30 = .ok (.iinc 2 1, 3) := by decide +kernel
theorem dX10_places_33 : decode cX10_places 33 = .ok (.goto (-29), 3) := by decide +kernel
theorem dX10_places_36 : decode cX10_places 36 = .ok (.iload_n 1, 1) := by decide +kernel
theorem dX10_places_37 : decode cX10_places 37 = .ok (.ireturn, 1) := by decide +kernel
theorem dX10_bits_0 : decode cX10_bits 0 = .ok (.iconst 0, 1) := by decide +kernel
theorem dX10_bits_1 : decode cX10_bits 1 = .ok (.istore_n 1, 1) := by decide +kernel
theorem dX10_bits_2 : decode cX10_bits 2 = .ok (.iconst 0, 1) := by decide +kernel
theorem dX10_bits_3 : decode cX10_bits 3 = .ok (.istore_n 2, 1) := by decide +kernel
theorem dX10_bits_4 : decode cX10_bits 4 = .ok (.iload_n 2, 1) := by decide +kernel
theorem dX10_bits_5 : decode cX10_bits 5 = .ok (.bipush 12, 2) := by decide +kernel
theorem dX10_bits_7 : decode cX10_bits 7 = .ok (.if_icmp .ge 17, 3) := by decide +kernel
theorem dX10_bits_10 : decode cX10_bits 10 = .ok (.iload_n 1, 1) := by decide +kernel
theorem dX10_bits_11 : decode cX10_bits 11 = .ok (.iload_n 0, 1) := by decide +kernel
theorem dX10_bits_12 : decode cX10_bits 12 = .ok (.iload_n 2, 1) := by decide +kernel
theorem dX10_bits_13 : decode cX10_bits 13 = .ok (.ishr, 1) := by decide +kernel
theorem dX10_bits_14 : decode cX10_bits 14 = .ok (.iconst 1, 1) := by decide +kernel
theorem dX10_bits_15 : decode cX10_bits 15 = .ok (.iand, 1) := by decide +kernel
theorem dX10_bits_16 : decode cX10_bits 16 = .ok (.iadd, 1) := by decide +kernel
theorem dX10_bits_17 : decode cX10_bits 17 = .ok (.istore_n 1, 1) := by decide +kernel
theorem dX10_bits_18 : decode cX10_bits 18 = .ok (.iinc 2 1, 3) := by decide +kernel
theorem dX10_bits_21 : decode cX10_bits 21 = .ok (.goto (-17), 3) := by decide +kernel
theorem dX10_bits_24 : decode cX10_bits 24 = .ok (.iload_n 1, 1) := by decide +kernel
theorem dX10_bits_25 : decode cX10_bits 25 = .ok (.ireturn, 1) := by decide +kernel
theorem dX10_areElisions_0 : decode cX10_areElisions 0 = .ok (.iload_n 1, 1) := by decide +kernel
theorem dX10_areElisions_1 : decode cX10_areElisions 1 = .ok (.aload_n 0, 1) := by decide +kernel
theorem dX10_areElisions_2 : decode cX10_areElisions 2 = .ok (.invokevirtual 258, 3) := by decide +kernel
theorem dX10_areElisions_5 : decode cX10_areElisions 5 = .ok (.iconst (-1), 1) := by decide +kernel
theorem dX10_areElisions_6 : decode cX10_areElisions 6 = .ok (.ixor, 1) := by decide +kernel
theorem dX10_areElisions_7 : decode cX10_areElisions 7 = .ok (.iand, 1) := by decide +kernel
theorem dX10_areElisions_8 : decode cX10_areElisions 8 = .ok (.ifCond .eq 5, 3) := by decide +kernel
theorem dX10_areElisions_11 : decode cX10_areElisions 11 = .ok (.iconst 0, 1) := by decide +kernel
theorem dX10_areElisions_12 : decode cX10_areElisions 12 = .ok (.ireturn, 1) := by decide +kernel
theorem dX10_areElisions_13 : decode cX10_areElisions 13 = .ok (.iconst 1, 1) := by decide +kernel
theorem dX10_areElisions_14 : decode cX10_areElisions 14 = .ok (.istore_n 2, 1) := by decide +kernel
theorem dX10_areElisions_15 : decode cX10_areElisions 15 = .ok (.iload_n 2, 1) := by decide +kernel
theorem dX10_areElisions_16 : decode cX10_areElisions 16 = .ok (.aload_n 0, 1) := by decide +kernel
theorem dX10_areElisions_17 : decode cX10_areElisions 17 = .ok (.getfield 60, 3) := by decide +kernel
theorem dX10_areElisions_20 : decode cX10_areElisions 20 = .ok (.if_icmp .ge 32, 3) := by decide +kernel
theorem dX10_areElisions_23 : decode cX10_areElisions 23 = .ok (.aload_n 0, 1) := by decide +kernel
theorem dX10_areElisions_24 : decode cX10_areElisions 24 = .ok (.getfield 69, 3) := by decide +kernel
theorem dX10_areElisions_27 : decode cX10_areElisions 27 = .ok (.iload_n 2, 1) := by decide +kernel
theorem dX10_areElisions_28 : decode cX10_areElisions 28 = .ok (.iaload, 1) := by decide +kernel
theorem dX10_areElisions_29 : decode cX10_areElisions 29 = .ok (.iconst 1, 1) := by decide +kernel
theorem dX10_areElisions_30 : decode cX10_areElisions 30 = .ok (.if_icmp .ne 16, 3) := by decide +kernel
theorem dX10_areElisions_33 : decode cX10_areElisions 33 = .ok (.iload_n 1, 1) := by decide +kernel
theorem dX10_areElisions_34 : decode cX10_areElisions 34 = .ok (.iload_n 2, 1) := by decide +kernel
theorem dX10_areElisions_35 : decode cX10_areElisions 35 = .ok (.iconst 1, 1) := by decide +kernel
theorem dX10_areElisions_36 : decode cX10_areElisions 36 = .ok (.isub, 1) := by decide +kernel
theorem dX10_areElisions_37 : decode cX10_areElisions 37 = .ok (.ishr, 1) := by decide +kernel
theorem dX10_areElisions_38 : decode cX10_areElisions 38 = .ok (.iconst 3, 1) := by decide +kernel
theorem dX10_areElisions_39 : decode cX10_areElisions 39 = .ok (.iand, 1) := by decide +kernel
theorem dX10_areElisions_40 : decode cX10_areElisions 40 = .ok (.iconst 3, 1) := by decide +kernel
theorem dX10_areElisions_41 : decode cX10_areElisions 41 = .ok (.if_icmp .ne 5, 3) := by decide +kernel
theorem dX10_areElisions_44 : decode cX10_areElisions 44 = .ok (.iconst 0, 1) := by decide +kernel
theorem dX10_areElisions_45 : decode cX10_areElisions 45 = .ok (.ireturn, 1) := by decide +kernel
theorem dX10_areElisions_46 : decode cX10_areElisions 46 = .ok (.iinc 2 1, 3) := by decide +kernel
theorem dX10_areElisions_49 : decode cX10_areElisions 49 = .ok (.goto (-34), 3) := by decide +kernel
theorem dX10_areElisions_52 : decode cX10_areElisions 52 = .ok (.iconst 1, 1) := by decide +kernel
theorem dX10_areElisions_53 : decode cX10_areElisions 53 = .ok (.ireturn, 1) := by decide +kernel
theorem dX10_mostElisions_0 : decode cX10_mostElisions 0 = .ok (.aload_n 0, 1) := by decide +kernel
theorem dX10_mostElisions_1 : decode cX10_mostElisions 1 = .ok (.invokevirtual 258, 3) := by decide +kernel
theorem dX10_mostElisions_4 : decode cX10_mostElisions 4 = .ok (.istore_n 1, 1) := by decide +kernel
theorem dX10_mostElisions_5 : decode cX10_mostElisions 5 = .ok (.iconst 0, 1) := by decide +kernel
theorem dX10_mostElisions_6 : decode cX10_mostElisions 6 = .ok (.istore_n 2, 1) := by decide +kernel
theorem dX10_mostElisions_7 : decode cX10_mostElisions 7 = .ok (.iload_n 1, 1) := by decide +kernel
theorem dX10_mostElisions_8 : decode cX10_mostElisions 8 = .ok (.istore_n 3, 1) := by decide +kernel
theorem dX10_mostElisions_9 : decode cX10_mostElisions 9 = .ok (.iload_n 3, 1) := by decide +kernel
theorem dX10_mostElisions_10 : decode cX10_mostElisions 10 = .ok (.ifCond .le 33, 3) := by decide +kernel
theorem dX10_mostElisions_13 : decode cX10_mostElisions 13 = .ok (.aload_n 0, 1) := by decide +kernel
theorem dX10_mostElisions_14 : decode cX10_mostElisions 14 = .ok (.iload_n 3, 1) := by decide +kernel
theorem dX10_mostElisions_15 : decode cX10_mostElisions 15 = .ok (.invokevirtual 261, 3) := by decide +kernel
theorem dX10_mostElisions_18 : decode cX10_mostElisions 18 = .ok (.ifCond .eq 14, 3) := by decide +kernel
theorem dX10_mostElisions_21 : decode cX10_mostElisions 21 = .ok (.iload_n 2, 1) := by decide +kernel
theorem dX10_mostElisions_22 : decode cX10_mostElisions 22 = .ok (.iload_n 3, 1) := by decide +kernel
theorem dX10_mostElisions_23 : decode cX10_mostElisions 23 = .ok (.invokestatic 264, 3) := by decide +kernel
theorem dX10_mostElisions_26 : decode cX10_mostElisions 26 = .ok (.invokestatic 267, 3) := by decide +kernel
theorem dX10_mostElisions_29 : decode cX10_mostElisions 29 = .ok (.goto 4, 3) := by decide +kernel
theorem dX10_mostElisions_32 : decode cX10_mostElisions 32 = .ok (.iload_n 2, 1) := by decide +kernel
theorem dX10_mostElisions_33 : decode cX10_mostElisions 33 = .ok (.istore_n 2, 1) := by decide +kernel
theorem dX10_mostElisions_34 : decode cX10_mostElisions 34 = .ok (.iload_n 3, 1) := by decide +kernel
theorem dX10_mostElisions_35 : decode cX10_mostElisions 35 = .ok (.iconst 1, 1) := by decide +kernel
theorem dX10_mostElisions_36 : decode cX10_mostElisions 36 = .ok (.isub, 1) := by decide +kernel
theorem dX10_mostElisions_37 : decode cX10_mostElisions 37 = .ok (.iload_n 1, 1) := by decide +kernel
theorem dX10_mostElisions_38 : decode cX10_mostElisions 38 = .ok (.iand, 1) := by decide +kernel
theorem dX10_mostElisions_39 : decode cX10_mostElisions 39 = .ok (.istore_n 3, 1) := by decide +kernel
theorem dX10_mostElisions_40 : decode cX10_mostElisions 40 = .ok (.goto (-31), 3) := by decide +kernel
theorem dX10_mostElisions_43 : decode cX10_mostElisions 43 = .ok (.iload_n 2, 1) := by decide +kernel
theorem dX10_mostElisions_44 : decode cX10_mostElisions 44 = .ok (.ireturn, 1) := by decide +kernel
theorem dX10_allSyllables_0 : decode cX10_allSyllables 0 = .ok (.iconst 0, 1) := by decide +kernel
theorem dX10_allSyllables_1 : decode cX10_allSyllables 1 = .ok (.istore_n 1, 1) := by decide +kernel
theorem dX10_allSyllables_2 : decode cX10_allSyllables 2 = .ok (.iconst 0, 1) := by decide +kernel
theorem dX10_allSyllables_3 : decode cX10_allSyllables 3 = .ok (.istore_n 2, 1) := by decide +kernel
theorem dX10_allSyllables_4 : decode cX10_allSyllables 4 = .ok (.iload_n 2, 1) := by decide +kernel
theorem dX10_allSyllables_5 : decode cX10_allSyllables 5 = .ok (.aload_n 0, 1) := by decide +kernel
theorem dX10_allSyllables_6 : decode cX10_allSyllables 6 = .ok (.getfield 60, 3) := by decide +kernel
theorem dX10_allSyllables_9 : decode cX10_allSyllables 9 = .ok (.if_icmp .ge 18, 3) := by decide +kernel
theorem dX10_allSyllables_12 : decode cX10_allSyllables 12 = .ok (.iload_n 1, 1) := by decide +kernel
theorem dX10_allSyllables_13 : decode cX10_allSyllables 13 = .ok (.aload_n 0, 1) := by decide +kernel
theorem dX10_allSyllables_14 : decode cX10_allSyllables 14 = .ok (.getfield 69, 3) := by decide +kernel
theorem dX10_allSyllables_17 : decode cX10_allSyllables 17 = .ok (.iload_n 2, 1) := by decide +kernel
theorem dX10_allSyllables_18 : decode cX10_allSyllables 18 = .ok (.iaload, 1) := by decide +kernel
theorem dX10_allSyllables_19 : decode cX10_allSyllables 19 = .ok (.iadd, 1) := by decide +kernel
theorem dX10_allSyllables_20 : decode cX10_allSyllables 20 = .ok (.istore_n 1, 1) := by decide +kernel
theorem dX10_allSyllables_21 : decode cX10_allSyllables 21 = .ok (.iinc 2 1, 3) := by decide +kernel
theorem dX10_allSyllables_24 : decode cX10_allSyllables 24 = .ok (.goto (-20), 3) := by decide +kernel
theorem dX10_allSyllables_27 : decode cX10_allSyllables 27 = .ok (.iload_n 1, 1) := by decide +kernel
theorem dX10_allSyllables_28 : decode cX10_allSyllables 28 = .ok (.ireturn, 1) := by decide +kernel
theorem dX10_by_0 : decode cX10_by 0 = .ok (.aload_n 0, 1) := by decide +kernel
theorem dX10_by_1 : decode cX10_by 1 = .ok (.iload_n 1, 1) := by decide +kernel
theorem dX10_by_2 : decode cX10_by 2 = .ok (.putfield 94, 3) := by decide +kernel
theorem dX10_by_5 : decode cX10_by 5 = .ok (.aload_n 0, 1) := by decide +kernel
theorem dX10_by_6 : decode cX10_by 6 = .ok (.iload_n 2, 1) := by decide +kernel
theorem dX10_by_7 : decode cX10_by 7 = .ok (.putfield 97, 3) := by decide +kernel
theorem dX10_by_10 : decode cX10_by 10 = .ok (.aload_n 0, 1) := by decide +kernel
theorem dX10_by_11 : decode cX10_by 11 = .ok (.iload_n 3, 1) := by decide +kernel
theorem dX10_by_12 : decode cX10_by 12 = .ok (.putfield 100, 3) := by decide +kernel
theorem dX10_by_15 : decode cX10_by 15 = .ok (.return_, 1) := by decide +kernel
theorem dX10_byNow_0 : decode cX10_byNow 0 = .ok (.aload_n 0, 1) := by decide +kernel
theorem dX10_byNow_1 : decode cX10_byNow 1 = .ok (.aload_n 0, 1) := by decide +kernel
theorem dX10_byNow_2 : decode cX10_byNow 2 = .ok (.getfield 13, 3) := by decide +kernel
theorem dX10_byNow_5 : decode cX10_byNow 5 = .ok (.iconst 0, 1) := by decide +kernel
theorem dX10_byNow_6 : decode cX10_byNow 6 = .ok (.iaload, 1) := by decide +kernel
theorem dX10_byNow_7 : decode cX10_byNow 7 = .ok (.aload_n 0, 1) := by decide +kernel
theorem dX10_byNow_8 : decode cX10_byNow 8 = .ok (.getfield 13, 3) := by decide +kernel
theorem dX10_byNow_11 : decode cX10_byNow 11 = .ok (.iconst 1, 1) := by decide +kernel
theorem dX10_byNow_12 : decode cX10_byNow 12 = .ok (.iaload, 1) := by decide +kernel
theorem dX10_byNow_13 : decode cX10_byNow 13 = .ok (.aload_n 0, 1) := by decide +kernel
theorem dX10_byNow_14 : decode cX10_byNow 14 = .ok (.getfield 13, 3) := by decide +kernel
theorem dX10_byNow_17 : decode cX10_byNow 17 = .ok (.iconst 2, 1) := by decide +kernel
theorem dX10_byNow_18 : decode cX10_byNow 18 = .ok (.iaload, 1) := by decide +kernel
theorem dX10_byNow_19 : decode cX10_byNow 19 = .ok (.invokevirtual 270, 3) := by decide +kernel
theorem dX10_byNow_22 : decode cX10_byNow 22 = .ok (.return_, 1) := by decide +kernel
theorem dX10_positions_0 : decode cX10_positions 0 = .ok (.aload_n 0, 1) := by decide +kernel
theorem dX10_positions_1 : decode cX10_positions 1 = .ok (.getfield 97, 3) := by decide +kernel
theorem dX10_positions_4 : decode cX10_positions 4 = .ok (.aload_n 0, 1) := by decide +kernel
theorem dX10_positions_5 : decode cX10_positions 5 = .ok (.getfield 94, 3) := by decide +kernel
theorem dX10_positions_8 : decode cX10_positions 8 = .ok (.invokestatic 205, 3) := by decide +kernel
theorem dX10_positions_11 : decode cX10_positions 11 = .ok (.imul, 1) := by decide +kernel
theorem dX10_positions_12 : decode cX10_positions 12 = .ok (.ireturn, 1) := by decide +kernel
theorem dX10_isStrong_0 : decode cX10_isStrong 0 = .ok (.iload_n 1, 1) := by decide +kernel
theorem dX10_isStrong_1 : decode cX10_isStrong 1 = .ok (.aload_n 0, 1) := by decide +kernel
theorem dX10_isStrong_2 : decode cX10_isStrong 2 = .ok (.getfield 94, 3) := by decide +kernel
theorem dX10_isStrong_5 : decode cX10_isStrong 5 = .ok (.invokestatic 205, 3) := by decide +kernel
theorem dX10_isStrong_8 : decode cX10_isStrong 8 = .ok (.irem, 1) := by decide +kernel
theorem dX10_isStrong_9 : decode cX10_isStrong 9 = .ok (.istore_n 3, 1) := by decide +kernel
theorem dX10_isStrong_10 : decode cX10_isStrong 10 = .ok (.iload_n 1, 1) := by decide +kernel
theorem dX10_isStrong_11 : decode cX10_isStrong 11 = .ok (.aload_n 0, 1) := by decide +kernel
theorem dX10_isStrong_12 : decode cX10_isStrong 12 = .ok (.getfield 94, 3) := by decide +kernel
theorem dX10_isStrong_15 : decode cX10_isStrong 15 = .ok (.invokestatic 205, 3) := by decide +kernel
theorem dX10_isStrong_18 : decode cX10_isStrong 18 = .ok (.if_icmp .ge 21, 3) := by decide +kernel
theorem dX10_isStrong_21 : decode cX10_isStrong 21 = .ok (.iload_n 2, 1) := by decide +kernel
theorem dX10_isStrong_22 : decode cX10_isStrong 22 = .ok (.ifCond .eq 17, 3) := by decide +kernel
theorem dX10_isStrong_25 : decode cX10_isStrong 25 = .ok (.aload_n 0, 1) := by decide +kernel
theorem dX10_isStrong_26 : decode cX10_isStrong 26 = .ok (.getfield 94, 3) := by decide +kernel
theorem dX10_isStrong_29 : decode cX10_isStrong 29 = .ok (.invokestatic 205, 3) := by decide +kernel
theorem dX10_isStrong_32 : decode cX10_isStrong 32 = .ok (.iconst 1, 1) := by decide +kernel
theorem dX10_isStrong_33 : decode cX10_isStrong 33 = .ok (.isub, 1) := by decide +kernel
theorem dX10_isStrong_34 : decode cX10_isStrong 34 = .ok (.iload_n 3, 1) := by decide +kernel
theorem dX10_isStrong_35 : decode cX10_isStrong 35 = .ok (.isub, 1) := by decide +kernel
theorem dX10_isStrong_36 : decode cX10_isStrong 36 = .ok (.goto 4, 3) := by decide +kernel
theorem dX10_isStrong_39 : decode cX10_isStrong 39 = .ok (.iload_n 3, 1) := by decide +kernel
theorem dX10_isStrong_40 : decode cX10_isStrong 40 = .ok (.aload_n 0, 1) := by decide +kernel
theorem dX10_isStrong_41 : decode cX10_isStrong 41 = .ok (.getfield 94, 3) := by decide +kernel
theorem dX10_isStrong_44 : decode cX10_isStrong 44 = .ok (.invokestatic 208, 3) := by decide +kernel
theorem dX10_isStrong_47 : decode cX10_isStrong 47 = .ok (.if_icmp .ne 7, 3) := by decide +kernel
theorem dX10_isStrong_50 : decode cX10_isStrong 50 = .ok (.iconst 1, 1) := by decide +kernel
theorem dX10_isStrong_51 : decode cX10_isStrong 51 = .ok (.goto 4, 3) := by decide +kernel
theorem dX10_isStrong_54 : decode cX10_isStrong 54 = .ok (.iconst 0, 1) := by decide +kernel
theorem dX10_isStrong_55 : decode cX10_isStrong 55 = .ok (.ireturn, 1) := by decide +kernel
theorem dX10_laysSounds_0 : decode cX10_laysSounds 0 = .ok (.aload_n 0, 1) := by decide +kernel
theorem dX10_laysSounds_1 : decode cX10_laysSounds 1 = .ok (.iconst 0, 1) := by decide +kernel
theorem dX10_laysSounds_2 : decode cX10_laysSounds 2 = .ok (.putfield 103, 3) := by decide +kernel
theorem dX10_laysSounds_5 : decode cX10_laysSounds 5 = .ok (.iconst 0, 1) := by decide +kernel
theorem dX10_laysSounds_6 : decode cX10_laysSounds 6 = .ok (.istore_n 2, 1) := by decide +kernel
theorem dX10_laysSounds_7 : decode cX10_laysSounds 7 = .ok (.iload_n 2, 1) := by decide +kernel
theorem dX10_laysSounds_8 : decode cX10_laysSounds 8 = .ok (.aload_n 0, 1) := by decide +kernel
theorem dX10_laysSounds_9 : decode cX10_laysSounds 9 = .ok (.getfield 60, 3) := by decide +kernel
theorem dX10_laysSounds_12 : decode cX10_laysSounds 12 = .ok (.if_icmp .ge 173, 3) := by decide +kernel
theorem dX10_laysSounds_15 : decode cX10_laysSounds 15 = .ok (.iconst 0, 1) := by decide +kernel
theorem dX10_laysSounds_16 : decode cX10_laysSounds 16 = .ok (.istore_n 3, 1) := by decide +kernel
theorem dX10_laysSounds_17 : decode cX10_laysSounds 17 = .ok (.iload_n 3, 1) := by decide +kernel
theorem dX10_laysSounds_18 : decode cX10_laysSounds 18 = .ok (.aload_n 0, 1) := by decide +kernel
theorem dX10_laysSounds_19 : decode cX10_laysSounds 19 = .ok (.getfield 69, 3) := by decide +kernel
theorem dX10_laysSounds_22 : decode cX10_laysSounds 22 = .ok (.iload_n 2, 1) := by decide +kernel
theorem dX10_laysSounds_23 : decode cX10_laysSounds 23 = .ok (.iaload, 1) := by decide +kernel
theorem dX10_laysSounds_24 : decode cX10_laysSounds 24 = .ok (.if_icmp .ge 155, 3) := by decide +kernel
theorem dX10_laysSounds_27 : decode cX10_laysSounds 27 = .ok (.aload_n 0, 1) := by decide +kernel
theorem dX10_laysSounds_28 : decode cX10_laysSounds 28 = .ok (.getfield 72, 3) := by decide +kernel
theorem dX10_laysSounds_31 : decode cX10_laysSounds 31 = .ok (.bipush 12, 2) := by decide +kernel
theorem dX10_laysSounds_33 : decode cX10_laysSounds 33 = .ok (.iload_n 2, 1) := by decide +kernel
theorem dX10_laysSounds_34 : decode cX10_laysSounds 34 = .ok (.imul, 1) := by decide +kernel
theorem dX10_laysSounds_35 : decode cX10_laysSounds 35 = .ok (.iload_n 3, 1) := by decide +kernel
theorem dX10_laysSounds_36 : decode cX10_laysSounds 36 = .ok (.iadd, 1) := by decide +kernel
theorem dX10_laysSounds_37 : decode cX10_laysSounds 37 = .ok (.iaload, 1) := by decide +kernel
theorem dX10_laysSounds_38 : decode cX10_laysSounds 38 = .ok (.istore 4, 2) := by decide +kernel
theorem dX10_laysSounds_40 : decode cX10_laysSounds 40 = .ok (.iload_n 3, 1) := by decide +kernel
theorem dX10_laysSounds_41 : decode cX10_laysSounds 41 = .ok (.ifCond .ne 60, 3) := by decide +kernel
theorem dX10_laysSounds_44 : decode cX10_laysSounds 44 = .ok (.iload_n 2, 1) := by decide +kernel
theorem dX10_laysSounds_45 : decode cX10_laysSounds 45 = .ok (.ifCond .le 56, 3) := by decide +kernel
theorem dX10_laysSounds_48 : decode cX10_laysSounds 48 = .ok (.iload_n 1, 1) := by decide +kernel
theorem dX10_laysSounds_49 : decode cX10_laysSounds 49 = .ok (.iload_n 2, 1) := by decide +kernel
theorem dX10_laysSounds_50 : decode cX10_laysSounds 50 = .ok (.iconst 1, 1) := by decide +kernel
theorem dX10_laysSounds_51 : decode cX10_laysSounds 51 = .ok (.isub, 1) := by decide +kernel
theorem dX10_laysSounds_52 : decode cX10_laysSounds 52 = .ok (.ishr, 1) := by decide +kernel
theorem dX10_laysSounds_53 : decode cX10_laysSounds 53 = .ok (.iconst 1, 1) := by decide +kernel
theorem dX10_laysSounds_54 : decode cX10_laysSounds 54 = .ok (.iand, 1) := by decide +kernel
theorem dX10_laysSounds_55 : decode cX10_laysSounds 55 = .ok (.iconst 1, 1) := by decide +kernel
theorem dX10_laysSounds_56 : decode cX10_laysSounds 56 = .ok (.if_icmp .ne 45, 3) := by decide +kernel
theorem dX10_laysSounds_59 : decode cX10_laysSounds 59 = .ok (.aload_n 0, 1) := by decide +kernel
theorem dX10_laysSounds_60 : decode cX10_laysSounds 60 = .ok (.getfield 106, 3) := by decide +kernel
theorem dX10_laysSounds_63 : decode cX10_laysSounds 63 = .ok (.aload_n 0, 1) := by decide +kernel
theorem dX10_laysSounds_64 : decode cX10_laysSounds 64 = .ok (.getfield 103, 3) := by decide +kernel
theorem dX10_laysSounds_67 : decode cX10_laysSounds 67 = .ok (.iconst 1, 1) := by decide +kernel
theorem dX10_laysSounds_68 : decode cX10_laysSounds 68 = .ok (.isub, 1) := by decide +kernel
theorem dX10_laysSounds_69 : decode cX10_laysSounds 69 = .ok (.aload_n 0, 1) := by decide +kernel
theorem dX10_laysSounds_70 : decode cX10_laysSounds 70 = .ok (.getfield 106, 3) := by decide +kernel
theorem dX10_laysSounds_73 : decode cX10_laysSounds 73 = .ok (.aload_n 0, 1) := by decide +kernel
theorem dX10_laysSounds_74 : decode cX10_laysSounds 74 = .ok (.getfield 103, 3) := by decide +kernel
theorem dX10_laysSounds_77 : decode cX10_laysSounds 77 = .ok (.iconst 1, 1) := by decide +kernel
theorem dX10_laysSounds_78 : decode cX10_laysSounds 78 = .ok (.isub, 1) := by decide +kernel
theorem dX10_laysSounds_79 : decode cX10_laysSounds 79 = .ok (.iaload, 1) := by decide +kernel
theorem dX10_laysSounds_80 : decode cX10_laysSounds 80 = .ok (.iload 4, 2) := by decide +kernel
theorem dX10_laysSounds_82 : decode cX10_laysSounds 82 = .ok (.invokestatic 267, 3) := by decide +kernel
theorem dX10_laysSounds_85 : decode cX10_laysSounds 85 = .ok (.iastore, 1) := by decide +kernel
theorem dX10_laysSounds_86 : decode cX10_laysSounds 86 = .ok (.aload_n 0, 1) := by decide +kernel
theorem dX10_laysSounds_87 : decode cX10_laysSounds 87 = .ok (.getfield 109, 3) := by decide +kernel
theorem dX10_laysSounds_90 : decode cX10_laysSounds 90 = .ok (.aload_n 0, 1) := by decide +kernel
theorem dX10_laysSounds_91 : decode cX10_laysSounds 91 = .ok (.getfield 103, 3) := by decide +kernel
theorem dX10_laysSounds_94 : decode cX10_laysSounds 94 = .ok (.iconst 1, 1) := by decide +kernel
theorem dX10_laysSounds_95 : decode cX10_laysSounds 95 = .ok (.isub, 1) := by decide +kernel
theorem dX10_laysSounds_96 : decode cX10_laysSounds 96 = .ok (.iconst 0, 1) := by decide +kernel
theorem dX10_laysSounds_97 : decode cX10_laysSounds 97 = .ok (.bastore, 1) := by decide +kernel
theorem dX10_laysSounds_98 : decode cX10_laysSounds 98 = .ok (.goto 75, 3) := by decide +kernel
theorem dX10_laysSounds_101 : decode cX10_laysSounds 101 = .ok (.aload_n 0, 1) := by decide +kernel
theorem dX10_laysSounds_102 : decode cX10_laysSounds 102 = .ok (.getfield 106, 3) := by decide +kernel
theorem dX10_laysSounds_105 : decode cX10_laysSounds 105 = .ok (.aload_n 0, 1) := by decide +kernel
theorem dX10_laysSounds_106 : decode cX10_laysSounds 106 = .ok (.getfield 103, 3) := by decide +kernel
theorem dX10_laysSounds_109 : decode cX10_laysSounds 109 = .ok (.iload 4, 2) := by decide +kernel
theorem dX10_laysSounds_111 : decode cX10_laysSounds 111 = .ok (.iastore, 1) := by decide +kernel
theorem dX10_laysSounds_112 : decode cX10_laysSounds 112 = .ok (.aload_n 0, 1) := by decide +kernel
theorem dX10_laysSounds_113 : decode cX10_laysSounds 113 = .ok (.getfield 109, 3) := by decide +kernel
theorem dX10_laysSounds_116 : decode cX10_laysSounds 116 = .ok (.aload_n 0, 1) := by decide +kernel
theorem dX10_laysSounds_117 : decode cX10_laysSounds 117 = .ok (.getfield 103, 3) := by decide +kernel
theorem dX10_laysSounds_120 : decode cX10_laysSounds 120 = .ok (.iload_n 3, 1) := by decide +kernel
theorem dX10_laysSounds_121 : decode cX10_laysSounds 121 = .ok (.ifCond .ne 7, 3) := by decide +kernel
theorem dX10_laysSounds_124 : decode cX10_laysSounds 124 = .ok (.iconst 1, 1) := by decide +kernel
theorem dX10_laysSounds_125 : decode cX10_laysSounds 125 = .ok (.goto 4, 3) := by decide +kernel
theorem dX10_laysSounds_128 : decode cX10_laysSounds 128 = .ok (.iconst 0, 1) := by decide +kernel
theorem dX10_laysSounds_129 : decode cX10_laysSounds 129 = .ok (.bastore, 1) := by decide +kernel
theorem dX10_laysSounds_130 : decode cX10_laysSounds 130 = .ok (.aload_n 0, 1) := by decide +kernel
theorem dX10_laysSounds_131 : decode cX10_laysSounds 131 = .ok (.getfield 112, 3) := by decide +kernel
theorem dX10_laysSounds_134 : decode cX10_laysSounds 134 = .ok (.aload_n 0, 1) := by decide +kernel
theorem dX10_laysSounds_135 : decode cX10_laysSounds 135 = .ok (.getfield 103, 3) := by decide +kernel
theorem dX10_laysSounds_138 : decode cX10_laysSounds 138 = .ok (.iload_n 3, 1) := by decide +kernel
theorem dX10_laysSounds_139 : decode cX10_laysSounds 139 = .ok (.ifCond .ne 22, 3) := by decide +kernel
theorem dX10_laysSounds_142 : decode cX10_laysSounds 142 = .ok (.iload_n 2, 1) := by decide +kernel
theorem dX10_laysSounds_143 : decode cX10_laysSounds 143 = .ok (.ifCond .le 18, 3) := by decide +kernel
theorem dX10_laysSounds_146 : decode cX10_laysSounds 146 = .ok (.aload_n 0, 1) := by decide +kernel
theorem dX10_laysSounds_147 : decode cX10_laysSounds 147 = .ok (.getfield 75, 3) := by decide +kernel
theorem dX10_laysSounds_150 : decode cX10_laysSounds 150 = .ok (.iload_n 2, 1) := by decide +kernel
theorem dX10_laysSounds_151 : decode cX10_laysSounds 151 = .ok (.iconst 1, 1) := by decide +kernel
theorem dX10_laysSounds_152 : decode cX10_laysSounds 152 = .ok (.isub, 1) := by decide +kernel
theorem dX10_laysSounds_153 : decode cX10_laysSounds 153 = .ok (.baload, 1) := by decide +kernel
theorem dX10_laysSounds_154 : decode cX10_laysSounds 154 = .ok (.ifCond .eq 7, 3) := by decide +kernel
theorem dX10_laysSounds_157 : decode cX10_laysSounds 157 = .ok (.iconst 1, 1) := by decide +kernel
theorem dX10_laysSounds_158 : decode cX10_laysSounds 158 = .ok (.goto 4, 3) := by decide +kernel
theorem dX10_laysSounds_161 : decode cX10_laysSounds 161 = .ok (.iconst 0, 1) := by decide +kernel
theorem dX10_laysSounds_162 : decode cX10_laysSounds 162 = .ok (.bastore, 1) := by decide +kernel
theorem dX10_laysSounds_163 : decode cX10_laysSounds 163 = .ok (.aload_n 0, 1) := by decide +kernel
theorem dX10_laysSounds_164 : decode cX10_laysSounds 164 = .ok (.dup, 1) := by decide +kernel
theorem dX10_laysSounds_165 : decode cX10_laysSounds 165 = .ok (.getfield 103, 3) := by decide +kernel
theorem dX10_laysSounds_168 : decode cX10_laysSounds 168 = .ok (.iconst 1, 1) := by decide +kernel
theorem dX10_laysSounds_169 : decode cX10_laysSounds 169 = .ok (.iadd, 1) := by decide +kernel
theorem dX10_laysSounds_170 : decode cX10_laysSounds 170 = .ok (.putfield 103, 3) := by decide +kernel
theorem dX10_laysSounds_173 : decode cX10_laysSounds 173 = .ok (.iinc 3 1, 3) := by decide +kernel
theorem dX10_laysSounds_176 : decode cX10_laysSounds 176 = .ok (.goto (-159), 3) := by decide +kernel
theorem dX10_laysSounds_179 : decode cX10_laysSounds 179 = .ok (.iinc 2 1, 3) := by decide +kernel
theorem dX10_laysSounds_182 : decode cX10_laysSounds 182 = .ok (.goto (-175), 3) := by decide +kernel
theorem dX10_laysSounds_185 : decode cX10_laysSounds 185 = .ok (.return_, 1) := by decide +kernel
theorem dX10_penalty_0 : decode cX10_penalty 0 = .ok (.aload_n 0, 1) := by decide +kernel
theorem dX10_penalty_1 : decode cX10_penalty 1 = .ok (.iload_n 1, 1) := by decide +kernel
theorem dX10_penalty_2 : decode cX10_penalty 2 = .ok (.iload_n 2, 1) := by decide +kernel
theorem dX10_penalty_3 : decode cX10_penalty 3 = .ok (.invokevirtual 273, 3) := by decide +kernel
theorem dX10_penalty_6 : decode cX10_penalty 6 = .ok (.istore_n 3, 1) := by decide +kernel
theorem dX10_penalty_7 : decode cX10_penalty 7 = .ok (.iload_n 3, 1) := by decide +kernel
theorem dX10_penalty_8 : decode cX10_penalty 8 = .ok (.ifCond .ne 17, 3) := by decide +kernel
theorem dX10_penalty_11 : decode cX10_penalty 11 = .ok (.aload_n 0, 1) := by decide +kernel
theorem dX10_penalty_12 : decode cX10_penalty 12 = .ok (.getfield 106, 3) := by decide +kernel
theorem dX10_penalty_15 : decode cX10_penalty 15 = .ok (.iload_n 1, 1) := by decide +kernel
theorem dX10_penalty_16 : decode cX10_penalty 16 = .ok (.iaload, 1) := by decide +kernel
theorem dX10_penalty_17 : decode cX10_penalty 17 = .ok (.iconst 2, 1) := by decide +kernel
theorem dX10_penalty_18 : decode cX10_penalty 18 = .ok (.if_icmp .ne 7, 3) := by decide +kernel
theorem dX10_penalty_21 : decode cX10_penalty 21 = .ok (.iconst 3, 1) := by decide +kernel
theorem dX10_penalty_22 : decode cX10_penalty 22 = .ok (.goto 21, 3) := by decide +kernel
theorem dX10_penalty_25 : decode cX10_penalty 25 = .ok (.iload_n 3, 1) := by decide +kernel
theorem dX10_penalty_26 : decode cX10_penalty 26 = .ok (.ifCond .eq 16, 3) := by decide +kernel
theorem dX10_penalty_29 : decode cX10_penalty 29 = .ok (.aload_n 0, 1) := by decide +kernel
theorem dX10_penalty_30 : decode cX10_penalty 30 = .ok (.getfield 106, 3) := by decide +kernel
theorem dX10_penalty_33 : decode cX10_penalty 33 = .ok (.iload_n 1, 1) := by decide +kernel
theorem dX10_penalty_34 : decode cX10_penalty 34 = .ok (.iaload, 1) := by decide +kernel
theorem dX10_penalty_35 : decode cX10_penalty 35 = .ok (.ifCond .ne 7, 3) := by decide +kernel
theorem dX10_penalty_38 : decode cX10_penalty 38 = .ok (.iconst 4, 1) := by decide +kernel
theorem dX10_penalty_39 : decode cX10_penalty 39 = .ok (.goto 4, 3) := by decide +kernel
theorem dX10_penalty_42 : decode cX10_penalty 42 = .ok (.iconst 0, 1) := by decide +kernel
theorem dX10_penalty_43 : decode cX10_penalty 43 = .ok (.ireturn, 1) := by decide +kernel
theorem dX10_costOf_0 : decode cX10_costOf 0 = .ok (.aload_n 0, 1) := by decide +kernel
theorem dX10_costOf_1 : decode cX10_costOf 1 = .ok (.invokevirtual 277, 3) := by decide +kernel
theorem dX10_costOf_4 : decode cX10_costOf 4 = .ok (.istore_n 3, 1) := by decide +kernel
theorem dX10_costOf_5 : decode cX10_costOf 5 = .ok (.aload_n 0, 1) := by decide +kernel
theorem dX10_costOf_6 : decode cX10_costOf 6 = .ok (.getfield 103, 3) := by decide +kernel
theorem dX10_costOf_9 : decode cX10_costOf 9 = .ok (.iload_n 3, 1) := by decide +kernel
theorem dX10_costOf_10 : decode cX10_costOf 10 = .ok (.iconst 1, 1) := by decide +kernel
theorem dX10_costOf_11 : decode cX10_costOf 11 = .ok (.isub, 1) := by decide +kernel
theorem dX10_costOf_12 : decode cX10_costOf 12 = .ok (.iload_n 3, 1) := by decide +kernel
theorem dX10_costOf_13 : decode cX10_costOf 13 = .ok (.iconst 1, 1) := by decide +kernel
theorem dX10_costOf_14 : decode cX10_costOf 14 = .ok (.iadd, 1) := by decide +kernel
theorem dX10_costOf_15 : decode cX10_costOf 15 = .ok (.invokestatic 158, 3) := by decide +kernel
theorem dX10_costOf_18 : decode cX10_costOf 18 = .ok (.ifCond .ne 5, 3) := by decide +kernel
theorem dX10_costOf_21 : decode cX10_costOf 21 = .ok (.iconst (-1), 1) := by decide +kernel
theorem dX10_costOf_22 : decode cX10_costOf 22 = .ok (.ireturn, 1) := by decide +kernel
theorem dX10_costOf_23 : decode cX10_costOf 23 = .ok (.aload_n 0, 1) := by decide +kernel
theorem dX10_costOf_24 : decode cX10_costOf 24 = .ok (.getfield 103, 3) := by decide +kernel
theorem dX10_costOf_27 : decode cX10_costOf 27 = .ok (.iload_n 3, 1) := by decide +kernel
theorem dX10_costOf_28 : decode cX10_costOf 28 = .ok (.iconst 1, 1) := by decide +kernel
theorem dX10_costOf_29 : decode cX10_costOf 29 = .ok (.iadd, 1) := by decide +kernel
theorem dX10_costOf_30 : decode cX10_costOf 30 = .ok (.if_icmp .ne 13, 3) := by decide +kernel
theorem dX10_costOf_33 : decode cX10_costOf 33 = .ok (.aload_n 0, 1) := by decide +kernel
theorem dX10_costOf_34 : decode cX10_costOf 34 = .ok (.getfield 106, 3) := by decide +kernel
theorem dX10_costOf_37 : decode cX10_costOf 37 = .ok (.iload_n 3, 1) := by decide +kernel
theorem dX10_costOf_38 : decode cX10_costOf 38 = .ok (.iaload, 1) := by decide +kernel
theorem dX10_costOf_39 : decode cX10_costOf 39 = .ok (.iconst 2, 1) := by decide +kernel
theorem dX10_costOf_40 : decode cX10_costOf 40 = .ok (.if_icmp .eq 24, 3) := by decide +kernel
theorem dX10_costOf_43 : decode cX10_costOf 43 = .ok (.aload_n 0, 1) := by decide +kernel
theorem dX10_costOf_44 : decode cX10_costOf 44 = .ok (.getfield 103, 3) := by decide +kernel
theorem dX10_costOf_47 : decode cX10_costOf 47 = .ok (.iload_n 3, 1) := by decide +kernel
theorem dX10_costOf_48 : decode cX10_costOf 48 = .ok (.iconst 1, 1) := by decide +kernel
theorem dX10_costOf_49 : decode cX10_costOf 49 = .ok (.isub, 1) := by decide +kernel
theorem dX10_costOf_50 : decode cX10_costOf 50 = .ok (.if_icmp .ne 16, 3) := by decide +kernel
theorem dX10_costOf_53 : decode cX10_costOf 53 = .ok (.aload_n 0, 1) := by decide +kernel
theorem dX10_costOf_54 : decode cX10_costOf 54 = .ok (.iload_n 3, 1) := by decide +kernel
theorem dX10_costOf_55 : decode cX10_costOf 55 = .ok (.iconst 1, 1) := by decide +kernel
theorem dX10_costOf_56 : decode cX10_costOf 56 = .ok (.isub, 1) := by decide +kernel
theorem dX10_costOf_57 : decode cX10_costOf 57 = .ok (.iload_n 2, 1) := by decide +kernel
theorem dX10_costOf_58 : decode cX10_costOf 58 = .ok (.invokevirtual 273, 3) := by decide +kernel
theorem dX10_costOf_61 : decode cX10_costOf 61 = .ok (.ifCond .eq 5, 3) := by decide +kernel
theorem dX10_costOf_64 : decode cX10_costOf 64 = .ok (.iconst (-1), 1) := by decide +kernel
theorem dX10_costOf_65 : decode cX10_costOf 65 = .ok (.ireturn, 1) := by decide +kernel
theorem dX10_costOf_66 : decode cX10_costOf 66 = .ok (.aload_n 0, 1) := by decide +kernel
theorem dX10_costOf_67 : decode cX10_costOf 67 = .ok (.getfield 100, 3) := by decide +kernel
theorem dX10_costOf_70 : decode cX10_costOf 70 = .ok (.aload_n 0, 1) := by decide +kernel
theorem dX10_costOf_71 : decode cX10_costOf 71 = .ok (.getfield 94, 3) := by decide +kernel
theorem dX10_costOf_74 : decode cX10_costOf 74 = .ok (.invokestatic 205, 3) := by decide +kernel
theorem dX10_costOf_77 : decode cX10_costOf 77 = .ok (.imul, 1) := by decide +kernel
theorem dX10_costOf_78 : decode cX10_costOf 78 = .ok (.istore 4, 2) := by decide +kernel
theorem dX10_costOf_80 : decode cX10_costOf 80 = .ok (.aload_n 0, 1) := by decide +kernel
theorem dX10_costOf_81 : decode cX10_costOf 81 = .ok (.getfield 100, 3) := by decide +kernel
theorem dX10_costOf_84 : decode cX10_costOf 84 = .ok (.ifCond .le 15, 3) := by decide +kernel
theorem dX10_costOf_87 : decode cX10_costOf 87 = .ok (.aload_n 0, 1) := by decide +kernel
theorem dX10_costOf_88 : decode cX10_costOf 88 = .ok (.getfield 109, 3) := by decide +kernel
theorem dX10_costOf_91 : decode cX10_costOf 91 = .ok (.iload 4, 2) := by decide +kernel
theorem dX10_costOf_93 : decode cX10_costOf 93 = .ok (.baload, 1) := by decide +kernel
theorem dX10_costOf_94 : decode cX10_costOf 94 = .ok (.ifCond .ne 5, 3) := by decide +kernel
theorem dX10_costOf_97 : decode cX10_costOf 97 = .ok (.iconst (-1), 1) := by decide +kernel
theorem dX10_costOf_98 : decode cX10_costOf 98 = .ok (.ireturn, 1) := by decide +kernel
theorem dX10_costOf_99 : decode cX10_costOf 99 = .ok (.iconst 2, 1) := by decide +kernel
theorem dX10_costOf_100 : decode cX10_costOf 100 = .ok (.iload_n 1, 1) := by decide +kernel
theorem dX10_costOf_101 : decode cX10_costOf 101 = .ok (.invokestatic 264, 3) := by decide +kernel
theorem dX10_costOf_104 : decode cX10_costOf 104 = .ok (.imul, 1) := by decide +kernel
theorem dX10_costOf_105 : decode cX10_costOf 105 = .ok (.iload_n 2, 1) := by decide +kernel
theorem dX10_costOf_106 : decode cX10_costOf 106 = .ok (.ifCond .eq 7, 3) := by decide +kernel
theorem dX10_costOf_109 : decode cX10_costOf 109 = .ok (.iconst 2, 1) := by decide +kernel
theorem dX10_costOf_110 : decode cX10_costOf 110 = .ok (.goto 4, 3) := by decide +kernel
theorem dX10_costOf_113 : decode cX10_costOf 113 = .ok (.iconst 0, 1) := by decide +kernel
theorem dX10_costOf_114 : decode cX10_costOf 114 = .ok (.iadd, 1) := by decide +kernel
theorem dX10_costOf_115 : decode cX10_costOf 115 = .ok (.aload_n 0, 1) := by decide +kernel
theorem dX10_costOf_116 : decode cX10_costOf 116 = .ok (.getfield 103, 3) := by decide +kernel
theorem dX10_costOf_119 : decode cX10_costOf 119 = .ok (.iload_n 3, 1) := by decide +kernel
theorem dX10_costOf_120 : decode cX10_costOf 120 = .ok (.if_icmp .ne 7, 3) := by decide +kernel
theorem dX10_costOf_123 : decode cX10_costOf 123 = .ok (.iconst 0, 1) := by decide +kernel
theorem dX10_costOf_124 : decode cX10_costOf 124 = .ok (.goto 4, 3) := by decide +kernel
theorem dX10_costOf_127 : decode cX10_costOf 127 = .ok (.iconst 1, 1) := by decide +kernel
theorem dX10_costOf_128 : decode cX10_costOf 128 = .ok (.iadd, 1) := by decide +kernel
theorem dX10_costOf_129 : decode cX10_costOf 129 = .ok (.aload_n 0, 1) := by decide +kernel
theorem dX10_costOf_130 : decode cX10_costOf 130 = .ok (.getfield 100, 3) := by decide +kernel
theorem dX10_costOf_133 : decode cX10_costOf 133 = .ok (.ifCond .le 17, 3) := by decide +kernel
theorem dX10_costOf_136 : decode cX10_costOf 136 = .ok (.aload_n 0, 1) := by decide +kernel
theorem dX10_costOf_137 : decode cX10_costOf 137 = .ok (.getfield 112, 3) := by decide +kernel
theorem dX10_costOf_140 : decode cX10_costOf 140 = .ok (.iload 4, 2) := by decide +kernel
theorem dX10_costOf_142 : decode cX10_costOf 142 = .ok (.baload, 1) := by decide +kernel
theorem dX10_costOf_143 : decode cX10_costOf 143 = .ok (.ifCond .ne 7, 3) := by decide +kernel
theorem dX10_costOf_146 : decode cX10_costOf 146 = .ok (.iconst 1, 1) := by decide +kernel
theorem dX10_costOf_147 : decode cX10_costOf 147 = .ok (.goto 4, 3) := by decide +kernel
theorem dX10_costOf_150 : decode cX10_costOf 150 = .ok (.iconst 0, 1) := by decide +kernel
theorem dX10_costOf_151 : decode cX10_costOf 151 = .ok (.iadd, 1) := by decide +kernel
theorem dX10_costOf_152 : decode cX10_costOf 152 = .ok (.istore 5, 2) := by decide +kernel
theorem dX10_costOf_154 : decode cX10_costOf 154 = .ok (.iconst 0, 1) := by decide +kernel
theorem dX10_costOf_155 : decode cX10_costOf 155 = .ok (.istore 6, 2) := by decide +kernel
theorem dX10_costOf_157 : decode cX10_costOf 157 = .ok (.iload 6, 2) := by decide +kernel
theorem dX10_costOf_159 : decode cX10_costOf 159 = .ok (.iload_n 3, 1) := by decide +kernel
theorem dX10_costOf_160 : decode cX10_costOf 160 = .ok (.if_icmp .ge 30, 3) := by decide +kernel
theorem dX10_costOf_163 : decode cX10_costOf 163 = .ok (.iload 6, 2) := by decide +kernel
theorem dX10_costOf_165 : decode cX10_costOf 165 = .ok (.aload_n 0, 1) := by decide +kernel
theorem dX10_costOf_166 : decode cX10_costOf 166 = .ok (.getfield 103, 3) := by decide +kernel
theorem dX10_costOf_169 : decode cX10_costOf 169 = .ok (.if_icmp .ge 21, 3) := by decide +kernel
theorem dX10_costOf_172 : decode cX10_costOf 172 = .ok (.iload 5, 2) := by decide +kernel
theorem dX10_costOf_174 : decode cX10_costOf 174 = .ok (.aload_n 0, 1) := by decide +kernel
theorem dX10_costOf_175 : decode cX10_costOf 175 = .ok (.iload 6, 2) := by decide +kernel
theorem dX10_costOf_177 : decode cX10_costOf 177 = .ok (.iload_n 2, 1) := by decide +kernel
theorem dX10_costOf_178 : decode cX10_costOf 178 = .ok (.invokevirtual 280, 3) := by decide +kernel
theorem dX10_costOf_181 : decode cX10_costOf 181 = .ok (.iadd, 1) := by decide +kernel
theorem dX10_costOf_182 : decode cX10_costOf 182 = .ok (.istore 5, 2) := by decide +kernel
theorem dX10_costOf_184 : decode cX10_costOf 184 = .ok (.iinc 6 1, 3) := by decide +kernel
theorem dX10_costOf_187 : decode cX10_costOf 187 = .ok (.goto (-30), 3) := by decide +kernel
theorem dX10_costOf_190 : decode cX10_costOf 190 = .ok (.iload 5, 2) := by decide +kernel
theorem dX10_costOf_192 : decode cX10_costOf 192 = .ok (.ireturn, 1) := by decide +kernel
theorem dX10_tries_0 : decode cX10_tries 0 = .ok (.aload_n 0, 1) := by decide +kernel
theorem dX10_tries_1 : decode cX10_tries 1 = .ok (.iload_n 1, 1) := by decide +kernel
theorem dX10_tries_2 : decode cX10_tries 2 = .ok (.iload_n 2, 1) := by decide +kernel
theorem dX10_tries_3 : decode cX10_tries 3 = .ok (.invokevirtual 284, 3) := by decide +kernel
theorem dX10_tries_6 : decode cX10_tries 6 = .ok (.istore_n 3, 1) := by decide +kernel
theorem dX10_tries_7 : decode cX10_tries 7 = .ok (.iload_n 3, 1) := by decide +kernel
theorem dX10_tries_8 : decode cX10_tries 8 = .ok (.ifCond .ge 4, 3) := by decide +kernel
theorem dX10_tries_11 : decode cX10_tries 11 = .ok (.return_, 1) := by decide +kernel
theorem dX10_tries_12 : decode cX10_tries 12 = .ok (.aload_n 0, 1) := by decide +kernel
theorem dX10_tries_13 : decode cX10_tries 13 = .ok (.dup, 1) := by decide +kernel
theorem dX10_tries_14 : decode cX10_tries 14 = .ok (.getfield 124, 3) := by decide +kernel
theorem dX10_tries_17 : decode cX10_tries 17 = .ok (.iconst 1, 1) := by decide +kernel
theorem dX10_tries_18 : decode cX10_tries 18 = .ok (.iadd, 1) := by decide +kernel
theorem dX10_tries_19 : decode cX10_tries 19 = .ok (.putfield 124, 3) := by decide +kernel
theorem dX10_tries_22 : decode cX10_tries 22 = .ok (.aload_n 0, 1) := by decide +kernel
theorem dX10_tries_23 : decode cX10_tries 23 = .ok (.getfield 115, 3) := by decide +kernel
theorem dX10_tries_26 : decode cX10_tries 26 = .ok (.ifCond .lt 11, 3) := by decide +kernel
theorem dX10_tries_29 : decode cX10_tries 29 = .ok (.iload_n 3, 1) := by decide +kernel
theorem dX10_tries_30 : decode cX10_tries 30 = .ok (.aload_n 0, 1) := by decide +kernel
theorem dX10_tries_31 : decode cX10_tries 31 = .ok (.getfield 115, 3) := by decide +kernel
theorem dX10_tries_34 : decode cX10_tries 34 = .ok (.if_icmp .ge 7, 3) := by decide +kernel
theorem dX10_tries_37 : decode cX10_tries 37 = .ok (.iconst 1, 1) := by decide +kernel
theorem dX10_tries_38 : decode cX10_tries 38 = .ok (.goto 4, 3) := by decide +kernel
theorem dX10_tries_41 : decode cX10_tries 41 = .ok (.iconst 0, 1) := by decide +kernel
theorem dX10_tries_42 : decode cX10_tries 42 = .ok (.istore 4, 2) := by decide +kernel
theorem dX10_tries_44 : decode cX10_tries 44 = .ok (.aload_n 0, 1) := by decide +kernel
theorem dX10_tries_45 : decode cX10_tries 45 = .ok (.getfield 115, 3) := by decide +kernel
theorem dX10_tries_48 : decode cX10_tries 48 = .ok (.ifCond .lt 89, 3) := by decide +kernel
theorem dX10_tries_51 : decode cX10_tries 51 = .ok (.iload_n 3, 1) := by decide +kernel
theorem dX10_tries_52 : decode cX10_tries 52 = .ok (.aload_n 0, 1) := by decide +kernel
theorem dX10_tries_53 : decode cX10_tries 53 = .ok (.getfield 115, 3) := by decide +kernel
theorem dX10_tries_56 : decode cX10_tries 56 = .ok (.if_icmp .ne 81, 3) := by decide +kernel
theorem dX10_tries_59 : decode cX10_tries 59 = .ok (.iload_n 1, 1) := by decide +kernel
theorem dX10_tries_60 : decode cX10_tries 60 = .ok (.invokestatic 264, 3) := by decide +kernel
theorem dX10_tries_63 : decode cX10_tries 63 = .ok (.aload_n 0, 1) := by decide +kernel
theorem dX10_tries_64 : decode cX10_tries 64 = .ok (.getfield 118, 3) := by decide +kernel
theorem dX10_tries_67 : decode cX10_tries 67 = .ok (.invokestatic 264, 3) := by decide +kernel
theorem dX10_tries_70 : decode cX10_tries 70 = .ok (.if_icmp .eq 25, 3) := by decide +kernel
theorem dX10_tries_73 : decode cX10_tries 73 = .ok (.iload_n 1, 1) := by decide +kernel
theorem dX10_tries_74 : decode cX10_tries 74 = .ok (.invokestatic 264, 3) := by decide +kernel
theorem dX10_tries_77 : decode cX10_tries 77 = .ok (.aload_n 0, 1) := by decide +kernel
theorem dX10_tries_78 : decode cX10_tries 78 = .ok (.getfield 118, 3) := by decide +kernel
theorem dX10_tries_81 : decode cX10_tries 81 = .ok (.invokestatic 264, 3) := by decide +kernel
theorem dX10_tries_84 : decode cX10_tries 84 = .ok (.if_icmp .ge 7, 3) := by decide +kernel
theorem dX10_tries_87 : decode cX10_tries 87 = .ok (.iconst 1, 1) := by decide +kernel
theorem dX10_tries_88 : decode cX10_tries 88 = .ok (.goto 47, 3) := by decide +kernel
theorem dX10_tries_91 : decode cX10_tries 91 = .ok (.iconst 0, 1) := by decide +kernel
theorem dX10_tries_92 : decode cX10_tries 92 = .ok (.goto 43, 3) := by decide +kernel
theorem dX10_tries_95 : decode cX10_tries 95 = .ok (.iload_n 1, 1) := by decide +kernel
theorem dX10_tries_96 : decode cX10_tries 96 = .ok (.aload_n 0, 1) := by decide +kernel
theorem dX10_tries_97 : decode cX10_tries 97 = .ok (.getfield 118, 3) := by decide +kernel
theorem dX10_tries_100 : decode cX10_tries 100 = .ok (.if_icmp .eq 19, 3) := by decide +kernel
theorem dX10_tries_103 : decode cX10_tries 103 = .ok (.iload_n 1, 1) := by decide +kernel
theorem dX10_tries_104 : decode cX10_tries 104 = .ok (.aload_n 0, 1) := by decide +kernel
theorem dX10_tries_105 : decode cX10_tries 105 = .ok (.getfield 118, 3) := by decide +kernel
theorem dX10_tries_108 : decode cX10_tries 108 = .ok (.if_icmp .ge 7, 3) := by decide +kernel
theorem dX10_tries_111 : decode cX10_tries 111 = .ok (.iconst 1, 1) := by decide +kernel
theorem dX10_tries_112 : decode cX10_tries 112 = .ok (.goto 23, 3) := by decide +kernel
theorem dX10_tries_115 : decode cX10_tries 115 = .ok (.iconst 0, 1) := by decide +kernel
theorem dX10_tries_116 : decode cX10_tries 116 = .ok (.goto 19, 3) := by decide +kernel
theorem dX10_tries_119 : decode cX10_tries 119 = .ok (.aload_n 0, 1) := by decide +kernel
theorem dX10_tries_120 : decode cX10_tries 120 = .ok (.getfield 127, 3) := by decide +kernel
theorem dX10_tries_123 : decode cX10_tries 123 = .ok (.ifCond .eq 11, 3) := by decide +kernel
theorem dX10_tries_126 : decode cX10_tries 126 = .ok (.iload_n 2, 1) := by decide +kernel
theorem dX10_tries_127 : decode cX10_tries 127 = .ok (.ifCond .ne 7, 3) := by decide +kernel
theorem dX10_tries_130 : decode cX10_tries 130 = .ok (.iconst 1, 1) := by decide +kernel
theorem dX10_tries_131 : decode cX10_tries 131 = .ok (.goto 4, 3) := by decide +kernel
theorem dX10_tries_134 : decode cX10_tries 134 = .ok (.iconst 0, 1) := by decide +kernel
theorem dX10_tries_135 : decode cX10_tries 135 = .ok (.istore 4, 2) := by decide +kernel
theorem dX10_tries_137 : decode cX10_tries 137 = .ok (.iload 4, 2) := by decide +kernel
theorem dX10_tries_139 : decode cX10_tries 139 = .ok (.ifCond .ne 4, 3) := by decide +kernel
theorem dX10_tries_142 : decode cX10_tries 142 = .ok (.return_, 1) := by decide +kernel
theorem dX10_tries_143 : decode cX10_tries 143 = .ok (.aload_n 0, 1) := by decide +kernel
theorem dX10_tries_144 : decode cX10_tries 144 = .ok (.iload_n 3, 1) := by decide +kernel
theorem dX10_tries_145 : decode cX10_tries 145 = .ok (.putfield 115, 3) := by decide +kernel
theorem dX10_tries_148 : decode cX10_tries 148 = .ok (.aload_n 0, 1) := by decide +kernel
theorem dX10_tries_149 : decode cX10_tries 149 = .ok (.iload_n 1, 1) := by decide +kernel
theorem dX10_tries_150 : decode cX10_tries 150 = .ok (.putfield 118, 3) := by decide +kernel
theorem dX10_tries_153 : decode cX10_tries 153 = .ok (.aload_n 0, 1) := by decide +kernel
theorem dX10_tries_154 : decode cX10_tries 154 = .ok (.iload_n 2, 1) := by decide +kernel
theorem dX10_tries_155 : decode cX10_tries 155 = .ok (.putfield 127, 3) := by decide +kernel
theorem dX10_tries_158 : decode cX10_tries 158 = .ok (.aload_n 0, 1) := by decide +kernel
theorem dX10_tries_159 : decode cX10_tries 159 = .ok (.aload_n 0, 1) := by decide +kernel
theorem dX10_tries_160 : decode cX10_tries 160 = .ok (.getfield 103, 3) := by decide +kernel
theorem dX10_tries_163 : decode cX10_tries 163 = .ok (.putfield 121, 3) := by decide +kernel
theorem dX10_tries_166 : decode cX10_tries 166 = .ok (.return_, 1) := by decide +kernel
theorem dX10_finds_0 : decode cX10_finds 0 = .ok (.aload_n 0, 1) := by decide +kernel
theorem dX10_finds_1 : decode cX10_finds 1 = .ok (.iconst (-1), 1) := by decide +kernel
theorem dX10_finds_2 : decode cX10_finds 2 = .ok (.putfield 115, 3) := by decide +kernel
theorem dX10_finds_5 : decode cX10_finds 5 = .ok (.aload_n 0, 1) := by decide +kernel
theorem dX10_finds_6 : decode cX10_finds 6 = .ok (.iconst 0, 1) := by decide +kernel
theorem dX10_finds_7 : decode cX10_finds 7 = .ok (.putfield 118, 3) := by decide +kernel
theorem dX10_finds_10 : decode cX10_finds 10 = .ok (.aload_n 0, 1) := by decide +kernel
theorem dX10_finds_11 : decode cX10_finds 11 = .ok (.iconst 0, 1) := by decide +kernel
theorem dX10_finds_12 : decode cX10_finds 12 = .ok (.putfield 124, 3) := by decide +kernel
theorem dX10_finds_15 : decode cX10_finds 15 = .ok (.aload_n 0, 1) := by decide +kernel
theorem dX10_finds_16 : decode cX10_finds 16 = .ok (.invokevirtual 258, 3) := by decide +kernel
theorem dX10_finds_19 : decode cX10_finds 19 = .ok (.istore_n 1, 1) := by decide +kernel
theorem dX10_finds_20 : decode cX10_finds 20 = .ok (.iconst 0, 1) := by decide +kernel
theorem dX10_finds_21 : decode cX10_finds 21 = .ok (.istore_n 2, 1) := by decide +kernel
theorem dX10_finds_22 : decode cX10_finds 22 = .ok (.iload_n 2, 1) := by decide +kernel
theorem dX10_finds_23 : decode cX10_finds 23 = .ok (.iload_n 1, 1) := by decide +kernel
theorem dX10_finds_24 : decode cX10_finds 24 = .ok (.if_icmp .gt 37, 3) := by decide +kernel
theorem dX10_finds_27 : decode cX10_finds 27 = .ok (.aload_n 0, 1) := by decide +kernel
theorem dX10_finds_28 : decode cX10_finds 28 = .ok (.iload_n 2, 1) := by decide +kernel
theorem dX10_finds_29 : decode cX10_finds 29 = .ok (.invokevirtual 261, 3) := by decide +kernel
theorem dX10_finds_32 : decode cX10_finds 32 = .ok (.ifCond .ne 6, 3) := by decide +kernel
theorem dX10_finds_35 : decode cX10_finds 35 = .ok (.goto 20, 3) := by decide +kernel
theorem dX10_finds_38 : decode cX10_finds 38 = .ok (.aload_n 0, 1) := by decide +kernel
theorem dX10_finds_39 : decode cX10_finds 39 = .ok (.iload_n 2, 1) := by decide +kernel
theorem dX10_finds_40 : decode cX10_finds 40 = .ok (.invokevirtual 287, 3) := by decide +kernel
theorem dX10_finds_43 : decode cX10_finds 43 = .ok (.aload_n 0, 1) := by decide +kernel
theorem dX10_finds_44 : decode cX10_finds 44 = .ok (.iload_n 2, 1) := by decide +kernel
theorem dX10_finds_45 : decode cX10_finds 45 = .ok (.iconst 0, 1) := by decide +kernel
theorem dX10_finds_46 : decode cX10_finds 46 = .ok (.invokevirtual 290, 3) := by decide +kernel
theorem dX10_finds_49 : decode cX10_finds 49 = .ok (.aload_n 0, 1) := by decide +kernel
theorem dX10_finds_50 : decode cX10_finds 50 = .ok (.iload_n 2, 1) := by decide +kernel
theorem dX10_finds_51 : decode cX10_finds 51 = .ok (.iconst 1, 1) := by decide +kernel
theorem dX10_finds_52 : decode cX10_finds 52 = .ok (.invokevirtual 290, 3) := by decide +kernel
theorem dX10_finds_55 : decode cX10_finds 55 = .ok (.iinc 2 1, 3) := by decide +kernel
theorem dX10_finds_58 : decode cX10_finds 58 = .ok (.goto (-36), 3) := by decide +kernel
theorem dX10_finds_61 : decode cX10_finds 61 = .ok (.return_, 1) := by decide +kernel
theorem dX10_scansLine_0 : decode cX10_scansLine 0 = .ok (.aload_n 0, 1) := by decide +kernel
theorem dX10_scansLine_1 : decode cX10_scansLine 1 = .ok (.iload_n 1, 1) := by decide +kernel
theorem dX10_scansLine_2 : decode cX10_scansLine 2 = .ok (.iload_n 2, 1) := by decide +kernel
theorem dX10_scansLine_3 : decode cX10_scansLine 3 = .ok (.invokevirtual 294, 3) := by decide +kernel
theorem dX10_scansLine_6 : decode cX10_scansLine 6 = .ok (.aload_n 0, 1) := by decide +kernel
theorem dX10_scansLine_7 : decode cX10_scansLine 7 = .ok (.invokevirtual 297, 3) := by decide +kernel
theorem dX10_scansLine_10 : decode cX10_scansLine 10 = .ok (.aload_n 0, 1) := by decide +kernel
theorem dX10_scansLine_11 : decode cX10_scansLine 11 = .ok (.invokevirtual 300, 3) := by decide +kernel
theorem dX10_scansLine_14 : decode cX10_scansLine 14 = .ok (.return_, 1) := by decide +kernel
theorem dX10_cost_0 : decode cX10_cost 0 = .ok (.aload_n 0, 1) := by decide +kernel
theorem dX10_cost_1 : decode cX10_cost 1 = .ok (.iconst 0, 1) := by decide +kernel
theorem dX10_cost_2 : decode cX10_cost 2 = .ok (.putfield 3, 3) := by decide +kernel
theorem dX10_cost_5 : decode cX10_cost 5 = .ok (.aload_n 0, 1) := by decide +kernel
theorem dX10_cost_6 : decode cX10_cost 6 = .ok (.iload_n 1, 1) := by decide +kernel
theorem dX10_cost_7 : decode cX10_cost 7 = .ok (.iload_n 2, 1) := by decide +kernel
theorem dX10_cost_8 : decode cX10_cost 8 = .ok (.invokevirtual 234, 3) := by decide +kernel
theorem dX10_cost_11 : decode cX10_cost 11 = .ok (.ifCond .ne 9, 3) := by decide +kernel
theorem dX10_cost_14 : decode cX10_cost 14 = .ok (.aload_n 0, 1) := by decide +kernel
theorem dX10_cost_15 : decode cX10_cost 15 = .ok (.iconst 1, 1) := by decide +kernel
theorem dX10_cost_16 : decode cX10_cost 16 = .ok (.invokevirtual 162, 3) := by decide +kernel
theorem dX10_cost_19 : decode cX10_cost 19 = .ok (.ireturn, 1) := by decide +kernel
theorem dX10_cost_20 : decode cX10_cost 20 = .ok (.aload_n 0, 1) := by decide +kernel
theorem dX10_cost_21 : decode cX10_cost 21 = .ok (.iload_n 1, 1) := by decide +kernel
theorem dX10_cost_22 : decode cX10_cost 22 = .ok (.iload_n 2, 1) := by decide +kernel
theorem dX10_cost_23 : decode cX10_cost 23 = .ok (.invokevirtual 294, 3) := by decide +kernel
theorem dX10_cost_26 : decode cX10_cost 26 = .ok (.aload_n 0, 1) := by decide +kernel
theorem dX10_cost_27 : decode cX10_cost 27 = .ok (.iload_n 3, 1) := by decide +kernel
theorem dX10_cost_28 : decode cX10_cost 28 = .ok (.invokevirtual 261, 3) := by decide +kernel
theorem dX10_cost_31 : decode cX10_cost 31 = .ok (.ifCond .ne 9, 3) := by decide +kernel
theorem dX10_cost_34 : decode cX10_cost 34 = .ok (.aload_n 0, 1) := by decide +kernel
theorem dX10_cost_35 : decode cX10_cost 35 = .ok (.iconst 2, 1) := by decide +kernel
theorem dX10_cost_36 : decode cX10_cost 36 = .ok (.invokevirtual 162, 3) := by decide +kernel
theorem dX10_cost_39 : decode cX10_cost 39 = .ok (.ireturn, 1) := by decide +kernel
theorem dX10_cost_40 : decode cX10_cost 40 = .ok (.aload_n 0, 1) := by decide +kernel
theorem dX10_cost_41 : decode cX10_cost 41 = .ok (.invokevirtual 297, 3) := by decide +kernel
theorem dX10_cost_44 : decode cX10_cost 44 = .ok (.aload_n 0, 1) := by decide +kernel
theorem dX10_cost_45 : decode cX10_cost 45 = .ok (.iload_n 3, 1) := by decide +kernel
theorem dX10_cost_46 : decode cX10_cost 46 = .ok (.invokevirtual 287, 3) := by decide +kernel
theorem dX10_cost_49 : decode cX10_cost 49 = .ok (.aload_n 0, 1) := by decide +kernel
theorem dX10_cost_50 : decode cX10_cost 50 = .ok (.iload_n 3, 1) := by decide +kernel
theorem dX10_cost_51 : decode cX10_cost 51 = .ok (.iload 4, 2) := by decide +kernel
theorem dX10_cost_53 : decode cX10_cost 53 = .ok (.invokevirtual 284, 3) := by decide +kernel
theorem dX10_cost_56 : decode cX10_cost 56 = .ok (.istore 5, 2) := by decide +kernel
theorem dX10_cost_58 : decode cX10_cost 58 = .ok (.iload 5, 2) := by decide +kernel
theorem dX10_cost_60 : decode cX10_cost 60 = .ok (.ifCond .ge 11, 3) := by decide +kernel
theorem dX10_cost_63 : decode cX10_cost 63 = .ok (.aload_n 0, 1) := by decide +kernel
theorem dX10_cost_64 : decode cX10_cost 64 = .ok (.iconst 3, 1) := by decide +kernel
theorem dX10_cost_65 : decode cX10_cost 65 = .ok (.invokevirtual 162, 3) := by decide +kernel
theorem dX10_cost_68 : decode cX10_cost 68 = .ok (.goto 5, 3) := by decide +kernel
theorem dX10_cost_71 : decode cX10_cost 71 = .ok (.iload 5, 2) := by decide +kernel
theorem dX10_cost_73 : decode cX10_cost 73 = .ok (.ireturn, 1) := by decide +kernel
theorem dX10_wrongOnes_0 : decode cX10_wrongOnes 0 = .ok (.aload_n 0, 1) := by decide +kernel
theorem dX10_wrongOnes_1 : decode cX10_wrongOnes 1 = .ok (.aload_n 0, 1) := by decide +kernel
theorem dX10_wrongOnes_2 : decode cX10_wrongOnes 2 = .ok (.getfield 118, 3) := by decide +kernel
theorem dX10_wrongOnes_5 : decode cX10_wrongOnes 5 = .ok (.invokevirtual 287, 3) := by decide +kernel
theorem dX10_wrongOnes_8 : decode cX10_wrongOnes 8 = .ok (.iconst 0, 1) := by decide +kernel
theorem dX10_wrongOnes_9 : decode cX10_wrongOnes 9 = .ok (.istore_n 2, 1) := by decide +kernel
theorem dX10_wrongOnes_10 : decode cX10_wrongOnes 10 = .ok (.iconst 0, 1) := by decide +kernel
theorem dX10_wrongOnes_11 : decode cX10_wrongOnes 11 = .ok (.istore_n 3, 1) := by decide +kernel
theorem dX10_wrongOnes_12 : decode cX10_wrongOnes 12 = .ok (.iload_n 3, 1) := by decide +kernel
theorem dX10_wrongOnes_13 : decode cX10_wrongOnes 13 = .ok (.aload_n 0, 1) := by decide +kernel
theorem dX10_wrongOnes_14 : decode cX10_wrongOnes 14 = .ok (.invokevirtual 277, 3) := by decide +kernel
theorem dX10_wrongOnes_17 : decode cX10_wrongOnes 17 = .ok (.if_icmp .ge 49, 3) := by decide +kernel
theorem dX10_wrongOnes_20 : decode cX10_wrongOnes 20 = .ok (.iload_n 3, 1) := by decide +kernel
theorem dX10_wrongOnes_21 : decode cX10_wrongOnes 21 = .ok (.aload_n 0, 1) := by decide +kernel
theorem dX10_wrongOnes_22 : decode cX10_wrongOnes 22 = .ok (.getfield 103, 3) := by decide +kernel
theorem dX10_wrongOnes_25 : decode cX10_wrongOnes 25 = .ok (.if_icmp .ge 41, 3) := by decide +kernel
theorem dX10_wrongOnes_28 : decode cX10_wrongOnes 28 = .ok (.aload_n 0, 1) := by decide +kernel
theorem dX10_wrongOnes_29 : decode cX10_wrongOnes 29 = .ok (.iload_n 3, 1) := by decide +kernel
theorem dX10_wrongOnes_30 : decode cX10_wrongOnes 30 = .ok (.aload_n 0, 1) := by decide +kernel
theorem dX10_wrongOnes_31 : decode cX10_wrongOnes 31 = .ok (.getfield 127, 3) := by decide +kernel
theorem dX10_wrongOnes_34 : decode cX10_wrongOnes 34 = .ok (.invokevirtual 280, 3) := by decide +kernel
theorem dX10_wrongOnes_37 : decode cX10_wrongOnes 37 = .ok (.ifCond .ne 6, 3) := by decide +kernel
theorem dX10_wrongOnes_40 : decode cX10_wrongOnes 40 = .ok (.goto 20, 3) := by decide +kernel
theorem dX10_wrongOnes_43 : decode cX10_wrongOnes 43 = .ok (.iload_n 1, 1) := by decide +kernel
theorem dX10_wrongOnes_44 : decode cX10_wrongOnes 44 = .ok (.ifCond .eq 13, 3) := by decide +kernel
theorem dX10_wrongOnes_47 : decode cX10_wrongOnes 47 = .ok (.iload_n 3, 1) := by decide +kernel
theorem dX10_wrongOnes_48 : decode cX10_wrongOnes 48 = .ok (.aload_n 0, 1) := by decide +kernel
theorem dX10_wrongOnes_49 : decode cX10_wrongOnes 49 = .ok (.getfield 94, 3) := by decide +kernel
theorem dX10_wrongOnes_52 : decode cX10_wrongOnes 52 = .ok (.invokestatic 205, 3) := by decide +kernel
theorem dX10_wrongOnes_55 : decode cX10_wrongOnes 55 = .ok (.idiv, 1) := by decide +kernel
theorem dX10_wrongOnes_56 : decode cX10_wrongOnes 56 = .ok (.ireturn, 1) := by decide +kernel
theorem dX10_wrongOnes_57 : decode cX10_wrongOnes 57 = .ok (.iinc 2 1, 3) := by decide +kernel
theorem dX10_wrongOnes_60 : decode cX10_wrongOnes 60 = .ok (.iinc 3 1, 3) := by decide +kernel
theorem dX10_wrongOnes_63 : decode cX10_wrongOnes 63 = .ok (.goto (-51), 3) := by decide +kernel
theorem dX10_wrongOnes_66 : decode cX10_wrongOnes 66 = .ok (.iload_n 1, 1) := by decide +kernel
theorem dX10_wrongOnes_67 : decode cX10_wrongOnes 67 = .ok (.ifCond .eq 7, 3) := by decide +kernel
theorem dX10_wrongOnes_70 : decode cX10_wrongOnes 70 = .ok (.iconst (-1), 1) := by decide +kernel
theorem dX10_wrongOnes_71 : decode cX10_wrongOnes 71 = .ok (.goto 4, 3) := by decide +kernel
theorem dX10_wrongOnes_74 : decode cX10_wrongOnes 74 = .ok (.iload_n 2, 1) := by decide +kernel
theorem dX10_wrongOnes_75 : decode cX10_wrongOnes 75 = .ok (.ireturn, 1) := by decide +kernel
theorem dX10_scan_0 : decode cX10_scan 0 = .ok (.aload_n 0, 1) := by decide +kernel
theorem dX10_scan_1 : decode cX10_scan 1 = .ok (.iconst 0, 1) := by decide +kernel
theorem dX10_scan_2 : decode cX10_scan 2 = .ok (.putfield 3, 3) := by decide +kernel
theorem dX10_scan_5 : decode cX10_scan 5 = .ok (.aload_n 0, 1) := by decide +kernel
theorem dX10_scan_6 : decode cX10_scan 6 = .ok (.iload_n 1, 1) := by decide +kernel
theorem dX10_scan_7 : decode cX10_scan 7 = .ok (.iload_n 2, 1) := by decide +kernel
theorem dX10_scan_8 : decode cX10_scan 8 = .ok (.invokevirtual 234, 3) := by decide +kernel
theorem dX10_scan_11 : decode cX10_scan 11 = .ok (.ifCond .ne 9, 3) := by decide +kernel
theorem dX10_scan_14 : decode cX10_scan 14 = .ok (.aload_n 0, 1) := by decide +kernel
theorem dX10_scan_15 : decode cX10_scan 15 = .ok (.iconst 1, 1) := by decide +kernel
theorem dX10_scan_16 : decode cX10_scan 16 = .ok (.invokevirtual 162, 3) := by decide +kernel
theorem dX10_scan_19 : decode cX10_scan 19 = .ok (.ireturn, 1) := by decide +kernel
theorem dX10_scan_20 : decode cX10_scan 20 = .ok (.iload_n 3, 1) := by decide +kernel
theorem dX10_scan_21 : decode cX10_scan 21 = .ok (.iconst 0, 1) := by decide +kernel
theorem dX10_scan_22 : decode cX10_scan 22 = .ok (.iconst 5, 1) := by decide +kernel
theorem dX10_scan_23 : decode cX10_scan 23 = .ok (.invokestatic 158, 3) := by decide +kernel
theorem dX10_scan_26 : decode cX10_scan 26 = .ok (.ifCond .ne 9, 3) := by decide +kernel
theorem dX10_scan_29 : decode cX10_scan 29 = .ok (.aload_n 0, 1) := by decide +kernel
theorem dX10_scan_30 : decode cX10_scan 30 = .ok (.iconst 2, 1) := by decide +kernel
theorem dX10_scan_31 : decode cX10_scan 31 = .ok (.invokevirtual 162, 3) := by decide +kernel
theorem dX10_scan_34 : decode cX10_scan 34 = .ok (.ireturn, 1) := by decide +kernel
theorem dX10_scan_35 : decode cX10_scan 35 = .ok (.aload_n 0, 1) := by decide +kernel
theorem dX10_scan_36 : decode cX10_scan 36 = .ok (.iload_n 1, 1) := by decide +kernel
theorem dX10_scan_37 : decode cX10_scan 37 = .ok (.iload_n 2, 1) := by decide +kernel
theorem dX10_scan_38 : decode cX10_scan 38 = .ok (.invokevirtual 303, 3) := by decide +kernel
theorem dX10_scan_41 : decode cX10_scan 41 = .ok (.aload_n 0, 1) := by decide +kernel
theorem dX10_scan_42 : decode cX10_scan 42 = .ok (.getfield 115, 3) := by decide +kernel
theorem dX10_scan_45 : decode cX10_scan 45 = .ok (.ifCond .ge 9, 3) := by decide +kernel
theorem dX10_scan_48 : decode cX10_scan 48 = .ok (.aload_n 0, 1) := by decide +kernel
theorem dX10_scan_49 : decode cX10_scan 49 = .ok (.iconst 3, 1) := by decide +kernel
theorem dX10_scan_50 : decode cX10_scan 50 = .ok (.invokevirtual 162, 3) := by decide +kernel
theorem dX10_scan_53 : decode cX10_scan 53 = .ok (.ireturn, 1) := by decide +kernel
theorem dX10_scan_54 : decode cX10_scan 54 = .ok (.iload_n 3, 1) := by decide +kernel
theorem dX10_scan_55 : decode cX10_scan 55 = .ok (.tableswitch 57 0 3 #[29, 34, 39, 52], 29) := by decide +kernel
theorem dX10_scan_84 : decode cX10_scan 84 = .ok (.aload_n 0, 1) := by decide +kernel
theorem dX10_scan_85 : decode cX10_scan 85 = .ok (.getfield 115, 3) := by decide +kernel
theorem dX10_scan_88 : decode cX10_scan 88 = .ok (.ireturn, 1) := by decide +kernel
theorem dX10_scan_89 : decode cX10_scan 89 = .ok (.aload_n 0, 1) := by decide +kernel
theorem dX10_scan_90 : decode cX10_scan 90 = .ok (.getfield 118, 3) := by decide +kernel
theorem dX10_scan_93 : decode cX10_scan 93 = .ok (.ireturn, 1) := by decide +kernel
theorem dX10_scan_94 : decode cX10_scan 94 = .ok (.aload_n 0, 1) := by decide +kernel
theorem dX10_scan_95 : decode cX10_scan 95 = .ok (.getfield 127, 3) := by decide +kernel
theorem dX10_scan_98 : decode cX10_scan 98 = .ok (.ifCond .eq 7, 3) := by decide +kernel
theorem dX10_scan_101 : decode cX10_scan 101 = .ok (.iconst 1, 1) := by decide +kernel
theorem dX10_scan_102 : decode cX10_scan 102 = .ok (.goto 4, 3) := by decide +kernel
theorem dX10_scan_105 : decode cX10_scan 105 = .ok (.iconst 0, 1) := by decide +kernel
theorem dX10_scan_106 : decode cX10_scan 106 = .ok (.ireturn, 1) := by decide +kernel
theorem dX10_scan_107 : decode cX10_scan 107 = .ok (.aload_n 0, 1) := by decide +kernel
theorem dX10_scan_108 : decode cX10_scan 108 = .ok (.getfield 121, 3) := by decide +kernel
theorem dX10_scan_111 : decode cX10_scan 111 = .ok (.ireturn, 1) := by decide +kernel
theorem dX10_scan_112 : decode cX10_scan 112 = .ok (.aload_n 0, 1) := by decide +kernel
theorem dX10_scan_113 : decode cX10_scan 113 = .ok (.iload_n 3, 1) := by decide +kernel
theorem dX10_scan_114 : decode cX10_scan 114 = .ok (.iconst 4, 1) := by decide +kernel
theorem dX10_scan_115 : decode cX10_scan 115 = .ok (.if_icmp .ne 7, 3) := by decide +kernel
theorem dX10_scan_118 : decode cX10_scan 118 = .ok (.iconst 1, 1) := by decide +kernel
theorem dX10_scan_119 : decode cX10_scan 119 = .ok (.goto 4, 3) := by decide +kernel
theorem dX10_scan_122 : decode cX10_scan 122 = .ok (.iconst 0, 1) := by decide +kernel
theorem dX10_scan_123 : decode cX10_scan 123 = .ok (.invokevirtual 306, 3) := by decide +kernel
theorem dX10_scan_126 : decode cX10_scan 126 = .ok (.ireturn, 1) := by decide +kernel
theorem dX10_scans_0 : decode cX10_scans 0 = .ok (.aload_n 0, 1) := by decide +kernel
theorem dX10_scans_1 : decode cX10_scans 1 = .ok (.iconst 0, 1) := by decide +kernel
theorem dX10_scans_2 : decode cX10_scans 2 = .ok (.putfield 3, 3) := by decide +kernel
theorem dX10_scans_5 : decode cX10_scans 5 = .ok (.aload_n 0, 1) := by decide +kernel
theorem dX10_scans_6 : decode cX10_scans 6 = .ok (.iload_n 1, 1) := by decide +kernel
theorem dX10_scans_7 : decode cX10_scans 7 = .ok (.iload_n 2, 1) := by decide +kernel
theorem dX10_scans_8 : decode cX10_scans 8 = .ok (.invokevirtual 234, 3) := by decide +kernel
theorem dX10_scans_11 : decode cX10_scans 11 = .ok (.ifCond .ne 9, 3) := by decide +kernel
theorem dX10_scans_14 : decode cX10_scans 14 = .ok (.aload_n 0, 1) := by decide +kernel
theorem dX10_scans_15 : decode cX10_scans 15 = .ok (.iconst 1, 1) := by decide +kernel
theorem dX10_scans_16 : decode cX10_scans 16 = .ok (.invokevirtual 162, 3) := by decide +kernel
theorem dX10_scans_19 : decode cX10_scans 19 = .ok (.ireturn, 1) := by decide +kernel
theorem dX10_scans_20 : decode cX10_scans 20 = .ok (.aload_n 0, 1) := by decide +kernel
theorem dX10_scans_21 : decode cX10_scans 21 = .ok (.iload_n 1, 1) := by decide +kernel
theorem dX10_scans_22 : decode cX10_scans 22 = .ok (.iload_n 2, 1) := by decide +kernel
theorem dX10_scans_23 : decode cX10_scans 23 = .ok (.invokevirtual 303, 3) := by decide +kernel
theorem dX10_scans_26 : decode cX10_scans 26 = .ok (.aload_n 0, 1) := by decide +kernel
theorem dX10_scans_27 : decode cX10_scans 27 = .ok (.getfield 124, 3) := by decide +kernel
theorem dX10_scans_30 : decode cX10_scans 30 = .ok (.ireturn, 1) := by decide +kernel
theorem dX10_reason_0 : decode cX10_reason 0 = .ok (.aload_n 0, 1) := by decide +kernel
theorem dX10_reason_1 : decode cX10_reason 1 = .ok (.iconst 0, 1) := by decide +kernel
theorem dX10_reason_2 : decode cX10_reason 2 = .ok (.putfield 3, 3) := by decide +kernel
theorem dX10_reason_5 : decode cX10_reason 5 = .ok (.aload_n 0, 1) := by decide +kernel
theorem dX10_reason_6 : decode cX10_reason 6 = .ok (.iload_n 1, 1) := by decide +kernel
theorem dX10_reason_7 : decode cX10_reason 7 = .ok (.iload_n 2, 1) := by decide +kernel
theorem dX10_reason_8 : decode cX10_reason 8 = .ok (.invokevirtual 234, 3) := by decide +kernel
theorem dX10_reason_11 : decode cX10_reason 11 = .ok (.ifCond .ne 9, 3) := by decide +kernel
theorem dX10_reason_14 : decode cX10_reason 14 = .ok (.aload_n 0, 1) := by decide +kernel
theorem dX10_reason_15 : decode cX10_reason 15 = .ok (.iconst 1, 1) := by decide +kernel
theorem dX10_reason_16 : decode cX10_reason 16 = .ok (.invokevirtual 162, 3) := by decide +kernel
theorem dX10_reason_19 : decode cX10_reason 19 = .ok (.ireturn, 1) := by decide +kernel
theorem dX10_reason_20 : decode cX10_reason 20 = .ok (.aload_n 0, 1) := by decide +kernel
theorem dX10_reason_21 : decode cX10_reason 21 = .ok (.iload_n 1, 1) := by decide +kernel
theorem dX10_reason_22 : decode cX10_reason 22 = .ok (.iload_n 2, 1) := by decide +kernel
theorem dX10_reason_23 : decode cX10_reason 23 = .ok (.invokevirtual 303, 3) := by decide +kernel
theorem dX10_reason_26 : decode cX10_reason 26 = .ok (.aload_n 0, 1) := by decide +kernel
theorem dX10_reason_27 : decode cX10_reason 27 = .ok (.getfield 115, 3) := by decide +kernel
theorem dX10_reason_30 : decode cX10_reason 30 = .ok (.ifCond .lt 22, 3) := by decide +kernel
theorem dX10_reason_33 : decode cX10_reason 33 = .ok (.aload_n 0, 1) := by decide +kernel
theorem dX10_reason_34 : decode cX10_reason 34 = .ok (.getfield 115, 3) := by decide +kernel
theorem dX10_reason_37 : decode cX10_reason 37 = .ok (.aload_n 0, 1) := by decide +kernel
theorem dX10_reason_38 : decode cX10_reason 38 = .ok (.getfield 13, 3) := by decide +kernel
theorem dX10_reason_41 : decode cX10_reason 41 = .ok (.iconst 3, 1) := by decide +kernel
theorem dX10_reason_42 : decode cX10_reason 42 = .ok (.iaload, 1) := by decide +kernel
theorem dX10_reason_43 : decode cX10_reason 43 = .ok (.if_icmp .gt 7, 3) := by decide +kernel
theorem dX10_reason_46 : decode cX10_reason 46 = .ok (.iconst 0, 1) := by decide +kernel
theorem dX10_reason_47 : decode cX10_reason 47 = .ok (.goto 4, 3) := by decide +kernel
theorem dX10_reason_50 : decode cX10_reason 50 = .ok (.iconst 4, 1) := by decide +kernel
theorem dX10_reason_51 : decode cX10_reason 51 = .ok (.ireturn, 1) := by decide +kernel
theorem dX10_reason_52 : decode cX10_reason 52 = .ok (.aload_n 0, 1) := by decide +kernel
theorem dX10_reason_53 : decode cX10_reason 53 = .ok (.invokevirtual 310, 3) := by decide +kernel
theorem dX10_reason_56 : decode cX10_reason 56 = .ok (.istore_n 3, 1) := by decide +kernel
theorem dX10_reason_57 : decode cX10_reason 57 = .ok (.iload_n 3, 1) := by decide +kernel
theorem dX10_reason_58 : decode cX10_reason 58 = .ok (.aload_n 0, 1) := by decide +kernel
theorem dX10_reason_59 : decode cX10_reason 59 = .ok (.invokevirtual 277, 3) := by decide +kernel
theorem dX10_reason_62 : decode cX10_reason 62 = .ok (.aload_n 0, 1) := by decide +kernel
theorem dX10_reason_63 : decode cX10_reason 63 = .ok (.aload_n 0, 1) := by decide +kernel
theorem dX10_reason_64 : decode cX10_reason 64 = .ok (.invokevirtual 277, 3) := by decide +kernel
theorem dX10_reason_67 : decode cX10_reason 67 = .ok (.iconst 1, 1) := by decide +kernel
theorem dX10_reason_68 : decode cX10_reason 68 = .ok (.isub, 1) := by decide +kernel
theorem dX10_reason_69 : decode cX10_reason 69 = .ok (.iconst 0, 1) := by decide +kernel
theorem dX10_reason_70 : decode cX10_reason 70 = .ok (.invokevirtual 273, 3) := by decide +kernel
theorem dX10_reason_73 : decode cX10_reason 73 = .ok (.ifCond .eq 7, 3) := by decide +kernel
theorem dX10_reason_76 : decode cX10_reason 76 = .ok (.iconst 0, 1) := by decide +kernel
theorem dX10_reason_77 : decode cX10_reason 77 = .ok (.goto 4, 3) := by decide +kernel
theorem dX10_reason_80 : decode cX10_reason 80 = .ok (.iconst 1, 1) := by decide +kernel
theorem dX10_reason_81 : decode cX10_reason 81 = .ok (.isub, 1) := by decide +kernel
theorem dX10_reason_82 : decode cX10_reason 82 = .ok (.if_icmp .ge 5, 3) := by decide +kernel
theorem dX10_reason_85 : decode cX10_reason 85 = .ok (.iconst 1, 1) := by decide +kernel
theorem dX10_reason_86 : decode cX10_reason 86 = .ok (.ireturn, 1) := by decide +kernel
theorem dX10_reason_87 : decode cX10_reason 87 = .ok (.iload_n 3, 1) := by decide +kernel
theorem dX10_reason_88 : decode cX10_reason 88 = .ok (.aload_n 0, 1) := by decide +kernel
theorem dX10_reason_89 : decode cX10_reason 89 = .ok (.invokevirtual 313, 3) := by decide +kernel
theorem dX10_reason_92 : decode cX10_reason 92 = .ok (.isub, 1) := by decide +kernel
theorem dX10_reason_93 : decode cX10_reason 93 = .ok (.aload_n 0, 1) := by decide +kernel
theorem dX10_reason_94 : decode cX10_reason 94 = .ok (.invokevirtual 277, 3) := by decide +kernel
theorem dX10_reason_97 : decode cX10_reason 97 = .ok (.iconst 1, 1) := by decide +kernel
theorem dX10_reason_98 : decode cX10_reason 98 = .ok (.iadd, 1) := by decide +kernel
theorem dX10_reason_99 : decode cX10_reason 99 = .ok (.if_icmp .le 7, 3) := by decide +kernel
theorem dX10_reason_102 : decode cX10_reason 102 = .ok (.iconst 2, 1) := by decide +kernel
theorem dX10_reason_103 : decode cX10_reason 103 = .ok (.goto 4, 3) := by decide +kernel
theorem dX10_reason_106 : decode cX10_reason 106 = .ok (.iconst 3, 1) := by decide +kernel
theorem dX10_reason_107 : decode cX10_reason 107 = .ok (.ireturn, 1) := by decide +kernel
theorem dX10_laysRhyme_0 : decode cX10_laysRhyme 0 = .ok (.aload_n 0, 1) := by decide +kernel
theorem dX10_laysRhyme_1 : decode cX10_laysRhyme 1 = .ok (.iload_n 1, 1) := by decide +kernel
theorem dX10_laysRhyme_2 : decode cX10_laysRhyme 2 = .ok (.iload_n 2, 1) := by decide +kernel
theorem dX10_laysRhyme_3 : decode cX10_laysRhyme 3 = .ok (.invokevirtual 294, 3) := by decide +kernel
theorem dX10_laysRhyme_6 : decode cX10_laysRhyme 6 = .ok (.aload_n 0, 1) := by decide +kernel
theorem dX10_laysRhyme_7 : decode cX10_laysRhyme 7 = .ok (.getfield 60, 3) := by decide +kernel
theorem dX10_laysRhyme_10 : decode cX10_laysRhyme 10 = .ok (.iconst 1, 1) := by decide +kernel
theorem dX10_laysRhyme_11 : decode cX10_laysRhyme 11 = .ok (.isub, 1) := by decide +kernel
theorem dX10_laysRhyme_12 : decode cX10_laysRhyme 12 = .ok (.istore_n 3, 1) := by decide +kernel
theorem dX10_laysRhyme_13 : decode cX10_laysRhyme 13 = .ok (.aload_n 0, 1) := by decide +kernel
theorem dX10_laysRhyme_14 : decode cX10_laysRhyme 14 = .ok (.getfield 69, 3) := by decide +kernel
theorem dX10_laysRhyme_17 : decode cX10_laysRhyme 17 = .ok (.iload_n 3, 1) := by decide +kernel
theorem dX10_laysRhyme_18 : decode cX10_laysRhyme 18 = .ok (.iaload, 1) := by decide +kernel
theorem dX10_laysRhyme_19 : decode cX10_laysRhyme 19 = .ok (.iconst 1, 1) := by decide +kernel
theorem dX10_laysRhyme_20 : decode cX10_laysRhyme 20 = .ok (.isub, 1) := by decide +kernel
theorem dX10_laysRhyme_21 : decode cX10_laysRhyme 21 = .ok (.istore 4, 2) := by decide +kernel
theorem dX10_laysRhyme_23 : decode cX10_laysRhyme 23 = .ok (.iload 4, 2) := by decide +kernel
theorem dX10_laysRhyme_25 : decode cX10_laysRhyme 25 = .ok (.ifCond .lt 25, 3) := by decide +kernel
theorem dX10_laysRhyme_28 : decode cX10_laysRhyme 28 = .ok (.aload_n 0, 1) := by decide +kernel
theorem dX10_laysRhyme_29 : decode cX10_laysRhyme 29 = .ok (.getfield 72, 3) := by decide +kernel
theorem dX10_laysRhyme_32 : decode cX10_laysRhyme 32 = .ok (.bipush 12, 2) := by decide +kernel
theorem dX10_laysRhyme_34 : decode cX10_laysRhyme 34 = .ok (.iload_n 3, 1) := by decide +kernel
theorem dX10_laysRhyme_35 : decode cX10_laysRhyme 35 = .ok (.imul, 1) := by decide +kernel
theorem dX10_laysRhyme_36 : decode cX10_laysRhyme 36 = .ok (.iload 4, 2) := by decide +kernel
theorem dX10_laysRhyme_38 : decode cX10_laysRhyme 38 = .ok (.iadd, 1) := by decide +kernel
theorem dX10_laysRhyme_39 : decode cX10_laysRhyme 39 = .ok (.iaload, 1) := by decide +kernel
theorem dX10_laysRhyme_40 : decode cX10_laysRhyme 40 = .ok (.iconst 2, 1) := by decide +kernel
theorem dX10_laysRhyme_41 : decode cX10_laysRhyme 41 = .ok (.if_icmp .eq 9, 3) := by decide +kernel
theorem dX10_laysRhyme_44 : decode cX10_laysRhyme 44 = .ok (.iinc 4 (-1), 3) := by decide +kernel
theorem dX10_laysRhyme_47 : decode cX10_laysRhyme 47 = .ok (.goto (-24), 3) := by decide +kernel
theorem dX10_laysRhyme_50 : decode cX10_laysRhyme 50 = .ok (.iload 4, 2) := by decide +kernel
theorem dX10_laysRhyme_52 : decode cX10_laysRhyme 52 = .ok (.ifCond .ge 7, 3) := by decide +kernel
theorem dX10_laysRhyme_55 : decode cX10_laysRhyme 55 = .ok (.iconst 0, 1) := by decide +kernel
theorem dX10_laysRhyme_56 : decode cX10_laysRhyme 56 = .ok (.goto 14, 3) := by decide +kernel
theorem dX10_laysRhyme_59 : decode cX10_laysRhyme 59 = .ok (.aload_n 0, 1) := by decide +kernel
theorem dX10_laysRhyme_60 : decode cX10_laysRhyme 60 = .ok (.getfield 69, 3) := by decide +kernel
theorem dX10_laysRhyme_63 : decode cX10_laysRhyme 63 = .ok (.iload_n 3, 1) := by decide +kernel
theorem dX10_laysRhyme_64 : decode cX10_laysRhyme 64 = .ok (.iaload, 1) := by decide +kernel
theorem dX10_laysRhyme_65 : decode cX10_laysRhyme 65 = .ok (.iconst 1, 1) := by decide +kernel
theorem dX10_laysRhyme_66 : decode cX10_laysRhyme 66 = .ok (.isub, 1) := by decide +kernel
theorem dX10_laysRhyme_67 : decode cX10_laysRhyme 67 = .ok (.iload 4, 2) := by decide +kernel
theorem dX10_laysRhyme_69 : decode cX10_laysRhyme 69 = .ok (.isub, 1) := by decide +kernel
theorem dX10_laysRhyme_70 : decode cX10_laysRhyme 70 = .ok (.istore 5, 2) := by decide +kernel
theorem dX10_laysRhyme_72 : decode cX10_laysRhyme 72 = .ok (.aload_n 0, 1) := by decide +kernel
theorem dX10_laysRhyme_73 : decode cX10_laysRhyme 73 = .ok (.iload_n 3, 1) := by decide +kernel
theorem dX10_laysRhyme_74 : decode cX10_laysRhyme 74 = .ok (.invokevirtual 249, 3) := by decide +kernel
theorem dX10_laysRhyme_77 : decode cX10_laysRhyme 77 = .ok (.iconst 0, 1) := by decide +kernel
theorem dX10_laysRhyme_78 : decode cX10_laysRhyme 78 = .ok (.aload_n 0, 1) := by decide +kernel
theorem dX10_laysRhyme_79 : decode cX10_laysRhyme 79 = .ok (.getfield 85, 3) := by decide +kernel
theorem dX10_laysRhyme_82 : decode cX10_laysRhyme 82 = .ok (.iconst 1, 1) := by decide +kernel
theorem dX10_laysRhyme_83 : decode cX10_laysRhyme 83 = .ok (.isub, 1) := by decide +kernel
theorem dX10_laysRhyme_84 : decode cX10_laysRhyme 84 = .ok (.iload 5, 2) := by decide +kernel
theorem dX10_laysRhyme_86 : decode cX10_laysRhyme 86 = .ok (.isub, 1) := by decide +kernel
theorem dX10_laysRhyme_87 : decode cX10_laysRhyme 87 = .ok (.invokestatic 267, 3) := by decide +kernel
theorem dX10_laysRhyme_90 : decode cX10_laysRhyme 90 = .ok (.istore 6, 2) := by decide +kernel
theorem dX10_laysRhyme_92 : decode cX10_laysRhyme 92 = .ok (.aload_n 0, 1) := by decide +kernel
theorem dX10_laysRhyme_93 : decode cX10_laysRhyme 93 = .ok (.aload_n 0, 1) := by decide +kernel
theorem dX10_laysRhyme_94 : decode cX10_laysRhyme 94 = .ok (.getfield 63, 3) := by decide +kernel
theorem dX10_laysRhyme_97 : decode cX10_laysRhyme 97 = .ok (.iload_n 3, 1) := by decide +kernel
theorem dX10_laysRhyme_98 : decode cX10_laysRhyme 98 = .ok (.iaload, 1) := by decide +kernel
theorem dX10_laysRhyme_99 : decode cX10_laysRhyme 99 = .ok (.aload_n 0, 1) := by decide +kernel
theorem dX10_laysRhyme_100 : decode cX10_laysRhyme 100 = .ok (.getfield 91, 3) := by decide +kernel
theorem dX10_laysRhyme_103 : decode cX10_laysRhyme 103 = .ok (.iload 6, 2) := by decide +kernel
theorem dX10_laysRhyme_105 : decode cX10_laysRhyme 105 = .ok (.iaload, 1) := by decide +kernel
theorem dX10_laysRhyme_106 : decode cX10_laysRhyme 106 = .ok (.iadd, 1) := by decide +kernel
theorem dX10_laysRhyme_107 : decode cX10_laysRhyme 107 = .ok (.putfield 130, 3) := by decide +kernel
theorem dX10_laysRhyme_110 : decode cX10_laysRhyme 110 = .ok (.aload_n 0, 1) := by decide +kernel
theorem dX10_laysRhyme_111 : decode cX10_laysRhyme 111 = .ok (.aload_n 0, 1) := by decide +kernel
theorem dX10_laysRhyme_112 : decode cX10_laysRhyme 112 = .ok (.getfield 66, 3) := by decide +kernel
theorem dX10_laysRhyme_115 : decode cX10_laysRhyme 115 = .ok (.iload_n 3, 1) := by decide +kernel
theorem dX10_laysRhyme_116 : decode cX10_laysRhyme 116 = .ok (.iaload, 1) := by decide +kernel
theorem dX10_laysRhyme_117 : decode cX10_laysRhyme 117 = .ok (.aload_n 0, 1) := by decide +kernel
theorem dX10_laysRhyme_118 : decode cX10_laysRhyme 118 = .ok (.getfield 91, 3) := by decide +kernel
theorem dX10_laysRhyme_121 : decode cX10_laysRhyme 121 = .ok (.iload 6, 2) := by decide +kernel
theorem dX10_laysRhyme_123 : decode cX10_laysRhyme 123 = .ok (.iaload, 1) := by decide +kernel
theorem dX10_laysRhyme_124 : decode cX10_laysRhyme 124 = .ok (.isub, 1) := by decide +kernel
theorem dX10_laysRhyme_125 : decode cX10_laysRhyme 125 = .ok (.aload_n 0, 1) := by decide +kernel
theorem dX10_laysRhyme_126 : decode cX10_laysRhyme 126 = .ok (.getfield 88, 3) := by decide +kernel
theorem dX10_laysRhyme_129 : decode cX10_laysRhyme 129 = .ok (.ifCond .eq 7, 3) := by decide +kernel
theorem dX10_laysRhyme_132 : decode cX10_laysRhyme 132 = .ok (.iconst 1, 1) := by decide +kernel
theorem dX10_laysRhyme_133 : decode cX10_laysRhyme 133 = .ok (.goto 4, 3) := by decide +kernel
theorem dX10_laysRhyme_136 : decode cX10_laysRhyme 136 = .ok (.iconst 0, 1) := by decide +kernel
theorem dX10_laysRhyme_137 : decode cX10_laysRhyme 137 = .ok (.isub, 1) := by decide +kernel
theorem dX10_laysRhyme_138 : decode cX10_laysRhyme 138 = .ok (.putfield 133, 3) := by decide +kernel
theorem dX10_laysRhyme_141 : decode cX10_laysRhyme 141 = .ok (.return_, 1) := by decide +kernel
theorem dX10_areLike_0 : decode cX10_areLike 0 = .ok (.iload_n 2, 1) := by decide +kernel
theorem dX10_areLike_1 : decode cX10_areLike 1 = .ok (.iload 4, 2) := by decide +kernel
theorem dX10_areLike_3 : decode cX10_areLike 3 = .ok (.if_icmp .ne 7, 3) := by decide +kernel
theorem dX10_areLike_6 : decode cX10_areLike 6 = .ok (.iconst 1, 1) := by decide +kernel
theorem dX10_areLike_7 : decode cX10_areLike 7 = .ok (.goto 4, 3) := by decide +kernel
theorem dX10_areLike_10 : decode cX10_areLike 10 = .ok (.iconst 0, 1) := by decide +kernel
theorem dX10_areLike_11 : decode cX10_areLike 11 = .ok (.istore 5, 2) := by decide +kernel
theorem dX10_areLike_13 : decode cX10_areLike 13 = .ok (.iconst 0, 1) := by decide +kernel
theorem dX10_areLike_14 : decode cX10_areLike 14 = .ok (.istore 6, 2) := by decide +kernel
theorem dX10_areLike_16 : decode cX10_areLike 16 = .ok (.iload 6, 2) := by decide +kernel
theorem dX10_areLike_18 : decode cX10_areLike 18 = .ok (.iload_n 2, 1) := by decide +kernel
theorem dX10_areLike_19 : decode cX10_areLike 19 = .ok (.if_icmp .ge 42, 3) := by decide +kernel
theorem dX10_areLike_22 : decode cX10_areLike 22 = .ok (.iload 5, 2) := by decide +kernel
theorem dX10_areLike_24 : decode cX10_areLike 24 = .ok (.ifCond .eq 37, 3) := by decide +kernel
theorem dX10_areLike_27 : decode cX10_areLike 27 = .ok (.aload_n 0, 1) := by decide +kernel
theorem dX10_areLike_28 : decode cX10_areLike 28 = .ok (.getfield 13, 3) := by decide +kernel
theorem dX10_areLike_31 : decode cX10_areLike 31 = .ok (.iload_n 1, 1) := by decide +kernel
theorem dX10_areLike_32 : decode cX10_areLike 32 = .ok (.iload 6, 2) := by decide +kernel
theorem dX10_areLike_34 : decode cX10_areLike 34 = .ok (.iadd, 1) := by decide +kernel
theorem dX10_areLike_35 : decode cX10_areLike 35 = .ok (.iaload, 1) := by decide +kernel
theorem dX10_areLike_36 : decode cX10_areLike 36 = .ok (.aload_n 0, 1) := by decide +kernel
theorem dX10_areLike_37 : decode cX10_areLike 37 = .ok (.getfield 13, 3) := by decide +kernel
theorem dX10_areLike_40 : decode cX10_areLike 40 = .ok (.iload_n 3, 1) := by decide +kernel
theorem dX10_areLike_41 : decode cX10_areLike 41 = .ok (.iload 6, 2) := by decide +kernel
theorem dX10_areLike_43 : decode cX10_areLike 43 = .ok (.iadd, 1) := by decide +kernel
theorem dX10_areLike_44 : decode cX10_areLike 44 = .ok (.iaload, 1) := by decide +kernel
theorem dX10_areLike_45 : decode cX10_areLike 45 = .ok (.if_icmp .ne 7, 3) := by decide +kernel
theorem dX10_areLike_48 : decode cX10_areLike 48 = .ok (.iconst 1, 1) := by decide +kernel
theorem dX10_areLike_49 : decode cX10_areLike 49 = .ok (.goto 4, 3) := by decide +kernel
theorem dX10_areLike_52 : decode cX10_areLike 52 = .ok (.iconst 0, 1) := by decide +kernel
theorem dX10_areLike_53 : decode cX10_areLike 53 = .ok (.istore 5, 2) := by decide +kernel
theorem dX10_areLike_55 : decode cX10_areLike 55 = .ok (.iinc 6 1, 3) := by decide +kernel
theorem dX10_areLike_58 : decode cX10_areLike 58 = .ok (.goto (-42), 3) := by decide +kernel
theorem dX10_areLike_61 : decode cX10_areLike 61 = .ok (.iload 5, 2) := by decide +kernel
theorem dX10_areLike_63 : decode cX10_areLike 63 = .ok (.ireturn, 1) := by decide +kernel
theorem dX10_vowelAt_0 : decode cX10_vowelAt 0 = .ok (.iload_n 3, 1) := by decide +kernel
theorem dX10_vowelAt_1 : decode cX10_vowelAt 1 = .ok (.istore 4, 2) := by decide +kernel
theorem dX10_vowelAt_3 : decode cX10_vowelAt 3 = .ok (.iconst 0, 1) := by decide +kernel
theorem dX10_vowelAt_4 : decode cX10_vowelAt 4 = .ok (.istore 5, 2) := by decide +kernel
theorem dX10_vowelAt_6 : decode cX10_vowelAt 6 = .ok (.iload 5, 2) := by decide +kernel
theorem dX10_vowelAt_8 : decode cX10_vowelAt 8 = .ok (.iload_n 2, 1) := by decide +kernel
theorem dX10_vowelAt_9 : decode cX10_vowelAt 9 = .ok (.if_icmp .ge 45, 3) := by decide +kernel
theorem dX10_vowelAt_12 : decode cX10_vowelAt 12 = .ok (.aload_n 0, 1) := by decide +kernel
theorem dX10_vowelAt_13 : decode cX10_vowelAt 13 = .ok (.getfield 13, 3) := by decide +kernel
theorem dX10_vowelAt_16 : decode cX10_vowelAt 16 = .ok (.iload_n 1, 1) := by decide +kernel
theorem dX10_vowelAt_17 : decode cX10_vowelAt 17 = .ok (.iload 5, 2) := by decide +kernel
theorem dX10_vowelAt_19 : decode cX10_vowelAt 19 = .ok (.iadd, 1) := by decide +kernel
theorem dX10_vowelAt_20 : decode cX10_vowelAt 20 = .ok (.iaload, 1) := by decide +kernel
theorem dX10_vowelAt_21 : decode cX10_vowelAt 21 = .ok (.invokestatic 246, 3) := by decide +kernel
theorem dX10_vowelAt_24 : decode cX10_vowelAt 24 = .ok (.ifCond .ne 6, 3) := by decide +kernel
theorem dX10_vowelAt_27 : decode cX10_vowelAt 27 = .ok (.goto 21, 3) := by decide +kernel
theorem dX10_vowelAt_30 : decode cX10_vowelAt 30 = .ok (.iload 4, 2) := by decide +kernel
theorem dX10_vowelAt_32 : decode cX10_vowelAt 32 = .ok (.ifCond .ne 13, 3) := by decide +kernel
theorem dX10_vowelAt_35 : decode cX10_vowelAt 35 = .ok (.aload_n 0, 1) := by decide +kernel
theorem dX10_vowelAt_36 : decode cX10_vowelAt 36 = .ok (.getfield 13, 3) := by decide +kernel
theorem dX10_vowelAt_39 : decode cX10_vowelAt 39 = .ok (.iload_n 1, 1) := by decide +kernel
theorem dX10_vowelAt_40 : decode cX10_vowelAt 40 = .ok (.iload 5, 2) := by decide +kernel
theorem dX10_vowelAt_42 : decode cX10_vowelAt 42 = .ok (.iadd, 1) := by decide +kernel
theorem dX10_vowelAt_43 : decode cX10_vowelAt 43 = .ok (.iaload, 1) := by decide +kernel
theorem dX10_vowelAt_44 : decode cX10_vowelAt 44 = .ok (.ireturn, 1) := by decide +kernel
theorem dX10_vowelAt_45 : decode cX10_vowelAt 45 = .ok (.iinc 4 (-1), 3) := by decide +kernel
theorem dX10_vowelAt_48 : decode cX10_vowelAt 48 = .ok (.iinc 5 1, 3) := by decide +kernel
theorem dX10_vowelAt_51 : decode cX10_vowelAt 51 = .ok (.goto (-45), 3) := by decide +kernel
theorem dX10_vowelAt_54 : decode cX10_vowelAt 54 = .ok (.iconst (-1), 1) := by decide +kernel
theorem dX10_vowelAt_55 : decode cX10_vowelAt 55 = .ok (.ireturn, 1) := by decide +kernel
theorem dX10_kindOf_0 : decode cX10_kindOf 0 = .ok (.aload_n 0, 1) := by decide +kernel
theorem dX10_kindOf_1 : decode cX10_kindOf 1 = .ok (.iload_n 1, 1) := by decide +kernel
theorem dX10_kindOf_2 : decode cX10_kindOf 2 = .ok (.iload_n 2, 1) := by decide +kernel
theorem dX10_kindOf_3 : decode cX10_kindOf 3 = .ok (.invokevirtual 316, 3) := by decide +kernel
theorem dX10_kindOf_6 : decode cX10_kindOf 6 = .ok (.aload_n 0, 1) := by decide +kernel
theorem dX10_kindOf_7 : decode cX10_kindOf 7 = .ok (.getfield 130, 3) := by decide +kernel
theorem dX10_kindOf_10 : decode cX10_kindOf 10 = .ok (.istore 4, 2) := by decide +kernel
theorem dX10_kindOf_12 : decode cX10_kindOf 12 = .ok (.aload_n 0, 1) := by decide +kernel
theorem dX10_kindOf_13 : decode cX10_kindOf 13 = .ok (.getfield 133, 3) := by decide +kernel
theorem dX10_kindOf_16 : decode cX10_kindOf 16 = .ok (.istore 5, 2) := by decide +kernel
theorem dX10_kindOf_18 : decode cX10_kindOf 18 = .ok (.aload_n 0, 1) := by decide +kernel
theorem dX10_kindOf_19 : decode cX10_kindOf 19 = .ok (.getfield 63, 3) := by decide +kernel
theorem dX10_kindOf_22 : decode cX10_kindOf 22 = .ok (.aload_n 0, 1) := by decide +kernel
theorem dX10_kindOf_23 : decode cX10_kindOf 23 = .ok (.getfield 60, 3) := by decide +kernel
theorem dX10_kindOf_26 : decode cX10_kindOf 26 = .ok (.iconst 1, 1) := by decide +kernel
theorem dX10_kindOf_27 : decode cX10_kindOf 27 = .ok (.isub, 1) := by decide +kernel
theorem dX10_kindOf_28 : decode cX10_kindOf 28 = .ok (.iaload, 1) := by decide +kernel
theorem dX10_kindOf_29 : decode cX10_kindOf 29 = .ok (.istore 6, 2) := by decide +kernel
theorem dX10_kindOf_31 : decode cX10_kindOf 31 = .ok (.aload_n 0, 1) := by decide +kernel
theorem dX10_kindOf_32 : decode cX10_kindOf 32 = .ok (.getfield 66, 3) := by decide +kernel
theorem dX10_kindOf_35 : decode cX10_kindOf 35 = .ok (.aload_n 0, 1) := by decide +kernel
theorem dX10_kindOf_36 : decode cX10_kindOf 36 = .ok (.getfield 60, 3) := by decide +kernel
theorem dX10_kindOf_39 : decode cX10_kindOf 39 = .ok (.iconst 1, 1) := by decide +kernel
theorem dX10_kindOf_40 : decode cX10_kindOf 40 = .ok (.isub, 1) := by decide +kernel
theorem dX10_kindOf_41 : decode cX10_kindOf 41 = .ok (.iaload, 1) := by decide +kernel
theorem dX10_kindOf_42 : decode cX10_kindOf 42 = .ok (.istore 7, 2) := by decide +kernel
theorem dX10_kindOf_44 : decode cX10_kindOf 44 = .ok (.aload_n 0, 1) := by decide +kernel
theorem dX10_kindOf_45 : decode cX10_kindOf 45 = .ok (.iload_n 1, 1) := by decide +kernel
theorem dX10_kindOf_46 : decode cX10_kindOf 46 = .ok (.iload_n 3, 1) := by decide +kernel
theorem dX10_kindOf_47 : decode cX10_kindOf 47 = .ok (.invokevirtual 316, 3) := by decide +kernel
theorem dX10_kindOf_50 : decode cX10_kindOf 50 = .ok (.aload_n 0, 1) := by decide +kernel
theorem dX10_kindOf_51 : decode cX10_kindOf 51 = .ok (.iload 6, 2) := by decide +kernel
theorem dX10_kindOf_53 : decode cX10_kindOf 53 = .ok (.iload 7, 2) := by decide +kernel
theorem dX10_kindOf_55 : decode cX10_kindOf 55 = .ok (.aload_n 0, 1) := by decide +kernel
theorem dX10_kindOf_56 : decode cX10_kindOf 56 = .ok (.getfield 63, 3) := by decide +kernel
theorem dX10_kindOf_59 : decode cX10_kindOf 59 = .ok (.aload_n 0, 1) := by decide +kernel
theorem dX10_kindOf_60 : decode cX10_kindOf 60 = .ok (.getfield 60, 3) := by decide +kernel
theorem dX10_kindOf_63 : decode cX10_kindOf 63 = .ok (.iconst 1, 1) := by decide +kernel
theorem dX10_kindOf_64 : decode cX10_kindOf 64 = .ok (.isub, 1) := by decide +kernel
theorem dX10_kindOf_65 : decode cX10_kindOf 65 = .ok (.iaload, 1) := by decide +kernel
theorem dX10_kindOf_66 : decode cX10_kindOf 66 = .ok (.aload_n 0, 1) := by decide +kernel
theorem dX10_kindOf_67 : decode cX10_kindOf 67 = .ok (.getfield 66, 3) := by decide +kernel
theorem dX10_kindOf_70 : decode cX10_kindOf 70 = .ok (.aload_n 0, 1) := by decide +kernel
theorem dX10_kindOf_71 : decode cX10_kindOf 71 = .ok (.getfield 60, 3) := by decide +kernel
theorem dX10_kindOf_74 : decode cX10_kindOf 74 = .ok (.iconst 1, 1) := by decide +kernel
theorem dX10_kindOf_75 : decode cX10_kindOf 75 = .ok (.isub, 1) := by decide +kernel
theorem dX10_kindOf_76 : decode cX10_kindOf 76 = .ok (.iaload, 1) := by decide +kernel
theorem dX10_kindOf_77 : decode cX10_kindOf 77 = .ok (.invokevirtual 319, 3) := by decide +kernel
theorem dX10_kindOf_80 : decode cX10_kindOf 80 = .ok (.ifCond .eq 5, 3) := by decide +kernel
theorem dX10_kindOf_83 : decode cX10_kindOf 83 = .ok (.iconst 3, 1) := by decide +kernel
theorem dX10_kindOf_84 : decode cX10_kindOf 84 = .ok (.ireturn, 1) := by decide +kernel
theorem dX10_kindOf_85 : decode cX10_kindOf 85 = .ok (.aload_n 0, 1) := by decide +kernel
theorem dX10_kindOf_86 : decode cX10_kindOf 86 = .ok (.iload 4, 2) := by decide +kernel
theorem dX10_kindOf_88 : decode cX10_kindOf 88 = .ok (.iload 5, 2) := by decide +kernel
theorem dX10_kindOf_90 : decode cX10_kindOf 90 = .ok (.aload_n 0, 1) := by decide +kernel
theorem dX10_kindOf_91 : decode cX10_kindOf 91 = .ok (.getfield 130, 3) := by decide +kernel
theorem dX10_kindOf_94 : decode cX10_kindOf 94 = .ok (.aload_n 0, 1) := by decide +kernel
theorem dX10_kindOf_95 : decode cX10_kindOf 95 = .ok (.getfield 133, 3) := by decide +kernel
theorem dX10_kindOf_98 : decode cX10_kindOf 98 = .ok (.invokevirtual 319, 3) := by decide +kernel
theorem dX10_kindOf_101 : decode cX10_kindOf 101 = .ok (.ifCond .eq 5, 3) := by decide +kernel
theorem dX10_kindOf_104 : decode cX10_kindOf 104 = .ok (.iconst 2, 1) := by decide +kernel
theorem dX10_kindOf_105 : decode cX10_kindOf 105 = .ok (.ireturn, 1) := by decide +kernel
theorem dX10_kindOf_106 : decode cX10_kindOf 106 = .ok (.iconst 0, 1) := by decide +kernel
theorem dX10_kindOf_107 : decode cX10_kindOf 107 = .ok (.istore 8, 2) := by decide +kernel
theorem dX10_kindOf_109 : decode cX10_kindOf 109 = .ok (.iload 8, 2) := by decide +kernel
theorem dX10_kindOf_111 : decode cX10_kindOf 111 = .ok (.bipush 12, 2) := by decide +kernel
theorem dX10_kindOf_113 : decode cX10_kindOf 113 = .ok (.if_icmp .gt 38, 3) := by decide +kernel
theorem dX10_kindOf_116 : decode cX10_kindOf 116 = .ok (.aload_n 0, 1) := by decide +kernel
theorem dX10_kindOf_117 : decode cX10_kindOf 117 = .ok (.iload 4, 2) := by decide +kernel
theorem dX10_kindOf_119 : decode cX10_kindOf 119 = .ok (.iload 5, 2) := by decide +kernel
theorem dX10_kindOf_121 : decode cX10_kindOf 121 = .ok (.iload 8, 2) := by decide +kernel
theorem dX10_kindOf_123 : decode cX10_kindOf 123 = .ok (.invokevirtual 323, 3) := by decide +kernel
theorem dX10_kindOf_126 : decode cX10_kindOf 126 = .ok (.aload_n 0, 1) := by decide +kernel
theorem dX10_kindOf_127 : decode cX10_kindOf 127 = .ok (.aload_n 0, 1) := by decide +kernel
theorem dX10_kindOf_128 : decode cX10_kindOf 128 = .ok (.getfield 130, 3) := by decide +kernel
theorem dX10_kindOf_131 : decode cX10_kindOf 131 = .ok (.aload_n 0, 1) := by decide +kernel
theorem dX10_kindOf_132 : decode cX10_kindOf 132 = .ok (.getfield 133, 3) := by decide +kernel
theorem dX10_kindOf_135 : decode cX10_kindOf 135 = .ok (.iload 8, 2) := by decide +kernel
theorem dX10_kindOf_137 : decode cX10_kindOf 137 = .ok (.invokevirtual 323, 3) := by decide +kernel
theorem dX10_kindOf_140 : decode cX10_kindOf 140 = .ok (.if_icmp .eq 5, 3) := by decide +kernel
theorem dX10_kindOf_143 : decode cX10_kindOf 143 = .ok (.iconst 0, 1) := by decide +kernel
theorem dX10_kindOf_144 : decode cX10_kindOf 144 = .ok (.ireturn, 1) := by decide +kernel
theorem dX10_kindOf_145 : decode cX10_kindOf 145 = .ok (.iinc 8 1, 3) := by decide +kernel
theorem dX10_kindOf_148 : decode cX10_kindOf 148 = .ok (.goto (-39), 3) := by decide +kernel
theorem dX10_kindOf_151 : decode cX10_kindOf 151 = .ok (.iconst 1, 1) := by decide +kernel
theorem dX10_kindOf_152 : decode cX10_kindOf 152 = .ok (.ireturn, 1) := by decide +kernel
theorem dX10_laysClasses_0 : decode cX10_laysClasses 0 = .ok (.iconst 0, 1) := by decide +kernel
theorem dX10_laysClasses_1 : decode cX10_laysClasses 1 = .ok (.istore_n 2, 1) := by decide +kernel
theorem dX10_laysClasses_2 : decode cX10_laysClasses 2 = .ok (.iload_n 2, 1) := by decide +kernel
theorem dX10_laysClasses_3 : decode cX10_laysClasses 3 = .ok (.aload_n 0, 1) := by decide +kernel
theorem dX10_laysClasses_4 : decode cX10_laysClasses 4 = .ok (.getfield 13, 3) := by decide +kernel
theorem dX10_laysClasses_7 : decode cX10_laysClasses 7 = .ok (.iconst 5, 1) := by decide +kernel
theorem dX10_laysClasses_8 : decode cX10_laysClasses 8 = .ok (.iload_n 1, 1) := by decide +kernel
theorem dX10_laysClasses_9 : decode cX10_laysClasses 9 = .ok (.iadd, 1) := by decide +kernel
theorem dX10_laysClasses_10 : decode cX10_laysClasses 10 = .ok (.iaload, 1) := by decide +kernel
theorem dX10_laysClasses_11 : decode cX10_laysClasses 11 = .ok (.if_icmp .ge 85, 3) := by decide +kernel
theorem dX10_laysClasses_14 : decode cX10_laysClasses 14 = .ok (.iconst (-1), 1) := by decide +kernel
theorem dX10_laysClasses_15 : decode cX10_laysClasses 15 = .ok (.istore_n 3, 1) := by decide +kernel
theorem dX10_laysClasses_16 : decode cX10_laysClasses 16 = .ok (.iconst 0, 1) := by decide +kernel
theorem dX10_laysClasses_17 : decode cX10_laysClasses 17 = .ok (.istore 4, 2) := by decide +kernel
theorem dX10_laysClasses_19 : decode cX10_laysClasses 19 = .ok (.iconst 0, 1) := by decide +kernel
theorem dX10_laysClasses_20 : decode cX10_laysClasses 20 = .ok (.istore 5, 2) := by decide +kernel
theorem dX10_laysClasses_22 : decode cX10_laysClasses 22 = .ok (.iload 5, 2) := by decide +kernel
theorem dX10_laysClasses_24 : decode cX10_laysClasses 24 = .ok (.iload_n 2, 1) := by decide +kernel
theorem dX10_laysClasses_25 : decode cX10_laysClasses 25 = .ok (.if_icmp .ge 49, 3) := by decide +kernel
theorem dX10_laysClasses_28 : decode cX10_laysClasses 28 = .ok (.iload_n 3, 1) := by decide +kernel
theorem dX10_laysClasses_29 : decode cX10_laysClasses 29 = .ok (.ifCond .ge 23, 3) := by decide +kernel
theorem dX10_laysClasses_32 : decode cX10_laysClasses 32 = .ok (.aload_n 0, 1) := by decide +kernel
theorem dX10_laysClasses_33 : decode cX10_laysClasses 33 = .ok (.iload_n 1, 1) := by decide +kernel
theorem dX10_laysClasses_34 : decode cX10_laysClasses 34 = .ok (.iload 5, 2) := by decide +kernel
theorem dX10_laysClasses_36 : decode cX10_laysClasses 36 = .ok (.iload_n 2, 1) := by decide +kernel
theorem dX10_laysClasses_37 : decode cX10_laysClasses 37 = .ok (.invokevirtual 327, 3) := by decide +kernel
theorem dX10_laysClasses_40 : decode cX10_laysClasses 40 = .ok (.iconst 2, 1) := by decide +kernel
theorem dX10_laysClasses_41 : decode cX10_laysClasses 41 = .ok (.if_icmp .lt 11, 3) := by decide +kernel
theorem dX10_laysClasses_44 : decode cX10_laysClasses 44 = .ok (.aload_n 0, 1) := by decide +kernel
theorem dX10_laysClasses_45 : decode cX10_laysClasses 45 = .ok (.getfield 142, 3) := by decide +kernel
theorem dX10_laysClasses_48 : decode cX10_laysClasses 48 = .ok (.iload 5, 2) := by decide +kernel
theorem dX10_laysClasses_50 : decode cX10_laysClasses 50 = .ok (.iaload, 1) := by decide +kernel
theorem dX10_laysClasses_51 : decode cX10_laysClasses 51 = .ok (.istore_n 3, 1) := by decide +kernel
theorem dX10_laysClasses_52 : decode cX10_laysClasses 52 = .ok (.iload 4, 2) := by decide +kernel
theorem dX10_laysClasses_54 : decode cX10_laysClasses 54 = .ok (.aload_n 0, 1) := by decide +kernel
theorem dX10_laysClasses_55 : decode cX10_laysClasses 55 = .ok (.getfield 142, 3) := by decide +kernel
theorem dX10_laysClasses_58 : decode cX10_laysClasses 58 = .ok (.iload 5, 2) := by decide +kernel
theorem dX10_laysClasses_60 : decode cX10_laysClasses 60 = .ok (.iaload, 1) := by decide +kernel
theorem dX10_laysClasses_61 : decode cX10_laysClasses 61 = .ok (.iconst 1, 1) := by decide +kernel
theorem dX10_laysClasses_62 : decode cX10_laysClasses 62 = .ok (.iadd, 1) := by decide +kernel
theorem dX10_laysClasses_63 : decode cX10_laysClasses 63 = .ok (.invokestatic 267, 3) := by decide +kernel
theorem dX10_laysClasses_66 : decode cX10_laysClasses 66 = .ok (.istore 4, 2) := by decide +kernel
theorem dX10_laysClasses_68 : decode cX10_laysClasses 68 = .ok (.iinc 5 1, 3) := by decide +kernel
theorem dX10_laysClasses_71 : decode cX10_laysClasses 71 = .ok (.goto (-49), 3) := by decide +kernel
theorem dX10_laysClasses_74 : decode cX10_laysClasses 74 = .ok (.aload_n 0, 1) := by decide +kernel
theorem dX10_laysClasses_75 : decode cX10_laysClasses 75 = .ok (.getfield 142, 3) := by decide +kernel
theorem dX10_laysClasses_78 : decode cX10_laysClasses 78 = .ok (.iload_n 2, 1) := by decide +kernel
theorem dX10_laysClasses_79 : decode cX10_laysClasses 79 = .ok (.iload_n 3, 1) := by decide +kernel
theorem dX10_laysClasses_80 : decode cX10_laysClasses 80 = .ok (.ifCond .ge 8, 3) := by decide +kernel
theorem dX10_laysClasses_83 : decode cX10_laysClasses 83 = .ok (.iload 4, 2) := by decide +kernel
theorem dX10_laysClasses_85 : decode cX10_laysClasses 85 = .ok (.goto 4, 3) := by decide +kernel
theorem dX10_laysClasses_88 : decode cX10_laysClasses 88 = .ok (.iload_n 3, 1) := by decide +kernel
theorem dX10_laysClasses_89 : decode cX10_laysClasses 89 = .ok (.iastore, 1) := by decide +kernel
theorem dX10_laysClasses_90 : decode cX10_laysClasses 90 = .ok (.iinc 2 1, 3) := by decide +kernel
theorem dX10_laysClasses_93 : decode cX10_laysClasses 93 = .ok (.goto (-91), 3) := by decide +kernel
theorem dX10_laysClasses_96 : decode cX10_laysClasses 96 = .ok (.return_, 1) := by decide +kernel
theorem dX10_rhyme_0 : decode cX10_rhyme 0 = .ok (.aload_n 0, 1) := by decide +kernel
theorem dX10_rhyme_1 : decode cX10_rhyme 1 = .ok (.iconst 0, 1) := by decide +kernel
theorem dX10_rhyme_2 : decode cX10_rhyme 2 = .ok (.putfield 3, 3) := by decide +kernel
theorem dX10_rhyme_5 : decode cX10_rhyme 5 = .ok (.aload_n 0, 1) := by decide +kernel
theorem dX10_rhyme_6 : decode cX10_rhyme 6 = .ok (.iload_n 1, 1) := by decide +kernel
theorem dX10_rhyme_7 : decode cX10_rhyme 7 = .ok (.iload_n 2, 1) := by decide +kernel
theorem dX10_rhyme_8 : decode cX10_rhyme 8 = .ok (.invokevirtual 234, 3) := by decide +kernel
theorem dX10_rhyme_11 : decode cX10_rhyme 11 = .ok (.ifCond .ne 10, 3) := by decide +kernel
theorem dX10_rhyme_14 : decode cX10_rhyme 14 = .ok (.aload_n 0, 1) := by decide +kernel
theorem dX10_rhyme_15 : decode cX10_rhyme 15 = .ok (.iconst 1, 1) := by decide +kernel
theorem dX10_rhyme_16 : decode cX10_rhyme 16 = .ok (.invokevirtual 162, 3) := by decide +kernel
theorem dX10_rhyme_19 : decode cX10_rhyme 19 = .ok (.i2c, 1) := by decide +kernel
theorem dX10_rhyme_20 : decode cX10_rhyme 20 = .ok (.ireturn, 1) := by decide +kernel
theorem dX10_rhyme_21 : decode cX10_rhyme 21 = .ok (.aload_n 0, 1) := by decide +kernel
theorem dX10_rhyme_22 : decode cX10_rhyme 22 = .ok (.iload_n 1, 1) := by decide +kernel
theorem dX10_rhyme_23 : decode cX10_rhyme 23 = .ok (.iload_n 2, 1) := by decide +kernel
theorem dX10_rhyme_24 : decode cX10_rhyme 24 = .ok (.invokevirtual 316, 3) := by decide +kernel
theorem dX10_rhyme_27 : decode cX10_rhyme 27 = .ok (.iload_n 3, 1) := by decide +kernel
theorem dX10_rhyme_28 : decode cX10_rhyme 28 = .ok (.iconst 0, 1) := by decide +kernel
theorem dX10_rhyme_29 : decode cX10_rhyme 29 = .ok (.aload_n 0, 1) := by decide +kernel
theorem dX10_rhyme_30 : decode cX10_rhyme 30 = .ok (.getfield 133, 3) := by decide +kernel
theorem dX10_rhyme_33 : decode cX10_rhyme 33 = .ok (.iconst 1, 1) := by decide +kernel
theorem dX10_rhyme_34 : decode cX10_rhyme 34 = .ok (.isub, 1) := by decide +kernel
theorem dX10_rhyme_35 : decode cX10_rhyme 35 = .ok (.invokestatic 158, 3) := by decide +kernel
theorem dX10_rhyme_38 : decode cX10_rhyme 38 = .ok (.ifCond .eq 18, 3) := by decide +kernel
theorem dX10_rhyme_41 : decode cX10_rhyme 41 = .ok (.aload_n 0, 1) := by decide +kernel
theorem dX10_rhyme_42 : decode cX10_rhyme 42 = .ok (.getfield 13, 3) := by decide +kernel
theorem dX10_rhyme_45 : decode cX10_rhyme 45 = .ok (.aload_n 0, 1) := by decide +kernel
theorem dX10_rhyme_46 : decode cX10_rhyme 46 = .ok (.getfield 130, 3) := by decide +kernel
theorem dX10_rhyme_49 : decode cX10_rhyme 49 = .ok (.iload_n 3, 1) := by decide +kernel
theorem dX10_rhyme_50 : decode cX10_rhyme 50 = .ok (.iadd, 1) := by decide +kernel
theorem dX10_rhyme_51 : decode cX10_rhyme 51 = .ok (.iaload, 1) := by decide +kernel
theorem dX10_rhyme_52 : decode cX10_rhyme 52 = .ok (.i2c, 1) := by decide +kernel
theorem dX10_rhyme_53 : decode cX10_rhyme 53 = .ok (.goto 9, 3) := by decide +kernel
theorem dX10_rhyme_56 : decode cX10_rhyme 56 = .ok (.aload_n 0, 1) := by decide +kernel
theorem dX10_rhyme_57 : decode cX10_rhyme 57 = .ok (.iconst 1, 1) := by decide +kernel
theorem dX10_rhyme_58 : decode cX10_rhyme 58 = .ok (.invokevirtual 162, 3) := by decide +kernel
theorem dX10_rhyme_61 : decode cX10_rhyme 61 = .ok (.i2c, 1) := by decide +kernel
theorem dX10_rhyme_62 : decode cX10_rhyme 62 = .ok (.ireturn, 1) := by decide +kernel
theorem dX10_rhymes_0 : decode cX10_rhymes 0 = .ok (.aload_n 0, 1) := by decide +kernel
theorem dX10_rhymes_1 : decode cX10_rhymes 1 = .ok (.iconst 0, 1) := by decide +kernel
theorem dX10_rhymes_2 : decode cX10_rhymes 2 = .ok (.putfield 3, 3) := by decide +kernel
theorem dX10_rhymes_5 : decode cX10_rhymes 5 = .ok (.aload_n 0, 1) := by decide +kernel
theorem dX10_rhymes_6 : decode cX10_rhymes 6 = .ok (.iload_n 1, 1) := by decide +kernel
theorem dX10_rhymes_7 : decode cX10_rhymes 7 = .ok (.iload_n 2, 1) := by decide +kernel
theorem dX10_rhymes_8 : decode cX10_rhymes 8 = .ok (.invokevirtual 234, 3) := by decide +kernel
theorem dX10_rhymes_11 : decode cX10_rhymes 11 = .ok (.ifCond .eq 22, 3) := by decide +kernel
theorem dX10_rhymes_14 : decode cX10_rhymes 14 = .ok (.aload_n 0, 1) := by decide +kernel
theorem dX10_rhymes_15 : decode cX10_rhymes 15 = .ok (.iload_n 1, 1) := by decide +kernel
theorem dX10_rhymes_16 : decode cX10_rhymes 16 = .ok (.iload_n 3, 1) := by decide +kernel
theorem dX10_rhymes_17 : decode cX10_rhymes 17 = .ok (.invokevirtual 234, 3) := by decide +kernel
theorem dX10_rhymes_20 : decode cX10_rhymes 20 = .ok (.ifCond .eq 13, 3) := by decide +kernel
theorem dX10_rhymes_23 : decode cX10_rhymes 23 = .ok (.aload_n 0, 1) := by decide +kernel
theorem dX10_rhymes_24 : decode cX10_rhymes 24 = .ok (.iload_n 1, 1) := by decide +kernel
theorem dX10_rhymes_25 : decode cX10_rhymes 25 = .ok (.iload_n 2, 1) := by decide +kernel
theorem dX10_rhymes_26 : decode cX10_rhymes 26 = .ok (.iload_n 3, 1) := by decide +kernel
theorem dX10_rhymes_27 : decode cX10_rhymes 27 = .ok (.invokevirtual 327, 3) := by decide +kernel
theorem dX10_rhymes_30 : decode cX10_rhymes 30 = .ok (.goto 8, 3) := by decide +kernel
theorem dX10_rhymes_33 : decode cX10_rhymes 33 = .ok (.aload_n 0, 1) := by decide +kernel
theorem dX10_rhymes_34 : decode cX10_rhymes 34 = .ok (.iconst 1, 1) := by decide +kernel
theorem dX10_rhymes_35 : decode cX10_rhymes 35 = .ok (.invokevirtual 162, 3) := by decide +kernel
theorem dX10_rhymes_38 : decode cX10_rhymes 38 = .ok (.ireturn, 1) := by decide +kernel
theorem dX10_commas_0 : decode cX10_commas 0 = .ok (.iconst 0, 1) := by decide +kernel
theorem dX10_commas_1 : decode cX10_commas 1 = .ok (.istore_n 1, 1) := by decide +kernel
theorem dX10_commas_2 : decode cX10_commas 2 = .ok (.iconst 0, 1) := by decide +kernel
theorem dX10_commas_3 : decode cX10_commas 3 = .ok (.istore_n 2, 1) := by decide +kernel
theorem dX10_commas_4 : decode cX10_commas 4 = .ok (.iload_n 2, 1) := by decide +kernel
theorem dX10_commas_5 : decode cX10_commas 5 = .ok (.aload_n 0, 1) := by decide +kernel
theorem dX10_commas_6 : decode cX10_commas 6 = .ok (.getfield 60, 3) := by decide +kernel
theorem dX10_commas_9 : decode cX10_commas 9 = .ok (.if_icmp .ge 26, 3) := by decide +kernel
theorem dX10_commas_12 : decode cX10_commas 12 = .ok (.iload_n 1, 1) := by decide +kernel
theorem dX10_commas_13 : decode cX10_commas 13 = .ok (.aload_n 0, 1) := by decide +kernel
theorem dX10_commas_14 : decode cX10_commas 14 = .ok (.getfield 75, 3) := by decide +kernel
theorem dX10_commas_17 : decode cX10_commas 17 = .ok (.iload_n 2, 1) := by decide +kernel
theorem dX10_commas_18 : decode cX10_commas 18 = .ok (.baload, 1) := by decide +kernel
theorem dX10_commas_19 : decode cX10_commas 19 = .ok (.ifCond .eq 7, 3) := by decide +kernel
theorem dX10_commas_22 : decode cX10_commas 22 = .ok (.iconst 1, 1) := by decide +kernel
theorem dX10_commas_23 : decode cX10_commas 23 = .ok (.goto 4, 3) := by decide +kernel
theorem dX10_commas_26 : decode cX10_commas 26 = .ok (.iconst 0, 1) := by decide +kernel
theorem dX10_commas_27 : decode cX10_commas 27 = .ok (.iadd, 1) := by decide +kernel
theorem dX10_commas_28 : decode cX10_commas 28 = .ok (.istore_n 1, 1) := by decide +kernel
theorem dX10_commas_29 : decode cX10_commas 29 = .ok (.iinc 2 1, 3) := by decide +kernel
theorem dX10_commas_32 : decode cX10_commas 32 = .ok (.goto (-28), 3) := by decide +kernel
theorem dX10_commas_35 : decode cX10_commas 35 = .ok (.iload_n 1, 1) := by decide +kernel
theorem dX10_commas_36 : decode cX10_commas 36 = .ok (.ireturn, 1) := by decide +kernel
theorem dX10_line_0 : decode cX10_line 0 = .ok (.aload_n 0, 1) := by decide +kernel
theorem dX10_line_1 : decode cX10_line 1 = .ok (.iconst 0, 1) := by decide +kernel
theorem dX10_line_2 : decode cX10_line 2 = .ok (.putfield 3, 3) := by decide +kernel
theorem dX10_line_5 : decode cX10_line 5 = .ok (.aload_n 0, 1) := by decide +kernel
theorem dX10_line_6 : decode cX10_line 6 = .ok (.iload_n 1, 1) := by decide +kernel
theorem dX10_line_7 : decode cX10_line 7 = .ok (.iload_n 2, 1) := by decide +kernel
theorem dX10_line_8 : decode cX10_line 8 = .ok (.invokevirtual 234, 3) := by decide +kernel
theorem dX10_line_11 : decode cX10_line 11 = .ok (.ifCond .ne 9, 3) := by decide +kernel
theorem dX10_line_14 : decode cX10_line 14 = .ok (.aload_n 0, 1) := by decide +kernel
theorem dX10_line_15 : decode cX10_line 15 = .ok (.iconst 1, 1) := by decide +kernel
theorem dX10_line_16 : decode cX10_line 16 = .ok (.invokevirtual 162, 3) := by decide +kernel
theorem dX10_line_19 : decode cX10_line 19 = .ok (.ireturn, 1) := by decide +kernel
theorem dX10_line_20 : decode cX10_line 20 = .ok (.iload_n 3, 1) := by decide +kernel
theorem dX10_line_21 : decode cX10_line 21 = .ok (.iconst 5, 1) := by decide +kernel
theorem dX10_line_22 : decode cX10_line 22 = .ok (.if_icmp .ne 8, 3) := by decide +kernel
theorem dX10_line_25 : decode cX10_line 25 = .ok (.aload_n 0, 1) := by decide +kernel
theorem dX10_line_26 : decode cX10_line 26 = .ok (.iload_n 1, 1) := by decide +kernel
theorem dX10_line_27 : decode cX10_line 27 = .ok (.invokevirtual 330, 3) := by decide +kernel
theorem dX10_line_30 : decode cX10_line 30 = .ok (.aload_n 0, 1) := by decide +kernel
theorem dX10_line_31 : decode cX10_line 31 = .ok (.iload_n 1, 1) := by decide +kernel
theorem dX10_line_32 : decode cX10_line 32 = .ok (.iload_n 2, 1) := by decide +kernel
theorem dX10_line_33 : decode cX10_line 33 = .ok (.invokevirtual 294, 3) := by decide +kernel
theorem dX10_line_36 : decode cX10_line 36 = .ok (.iload_n 3, 1) := by decide +kernel
theorem dX10_line_37 : decode cX10_line 37 = .ok (.tableswitch 86 0 6 #[43, 48, 53, 58, 63, 68, 75], 43) := by decide +kernel
theorem dX10_line_80 : decode cX10_line 80 = .ok (.aload_n 0, 1) := by decide +kernel
theorem dX10_line_81 : decode cX10_line 81 = .ok (.getfield 60, 3) := by decide +kernel
theorem dX10_line_84 : decode cX10_line 84 = .ok (.ireturn, 1) := by decide +kernel
theorem dX10_line_85 : decode cX10_line 85 = .ok (.aload_n 0, 1) := by decide +kernel
theorem dX10_line_86 : decode cX10_line 86 = .ok (.invokevirtual 310, 3) := by decide +kernel
theorem dX10_line_89 : decode cX10_line 89 = .ok (.ireturn, 1) := by decide +kernel
theorem dX10_line_90 : decode cX10_line 90 = .ok (.aload_n 0, 1) := by decide +kernel
theorem dX10_line_91 : decode cX10_line 91 = .ok (.invokevirtual 258, 3) := by decide +kernel
theorem dX10_line_94 : decode cX10_line 94 = .ok (.ireturn, 1) := by decide +kernel
theorem dX10_line_95 : decode cX10_line 95 = .ok (.aload_n 0, 1) := by decide +kernel
theorem dX10_line_96 : decode cX10_line 96 = .ok (.invokevirtual 313, 3) := by decide +kernel
theorem dX10_line_99 : decode cX10_line 99 = .ok (.ireturn, 1) := by decide +kernel
theorem dX10_line_100 : decode cX10_line 100 = .ok (.aload_n 0, 1) := by decide +kernel
theorem dX10_line_101 : decode cX10_line 101 = .ok (.invokevirtual 333, 3) := by decide +kernel
theorem dX10_line_104 : decode cX10_line 104 = .ok (.ireturn, 1) := by decide +kernel
theorem dX10_line_105 : decode cX10_line 105 = .ok (.aload_n 0, 1) := by decide +kernel
theorem dX10_line_106 : decode cX10_line 106 = .ok (.getfield 142, 3) := by decide +kernel
theorem dX10_line_109 : decode cX10_line 109 = .ok (.iload_n 2, 1) := by decide +kernel
theorem dX10_line_110 : decode cX10_line 110 = .ok (.iaload, 1) := by decide +kernel
theorem dX10_line_111 : decode cX10_line 111 = .ok (.ireturn, 1) := by decide +kernel
theorem dX10_line_112 : decode cX10_line 112 = .ok (.aload_n 0, 1) := by decide +kernel
theorem dX10_line_113 : decode cX10_line 113 = .ok (.iload_n 1, 1) := by decide +kernel
theorem dX10_line_114 : decode cX10_line 114 = .ok (.iload_n 2, 1) := by decide +kernel
theorem dX10_line_115 : decode cX10_line 115 = .ok (.invokevirtual 316, 3) := by decide +kernel
theorem dX10_line_118 : decode cX10_line 118 = .ok (.aload_n 0, 1) := by decide +kernel
theorem dX10_line_119 : decode cX10_line 119 = .ok (.getfield 133, 3) := by decide +kernel
theorem dX10_line_122 : decode cX10_line 122 = .ok (.ireturn, 1) := by decide +kernel
theorem dX10_line_123 : decode cX10_line 123 = .ok (.aload_n 0, 1) := by decide +kernel
theorem dX10_line_124 : decode cX10_line 124 = .ok (.iconst 2, 1) := by decide +kernel
theorem dX10_line_125 : decode cX10_line 125 = .ok (.invokevirtual 162, 3) := by decide +kernel
theorem dX10_line_128 : decode cX10_line 128 = .ok (.ireturn, 1) := by decide +kernel
theorem dX10_marksTold_0 : decode cX10_marksTold 0 = .ok (.iconst 0, 1) := by decide +kernel
theorem dX10_marksTold_1 : decode cX10_marksTold 1 = .ok (.istore_n 2, 1) := by decide +kernel
theorem dX10_marksTold_2 : decode cX10_marksTold 2 = .ok (.iconst 0, 1) := by decide +kernel
theorem dX10_marksTold_3 : decode cX10_marksTold 3 = .ok (.istore_n 3, 1) := by decide +kernel
theorem dX10_marksTold_4 : decode cX10_marksTold 4 = .ok (.iload_n 3, 1) := by decide +kernel
theorem dX10_marksTold_5 : decode cX10_marksTold 5 = .ok (.aload_n 0, 1) := by decide +kernel
theorem dX10_marksTold_6 : decode cX10_marksTold 6 = .ok (.getfield 69, 3) := by decide +kernel
theorem dX10_marksTold_9 : decode cX10_marksTold 9 = .ok (.iload_n 1, 1) := by decide +kernel
theorem dX10_marksTold_10 : decode cX10_marksTold 10 = .ok (.iaload, 1) := by decide +kernel
theorem dX10_marksTold_11 : decode cX10_marksTold 11 = .ok (.if_icmp .ge 26, 3) := by decide +kernel
theorem dX10_marksTold_14 : decode cX10_marksTold 14 = .ok (.bipush 10, 2) := by decide +kernel
theorem dX10_marksTold_16 : decode cX10_marksTold 16 = .ok (.iload_n 2, 1) := by decide +kernel
theorem dX10_marksTold_17 : decode cX10_marksTold 17 = .ok (.imul, 1) := by decide +kernel
theorem dX10_marksTold_18 : decode cX10_marksTold 18 = .ok (.aload_n 0, 1) := by decide +kernel
theorem dX10_marksTold_19 : decode cX10_marksTold 19 = .ok (.getfield 72, 3) := by decide +kernel
theorem dX10_marksTold_22 : decode cX10_marksTold 22 = .ok (.bipush 12, 2) := by decide +kernel
theorem dX10_marksTold_24 : decode cX10_marksTold 24 = .ok (.iload_n 1, 1) := by decide +kernel
theorem dX10_marksTold_25 : decode cX10_marksTold 25 = .ok (.imul, 1) := by decide +kernel
theorem dX10_marksTold_26 : decode cX10_marksTold 26 = .ok (.iload_n 3, 1) := by decide +kernel
theorem dX10_marksTold_27 : decode cX10_marksTold 27 = .ok (.iadd, 1) := by decide +kernel
theorem dX10_marksTold_28 : decode cX10_marksTold 28 = .ok (.iaload, 1) := by decide +kernel
theorem dX10_marksTold_29 : decode cX10_marksTold 29 = .ok (.iadd, 1) := by decide +kernel
theorem dX10_marksTold_30 : decode cX10_marksTold 30 = .ok (.istore_n 2, 1) := by decide +kernel
theorem dX10_marksTold_31 : decode cX10_marksTold 31 = .ok (.iinc 3 1, 3) := by decide +kernel
theorem dX10_marksTold_34 : decode cX10_marksTold 34 = .ok (.goto (-30), 3) := by decide +kernel
theorem dX10_marksTold_37 : decode cX10_marksTold 37 = .ok (.iload_n 2, 1) := by decide +kernel
theorem dX10_marksTold_38 : decode cX10_marksTold 38 = .ok (.ireturn, 1) := by decide +kernel
theorem dX10_word__0 : decode cX10_word_ 0 = .ok (.aload_n 0, 1) := by decide +kernel
theorem dX10_word__1 : decode cX10_word_ 1 = .ok (.iconst 0, 1) := by decide +kernel
theorem dX10_word__2 : decode cX10_word_ 2 = .ok (.putfield 3, 3) := by decide +kernel
theorem dX10_word__5 : decode cX10_word_ 5 = .ok (.aload_n 0, 1) := by decide +kernel
theorem dX10_word__6 : decode cX10_word_ 6 = .ok (.iload_n 1, 1) := by decide +kernel
theorem dX10_word__7 : decode cX10_word_ 7 = .ok (.iload_n 2, 1) := by decide +kernel
theorem dX10_word__8 : decode cX10_word_ 8 = .ok (.invokevirtual 234, 3) := by decide +kernel
theorem dX10_word__11 : decode cX10_word_ 11 = .ok (.ifCond .ne 9, 3) := by decide +kernel
theorem dX10_word__14 : decode cX10_word_ 14 = .ok (.aload_n 0, 1) := by decide +kernel
theorem dX10_word__15 : decode cX10_word_ 15 = .ok (.iconst 1, 1) := by decide +kernel
theorem dX10_word__16 : decode cX10_word_ 16 = .ok (.invokevirtual 162, 3) := by decide +kernel
theorem dX10_word__19 : decode cX10_word_ 19 = .ok (.ireturn, 1) := by decide +kernel
theorem dX10_word__20 : decode cX10_word_ 20 = .ok (.aload_n 0, 1) := by decide +kernel
theorem dX10_word__21 : decode cX10_word_ 21 = .ok (.iload_n 1, 1) := by decide +kernel
theorem dX10_word__22 : decode cX10_word_ 22 = .ok (.iload_n 2, 1) := by decide +kernel
theorem dX10_word__23 : decode cX10_word_ 23 = .ok (.invokevirtual 294, 3) := by decide +kernel
theorem dX10_word__26 : decode cX10_word_ 26 = .ok (.iload_n 3, 1) := by decide +kernel
theorem dX10_word__27 : decode cX10_word_ 27 = .ok (.iconst 0, 1) := by decide +kernel
theorem dX10_word__28 : decode cX10_word_ 28 = .ok (.aload_n 0, 1) := by decide +kernel
theorem dX10_word__29 : decode cX10_word_ 29 = .ok (.getfield 60, 3) := by decide +kernel
theorem dX10_word__32 : decode cX10_word_ 32 = .ok (.iconst 1, 1) := by decide +kernel
theorem dX10_word__33 : decode cX10_word_ 33 = .ok (.isub, 1) := by decide +kernel
theorem dX10_word__34 : decode cX10_word_ 34 = .ok (.invokestatic 158, 3) := by decide +kernel
theorem dX10_word__37 : decode cX10_word_ 37 = .ok (.ifCond .ne 9, 3) := by decide +kernel
theorem dX10_word__40 : decode cX10_word_ 40 = .ok (.aload_n 0, 1) := by decide +kernel
theorem dX10_word__41 : decode cX10_word_ 41 = .ok (.iconst 1, 1) := by decide +kernel
theorem dX10_word__42 : decode cX10_word_ 42 = .ok (.invokevirtual 162, 3) := by decide +kernel
theorem dX10_word__45 : decode cX10_word_ 45 = .ok (.ireturn, 1) := by decide +kernel
theorem dX10_word__46 : decode cX10_word_ 46 = .ok (.iload 4, 2) := by decide +kernel
theorem dX10_word__48 : decode cX10_word_ 48 = .ok (.tableswitch 106 0 5 #[40, 47, 57, 64, 79, 100], 40) := by decide +kernel
theorem dX10_word__88 : decode cX10_word_ 88 = .ok (.aload_n 0, 1) := by decide +kernel
theorem dX10_word__89 : decode cX10_word_ 89 = .ok (.getfield 66, 3) := by decide +kernel
theorem dX10_word__92 : decode cX10_word_ 92 = .ok (.iload_n 3, 1) := by decide +kernel
theorem dX10_word__93 : decode cX10_word_ 93 = .ok (.iaload, 1) := by decide +kernel
theorem dX10_word__94 : decode cX10_word_ 94 = .ok (.ireturn, 1) := by decide +kernel
theorem dX10_word__95 : decode cX10_word_ 95 = .ok (.aload_n 0, 1) := by decide +kernel
theorem dX10_word__96 : decode cX10_word_ 96 = .ok (.iload_n 3, 1) := by decide +kernel
theorem dX10_word__97 : decode cX10_word_ 97 = .ok (.invokevirtual 249, 3) := by decide +kernel
theorem dX10_word__100 : decode cX10_word_ 100 = .ok (.aload_n 0, 1) := by decide +kernel
theorem dX10_word__101 : decode cX10_word_ 101 = .ok (.getfield 85, 3) := by decide +kernel
theorem dX10_word__104 : decode cX10_word_ 104 = .ok (.ireturn, 1) := by decide +kernel
theorem dX10_word__105 : decode cX10_word_ 105 = .ok (.aload_n 0, 1) := by decide +kernel
theorem dX10_word__106 : decode cX10_word_ 106 = .ok (.getfield 69, 3) := by decide +kernel
theorem dX10_word__109 : decode cX10_word_ 109 = .ok (.iload_n 3, 1) := by decide +kernel
theorem dX10_word__110 : decode cX10_word_ 110 = .ok (.iaload, 1) := by decide +kernel
theorem dX10_word__111 : decode cX10_word_ 111 = .ok (.ireturn, 1) := by decide +kernel
theorem dX10_word__112 : decode cX10_word_ 112 = .ok (.aload_n 0, 1) := by decide +kernel
theorem dX10_word__113 : decode cX10_word_ 113 = .ok (.getfield 75, 3) := by decide +kernel
theorem dX10_word__116 : decode cX10_word_ 116 = .ok (.iload_n 3, 1) := by decide +kernel
theorem dX10_word__117 : decode cX10_word_ 117 = .ok (.baload, 1) := by decide +kernel
theorem dX10_word__118 : decode cX10_word_ 118 = .ok (.ifCond .eq 7, 3) := by decide +kernel
theorem dX10_word__121 : decode cX10_word_ 121 = .ok (.iconst 1, 1) := by decide +kernel
theorem dX10_word__122 : decode cX10_word_ 122 = .ok (.goto 4, 3) := by decide +kernel
theorem dX10_word__125 : decode cX10_word_ 125 = .ok (.iconst 0, 1) := by decide +kernel
theorem dX10_word__126 : decode cX10_word_ 126 = .ok (.ireturn, 1) := by decide +kernel
theorem dX10_word__127 : decode cX10_word_ 127 = .ok (.aload_n 0, 1) := by decide +kernel
theorem dX10_word__128 : decode cX10_word_ 128 = .ok (.aload_n 0, 1) := by decide +kernel
theorem dX10_word__129 : decode cX10_word_ 129 = .ok (.getfield 13, 3) := by decide +kernel
theorem dX10_word__132 : decode cX10_word_ 132 = .ok (.aload_n 0, 1) := by decide +kernel
theorem dX10_word__133 : decode cX10_word_ 133 = .ok (.getfield 63, 3) := by decide +kernel
theorem dX10_word__136 : decode cX10_word_ 136 = .ok (.iload_n 3, 1) := by decide +kernel
theorem dX10_word__137 : decode cX10_word_ 137 = .ok (.iaload, 1) := by decide +kernel
theorem dX10_word__138 : decode cX10_word_ 138 = .ok (.aload_n 0, 1) := by decide +kernel
theorem dX10_word__139 : decode cX10_word_ 139 = .ok (.getfield 66, 3) := by decide +kernel
theorem dX10_word__142 : decode cX10_word_ 142 = .ok (.iload_n 3, 1) := by decide +kernel
theorem dX10_word__143 : decode cX10_word_ 143 = .ok (.iaload, 1) := by decide +kernel
theorem dX10_word__144 : decode cX10_word_ 144 = .ok (.invokevirtual 214, 3) := by decide +kernel
theorem dX10_word__147 : decode cX10_word_ 147 = .ok (.ireturn, 1) := by decide +kernel
theorem dX10_word__148 : decode cX10_word_ 148 = .ok (.aload_n 0, 1) := by decide +kernel
theorem dX10_word__149 : decode cX10_word_ 149 = .ok (.iload_n 3, 1) := by decide +kernel
theorem dX10_word__150 : decode cX10_word_ 150 = .ok (.invokevirtual 336, 3) := by decide +kernel
theorem dX10_word__153 : decode cX10_word_ 153 = .ok (.ireturn, 1) := by decide +kernel
theorem dX10_word__154 : decode cX10_word_ 154 = .ok (.aload_n 0, 1) := by decide +kernel
theorem dX10_word__155 : decode cX10_word_ 155 = .ok (.iconst 2, 1) := by decide +kernel
theorem dX10_word__156 : decode cX10_word_ 156 = .ok (.invokevirtual 162, 3) := by decide +kernel
theorem dX10_word__159 : decode cX10_word_ 159 = .ok (.ireturn, 1) := by decide +kernel
theorem dX10_apart_0 : decode cX10_apart 0 = .ok (.aload_n 0, 1) := by decide +kernel
theorem dX10_apart_1 : decode cX10_apart 1 = .ok (.iload_n 1, 1) := by decide +kernel
theorem dX10_apart_2 : decode cX10_apart 2 = .ok (.iload_n 2, 1) := by decide +kernel
theorem dX10_apart_3 : decode cX10_apart 3 = .ok (.invokevirtual 294, 3) := by decide +kernel
theorem dX10_apart_6 : decode cX10_apart 6 = .ok (.aload_n 0, 1) := by decide +kernel
theorem dX10_apart_7 : decode cX10_apart 7 = .ok (.getfield 60, 3) := by decide +kernel
theorem dX10_apart_10 : decode cX10_apart 10 = .ok (.istore 5, 2) := by decide +kernel
theorem dX10_apart_12 : decode cX10_apart 12 = .ok (.iconst 0, 1) := by decide +kernel
theorem dX10_apart_13 : decode cX10_apart 13 = .ok (.istore 6, 2) := by decide +kernel
theorem dX10_apart_15 : decode cX10_apart 15 = .ok (.iload 6, 2) := by decide +kernel
theorem dX10_apart_17 : decode cX10_apart 17 = .ok (.iload 5, 2) := by decide +kernel
theorem dX10_apart_19 : decode cX10_apart 19 = .ok (.if_icmp .ge 37, 3) := by decide +kernel
theorem dX10_apart_22 : decode cX10_apart 22 = .ok (.aload_n 0, 1) := by decide +kernel
theorem dX10_apart_23 : decode cX10_apart 23 = .ok (.getfield 145, 3) := by decide +kernel
theorem dX10_apart_26 : decode cX10_apart 26 = .ok (.iload 6, 2) := by decide +kernel
theorem dX10_apart_28 : decode cX10_apart 28 = .ok (.aload_n 0, 1) := by decide +kernel
theorem dX10_apart_29 : decode cX10_apart 29 = .ok (.getfield 63, 3) := by decide +kernel
theorem dX10_apart_32 : decode cX10_apart 32 = .ok (.iload 6, 2) := by decide +kernel
theorem dX10_apart_34 : decode cX10_apart 34 = .ok (.iaload, 1) := by decide +kernel
theorem dX10_apart_35 : decode cX10_apart 35 = .ok (.iastore, 1) := by decide +kernel
theorem dX10_apart_36 : decode cX10_apart 36 = .ok (.aload_n 0, 1) := by decide +kernel
theorem dX10_apart_37 : decode cX10_apart 37 = .ok (.getfield 148, 3) := by decide +kernel
theorem dX10_apart_40 : decode cX10_apart 40 = .ok (.iload 6, 2) := by decide +kernel
theorem dX10_apart_42 : decode cX10_apart 42 = .ok (.aload_n 0, 1) := by decide +kernel
theorem dX10_apart_43 : decode cX10_apart 43 = .ok (.getfield 66, 3) := by decide +kernel
theorem dX10_apart_46 : decode cX10_apart 46 = .ok (.iload 6, 2) := by decide +kernel
theorem dX10_apart_48 : decode cX10_apart 48 = .ok (.iaload, 1) := by decide +kernel
theorem dX10_apart_49 : decode cX10_apart 49 = .ok (.iastore, 1) := by decide +kernel
theorem dX10_apart_50 : decode cX10_apart 50 = .ok (.iinc 6 1, 3) := by decide +kernel
theorem dX10_apart_53 : decode cX10_apart 53 = .ok (.goto (-38), 3) := by decide +kernel
theorem dX10_apart_56 : decode cX10_apart 56 = .ok (.aload_n 0, 1) := by decide +kernel
theorem dX10_apart_57 : decode cX10_apart 57 = .ok (.iload_n 3, 1) := by decide +kernel
theorem dX10_apart_58 : decode cX10_apart 58 = .ok (.iload 4, 2) := by decide +kernel
theorem dX10_apart_60 : decode cX10_apart 60 = .ok (.invokevirtual 294, 3) := by decide +kernel
theorem dX10_apart_63 : decode cX10_apart 63 = .ok (.iconst 0, 1) := by decide +kernel
theorem dX10_apart_64 : decode cX10_apart 64 = .ok (.istore 6, 2) := by decide +kernel
theorem dX10_apart_66 : decode cX10_apart 66 = .ok (.iconst 0, 1) := by decide +kernel
theorem dX10_apart_67 : decode cX10_apart 67 = .ok (.istore 7, 2) := by decide +kernel
theorem dX10_apart_69 : decode cX10_apart 69 = .ok (.iload 7, 2) := by decide +kernel
theorem dX10_apart_71 : decode cX10_apart 71 = .ok (.bipush 12, 2) := by decide +kernel
theorem dX10_apart_73 : decode cX10_apart 73 = .ok (.if_icmp .ge 90, 3) := by decide +kernel
theorem dX10_apart_76 : decode cX10_apart 76 = .ok (.iload 6, 2) := by decide +kernel
theorem dX10_apart_78 : decode cX10_apart 78 = .ok (.iload 7, 2) := by decide +kernel
theorem dX10_apart_80 : decode cX10_apart 80 = .ok (.iload 5, 2) := by decide +kernel
theorem dX10_apart_82 : decode cX10_apart 82 = .ok (.if_icmp .ge 7, 3) := by decide +kernel
theorem dX10_apart_85 : decode cX10_apart 85 = .ok (.iconst 1, 1) := by decide +kernel
theorem dX10_apart_86 : decode cX10_apart 86 = .ok (.goto 4, 3) := by decide +kernel
theorem dX10_apart_89 : decode cX10_apart 89 = .ok (.iconst 0, 1) := by decide +kernel
theorem dX10_apart_90 : decode cX10_apart 90 = .ok (.iload 7, 2) := by decide +kernel
theorem dX10_apart_92 : decode cX10_apart 92 = .ok (.aload_n 0, 1) := by decide +kernel
theorem dX10_apart_93 : decode cX10_apart 93 = .ok (.getfield 60, 3) := by decide +kernel
theorem dX10_apart_96 : decode cX10_apart 96 = .ok (.if_icmp .ge 7, 3) := by decide +kernel
theorem dX10_apart_99 : decode cX10_apart 99 = .ok (.iconst 1, 1) := by decide +kernel
theorem dX10_apart_100 : decode cX10_apart 100 = .ok (.goto 4, 3) := by decide +kernel
theorem dX10_apart_103 : decode cX10_apart 103 = .ok (.iconst 0, 1) := by decide +kernel
theorem dX10_apart_104 : decode cX10_apart 104 = .ok (.if_icmp .ne 45, 3) := by decide +kernel
theorem dX10_apart_107 : decode cX10_apart 107 = .ok (.iload 7, 2) := by decide +kernel
theorem dX10_apart_109 : decode cX10_apart 109 = .ok (.iload 5, 2) := by decide +kernel
theorem dX10_apart_111 : decode cX10_apart 111 = .ok (.if_icmp .ge 42, 3) := by decide +kernel
theorem dX10_apart_114 : decode cX10_apart 114 = .ok (.aload_n 0, 1) := by decide +kernel
theorem dX10_apart_115 : decode cX10_apart 115 = .ok (.aload_n 0, 1) := by decide +kernel
theorem dX10_apart_116 : decode cX10_apart 116 = .ok (.getfield 145, 3) := by decide +kernel
theorem dX10_apart_119 : decode cX10_apart 119 = .ok (.iload 7, 2) := by decide +kernel
theorem dX10_apart_121 : decode cX10_apart 121 = .ok (.iaload, 1) := by decide +kernel
theorem dX10_apart_122 : decode cX10_apart 122 = .ok (.aload_n 0, 1) := by decide +kernel
theorem dX10_apart_123 : decode cX10_apart 123 = .ok (.getfield 148, 3) := by decide +kernel
theorem dX10_apart_126 : decode cX10_apart 126 = .ok (.iload 7, 2) := by decide +kernel
theorem dX10_apart_128 : decode cX10_apart 128 = .ok (.iaload, 1) := by decide +kernel
theorem dX10_apart_129 : decode cX10_apart 129 = .ok (.aload_n 0, 1) := by decide +kernel
theorem dX10_apart_130 : decode cX10_apart 130 = .ok (.getfield 63, 3) := by decide +kernel
theorem dX10_apart_133 : decode cX10_apart 133 = .ok (.iload 7, 2) := by decide +kernel
theorem dX10_apart_135 : decode cX10_apart 135 = .ok (.iaload, 1) := by decide +kernel
theorem dX10_apart_136 : decode cX10_apart 136 = .ok (.aload_n 0, 1) := by decide +kernel
theorem dX10_apart_137 : decode cX10_apart 137 = .ok (.getfield 66, 3) := by decide +kernel
theorem dX10_apart_140 : decode cX10_apart 140 = .ok (.iload 7, 2) := by decide +kernel
theorem dX10_apart_142 : decode cX10_apart 142 = .ok (.iaload, 1) := by decide +kernel
theorem dX10_apart_143 : decode cX10_apart 143 = .ok (.invokevirtual 319, 3) := by decide +kernel
theorem dX10_apart_146 : decode cX10_apart 146 = .ok (.ifCond .ne 7, 3) := by decide +kernel
theorem dX10_apart_149 : decode cX10_apart 149 = .ok (.iconst 1, 1) := by decide +kernel
theorem dX10_apart_150 : decode cX10_apart 150 = .ok (.goto 4, 3) := by decide +kernel
theorem dX10_apart_153 : decode cX10_apart 153 = .ok (.iconst 0, 1) := by decide +kernel
theorem dX10_apart_154 : decode cX10_apart 154 = .ok (.iadd, 1) := by decide +kernel
theorem dX10_apart_155 : decode cX10_apart 155 = .ok (.istore 6, 2) := by decide +kernel
theorem dX10_apart_157 : decode cX10_apart 157 = .ok (.iinc 7 1, 3) := by decide +kernel
theorem dX10_apart_160 : decode cX10_apart 160 = .ok (.goto (-91), 3) := by decide +kernel
theorem dX10_apart_163 : decode cX10_apart 163 = .ok (.iconst 5, 1) := by decide +kernel
theorem dX10_apart_164 : decode cX10_apart 164 = .ok (.iload 6, 2) := by decide +kernel
theorem dX10_apart_166 : decode cX10_apart 166 = .ok (.invokestatic 339, 3) := by decide +kernel
theorem dX10_apart_169 : decode cX10_apart 169 = .ok (.ireturn, 1) := by decide +kernel
theorem dX10_difference_0 : decode cX10_difference 0 = .ok (.aload_n 0, 1) := by decide +kernel
theorem dX10_difference_1 : decode cX10_difference 1 = .ok (.iconst 0, 1) := by decide +kernel
theorem dX10_difference_2 : decode cX10_difference 2 = .ok (.putfield 3, 3) := by decide +kernel
theorem dX10_difference_5 : decode cX10_difference 5 = .ok (.iload_n 1, 1) := by decide +kernel
theorem dX10_difference_6 : decode cX10_difference 6 = .ok (.invokestatic 218, 3) := by decide +kernel
theorem dX10_difference_9 : decode cX10_difference 9 = .ok (.ifCond .eq 10, 3) := by decide +kernel
theorem dX10_difference_12 : decode cX10_difference 12 = .ok (.iload_n 2, 1) := by decide +kernel
theorem dX10_difference_13 : decode cX10_difference 13 = .ok (.invokestatic 218, 3) := by decide +kernel
theorem dX10_difference_16 : decode cX10_difference 16 = .ok (.ifCond .ne 9, 3) := by decide +kernel
theorem dX10_difference_19 : decode cX10_difference 19 = .ok (.aload_n 0, 1) := by decide +kernel
theorem dX10_difference_20 : decode cX10_difference 20 = .ok (.iconst 1, 1) := by decide +kernel
theorem dX10_difference_21 : decode cX10_difference 21 = .ok (.invokevirtual 162, 3) := by decide +kernel
theorem dX10_difference_24 : decode cX10_difference 24 = .ok (.ireturn, 1) := by decide +kernel
theorem dX10_difference_25 : decode cX10_difference 25 = .ok (.aload_n 0, 1) := by decide +kernel
theorem dX10_difference_26 : decode cX10_difference 26 = .ok (.getfield 13, 3) := by decide +kernel
theorem dX10_difference_29 : decode cX10_difference 29 = .ok (.iconst 5, 1) := by decide +kernel
theorem dX10_difference_30 : decode cX10_difference 30 = .ok (.iload_n 1, 1) := by decide +kernel
theorem dX10_difference_31 : decode cX10_difference 31 = .ok (.iadd, 1) := by decide +kernel
theorem dX10_difference_32 : decode cX10_difference 32 = .ok (.iaload, 1) := by decide +kernel
theorem dX10_difference_33 : decode cX10_difference 33 = .ok (.istore_n 3, 1) := by decide +kernel
theorem dX10_difference_34 : decode cX10_difference 34 = .ok (.aload_n 0, 1) := by decide +kernel
theorem dX10_difference_35 : decode cX10_difference 35 = .ok (.getfield 13, 3) := by decide +kernel
theorem dX10_difference_38 : decode cX10_difference 38 = .ok (.iconst 5, 1) := by decide +kernel
theorem dX10_difference_39 : decode cX10_difference 39 = .ok (.iload_n 2, 1) := by decide +kernel
theorem dX10_difference_40 : decode cX10_difference 40 = .ok (.iadd, 1) := by decide +kernel
theorem dX10_difference_41 : decode cX10_difference 41 = .ok (.iaload, 1) := by decide +kernel
theorem dX10_difference_42 : decode cX10_difference 42 = .ok (.istore 4, 2) := by decide +kernel
theorem dX10_difference_44 : decode cX10_difference 44 = .ok (.iconst 0, 1) := by decide +kernel
theorem dX10_difference_45 : decode cX10_difference 45 = .ok (.istore 5, 2) := by decide +kernel
theorem dX10_difference_47 : decode cX10_difference 47 = .ok (.iload 5, 2) := by decide +kernel
theorem dX10_difference_49 : decode cX10_difference 49 = .ok (.iload_n 3, 1) := by decide +kernel
theorem dX10_difference_50 : decode cX10_difference 50 = .ok (.if_icmp .gt 150, 3) := by decide +kernel
theorem dX10_difference_53 : decode cX10_difference 53 = .ok (.iconst 0, 1) := by decide +kernel
theorem dX10_difference_54 : decode cX10_difference 54 = .ok (.istore 6, 2) := by decide +kernel
theorem dX10_difference_56 : decode cX10_difference 56 = .ok (.iload 6, 2) := by decide +kernel
theorem dX10_difference_58 : decode cX10_difference 58 = .ok (.iload 4, 2) := by decide +kernel
theorem dX10_difference_60 : decode cX10_difference 60 = .ok (.if_icmp .gt 134, 3) := by decide +kernel
theorem dX10_difference_63 : decode cX10_difference 63 = .ok (.iload 5, 2) := by decide +kernel
theorem dX10_difference_65 : decode cX10_difference 65 = .ok (.ifCond .ne 10, 3) := by decide +kernel
theorem dX10_difference_68 : decode cX10_difference 68 = .ok (.iconst 3, 1) := by decide +kernel
theorem dX10_difference_69 : decode cX10_difference 69 = .ok (.iload 6, 2) := by decide +kernel
theorem dX10_difference_71 : decode cX10_difference 71 = .ok (.imul, 1) := by decide +kernel
theorem dX10_difference_72 : decode cX10_difference 72 = .ok (.goto 47, 3) := by decide +kernel
theorem dX10_difference_75 : decode cX10_difference 75 = .ok (.iload 6, 2) := by decide +kernel
theorem dX10_difference_77 : decode cX10_difference 77 = .ok (.ifCond .ne 10, 3) := by decide +kernel
theorem dX10_difference_80 : decode cX10_difference 80 = .ok (.iconst 3, 1) := by decide +kernel
theorem dX10_difference_81 : decode cX10_difference 81 = .ok (.iload 5, 2) := by decide +kernel
theorem dX10_difference_83 : decode cX10_difference 83 = .ok (.imul, 1) := by decide +kernel
theorem dX10_difference_84 : decode cX10_difference 84 = .ok (.goto 35, 3) := by decide +kernel
theorem dX10_difference_87 : decode cX10_difference 87 = .ok (.aload_n 0, 1) := by decide +kernel
theorem dX10_difference_88 : decode cX10_difference 88 = .ok (.getfield 151, 3) := by decide +kernel
theorem dX10_difference_91 : decode cX10_difference 91 = .ok (.bipush 11, 2) := by decide +kernel
theorem dX10_difference_93 : decode cX10_difference 93 = .ok (.iload 5, 2) := by decide +kernel
theorem dX10_difference_95 : decode cX10_difference 95 = .ok (.iconst 1, 1) := by decide +kernel
theorem dX10_difference_96 : decode cX10_difference 96 = .ok (.isub, 1) := by decide +kernel
theorem dX10_difference_97 : decode cX10_difference 97 = .ok (.imul, 1) := by decide +kernel
theorem dX10_difference_98 : decode cX10_difference 98 = .ok (.iload 6, 2) := by decide +kernel
theorem dX10_difference_100 : decode cX10_difference 100 = .ok (.iadd, 1) := by decide +kernel
theorem dX10_difference_101 : decode cX10_difference 101 = .ok (.iconst 1, 1) := by decide +kernel
theorem dX10_difference_102 : decode cX10_difference 102 = .ok (.isub, 1) := by decide +kernel
theorem dX10_difference_103 : decode cX10_difference 103 = .ok (.iaload, 1) := by decide +kernel
theorem dX10_difference_104 : decode cX10_difference 104 = .ok (.aload_n 0, 1) := by decide +kernel
theorem dX10_difference_105 : decode cX10_difference 105 = .ok (.iload_n 1, 1) := by decide +kernel
theorem dX10_difference_106 : decode cX10_difference 106 = .ok (.iload 5, 2) := by decide +kernel
theorem dX10_difference_108 : decode cX10_difference 108 = .ok (.iconst 1, 1) := by decide +kernel
theorem dX10_difference_109 : decode cX10_difference 109 = .ok (.isub, 1) := by decide +kernel
theorem dX10_difference_110 : decode cX10_difference 110 = .ok (.iload_n 2, 1) := by decide +kernel
theorem dX10_difference_111 : decode cX10_difference 111 = .ok (.iload 6, 2) := by decide +kernel
theorem dX10_difference_113 : decode cX10_difference 113 = .ok (.iconst 1, 1) := by decide +kernel
theorem dX10_difference_114 : decode cX10_difference 114 = .ok (.isub, 1) := by decide +kernel
theorem dX10_difference_115 : decode cX10_difference 115 = .ok (.invokevirtual 342, 3) := by decide +kernel
theorem dX10_difference_118 : decode cX10_difference 118 = .ok (.iadd, 1) := by decide +kernel
theorem dX10_difference_119 : decode cX10_difference 119 = .ok (.istore 7, 2) := by decide +kernel
theorem dX10_difference_121 : decode cX10_difference 121 = .ok (.iload 5, 2) := by decide +kernel
theorem dX10_difference_123 : decode cX10_difference 123 = .ok (.ifCond .le 50, 3) := by decide +kernel
theorem dX10_difference_126 : decode cX10_difference 126 = .ok (.iload 6, 2) := by decide +kernel
theorem dX10_difference_128 : decode cX10_difference 128 = .ok (.ifCond .le 45, 3) := by decide +kernel
theorem dX10_difference_131 : decode cX10_difference 131 = .ok (.iload 7, 2) := by decide +kernel
theorem dX10_difference_133 : decode cX10_difference 133 = .ok (.iconst 3, 1) := by decide +kernel
theorem dX10_difference_134 : decode cX10_difference 134 = .ok (.aload_n 0, 1) := by decide +kernel
theorem dX10_difference_135 : decode cX10_difference 135 = .ok (.getfield 151, 3) := by decide +kernel
theorem dX10_difference_138 : decode cX10_difference 138 = .ok (.bipush 11, 2) := by decide +kernel
theorem dX10_difference_140 : decode cX10_difference 140 = .ok (.iload 5, 2) := by decide +kernel
theorem dX10_difference_142 : decode cX10_difference 142 = .ok (.iconst 1, 1) := by decide +kernel
theorem dX10_difference_143 : decode cX10_difference 143 = .ok (.isub, 1) := by decide +kernel
theorem dX10_difference_144 : decode cX10_difference 144 = .ok (.imul, 1) := by decide +kernel
theorem dX10_difference_145 : decode cX10_difference 145 = .ok (.iload 6, 2) := by decide +kernel
theorem dX10_difference_147 : decode cX10_difference 147 = .ok (.iadd, 1) := by decide +kernel
theorem dX10_difference_148 : decode cX10_difference 148 = .ok (.iaload, 1) := by decide +kernel
theorem dX10_difference_149 : decode cX10_difference 149 = .ok (.aload_n 0, 1) := by decide +kernel
theorem dX10_difference_150 : decode cX10_difference 150 = .ok (.getfield 151, 3) := by decide +kernel
theorem dX10_difference_153 : decode cX10_difference 153 = .ok (.bipush 11, 2) := by decide +kernel
theorem dX10_difference_155 : decode cX10_difference 155 = .ok (.iload 5, 2) := by decide +kernel
theorem dX10_difference_157 : decode cX10_difference 157 = .ok (.imul, 1) := by decide +kernel
theorem dX10_difference_158 : decode cX10_difference 158 = .ok (.iload 6, 2) := by decide +kernel
theorem dX10_difference_160 : decode cX10_difference 160 = .ok (.iadd, 1) := by decide +kernel
theorem dX10_difference_161 : decode cX10_difference 161 = .ok (.iconst 1, 1) := by decide +kernel
theorem dX10_difference_162 : decode cX10_difference 162 = .ok (.isub, 1) := by decide +kernel
theorem dX10_difference_163 : decode cX10_difference 163 = .ok (.iaload, 1) := by decide +kernel
theorem dX10_difference_164 : decode cX10_difference 164 = .ok (.invokestatic 339, 3) := by decide +kernel
theorem dX10_difference_167 : decode cX10_difference 167 = .ok (.iadd, 1) := by decide +kernel
theorem dX10_difference_168 : decode cX10_difference 168 = .ok (.invokestatic 339, 3) := by decide +kernel
theorem dX10_difference_171 : decode cX10_difference 171 = .ok (.istore 7, 2) := by decide +kernel
theorem dX10_difference_173 : decode cX10_difference 173 = .ok (.aload_n 0, 1) := by decide +kernel
theorem dX10_difference_174 : decode cX10_difference 174 = .ok (.getfield 151, 3) := by decide +kernel
theorem dX10_difference_177 : decode cX10_difference 177 = .ok (.bipush 11, 2) := by decide +kernel
theorem dX10_difference_179 : decode cX10_difference 179 = .ok (.iload 5, 2) := by decide +kernel
theorem dX10_difference_181 : decode cX10_difference 181 = .ok (.imul, 1) := by decide +kernel
theorem dX10_difference_182 : decode cX10_difference 182 = .ok (.iload 6, 2) := by decide +kernel
theorem dX10_difference_184 : decode cX10_difference 184 = .ok (.iadd, 1) := by decide +kernel
theorem dX10_difference_185 : decode cX10_difference 185 = .ok (.iload 7, 2) := by decide +kernel
theorem dX10_difference_187 : decode cX10_difference 187 = .ok (.iastore, 1) := by decide +kernel
theorem dX10_difference_188 : decode cX10_difference 188 = .ok (.iinc 6 1, 3) := by decide +kernel
theorem dX10_difference_191 : decode cX10_difference 191 = .ok (.goto (-135), 3) := by decide +kernel
theorem dX10_difference_194 : decode cX10_difference 194 = .ok (.iinc 5 1, 3) := by decide +kernel
theorem dX10_difference_197 : decode cX10_difference 197 = .ok (.goto (-150), 3) := by decide +kernel
theorem dX10_difference_200 : decode cX10_difference 200 = .ok (.aload_n 0, 1) := by decide +kernel
theorem dX10_difference_201 : decode cX10_difference 201 = .ok (.getfield 151, 3) := by decide +kernel
theorem dX10_difference_204 : decode cX10_difference 204 = .ok (.bipush 11, 2) := by decide +kernel
theorem dX10_difference_206 : decode cX10_difference 206 = .ok (.iload_n 3, 1) := by decide +kernel
theorem dX10_difference_207 : decode cX10_difference 207 = .ok (.imul, 1) := by decide +kernel
theorem dX10_difference_208 : decode cX10_difference 208 = .ok (.iload 4, 2) := by decide +kernel
theorem dX10_difference_210 : decode cX10_difference 210 = .ok (.iadd, 1) := by decide +kernel
theorem dX10_difference_211 : decode cX10_difference 211 = .ok (.iaload, 1) := by decide +kernel
theorem dX10_difference_212 : decode cX10_difference 212 = .ok (.ireturn, 1) := by decide +kernel
theorem dX10_suits_0 : decode cX10_suits 0 = .ok (.aload_n 0, 1) := by decide +kernel
theorem dX10_suits_1 : decode cX10_suits 1 = .ok (.iconst 0, 1) := by decide +kernel
theorem dX10_suits_2 : decode cX10_suits 2 = .ok (.putfield 3, 3) := by decide +kernel
theorem dX10_suits_5 : decode cX10_suits 5 = .ok (.iload_n 1, 1) := by decide +kernel
theorem dX10_suits_6 : decode cX10_suits 6 = .ok (.invokestatic 218, 3) := by decide +kernel
theorem dX10_suits_9 : decode cX10_suits 9 = .ok (.ifCond .ne 9, 3) := by decide +kernel
theorem dX10_suits_12 : decode cX10_suits 12 = .ok (.aload_n 0, 1) := by decide +kernel
theorem dX10_suits_13 : decode cX10_suits 13 = .ok (.iconst 1, 1) := by decide +kernel
theorem dX10_suits_14 : decode cX10_suits 14 = .ok (.invokevirtual 162, 3) := by decide +kernel
theorem dX10_suits_17 : decode cX10_suits 17 = .ok (.ireturn, 1) := by decide +kernel
theorem dX10_suits_18 : decode cX10_suits 18 = .ok (.iconst 0, 1) := by decide +kernel
theorem dX10_suits_19 : decode cX10_suits 19 = .ok (.istore_n 2, 1) := by decide +kernel
theorem dX10_suits_20 : decode cX10_suits 20 = .ok (.iconst 0, 1) := by decide +kernel
theorem dX10_suits_21 : decode cX10_suits 21 = .ok (.istore_n 3, 1) := by decide +kernel
theorem dX10_suits_22 : decode cX10_suits 22 = .ok (.iconst 0, 1) := by decide +kernel
theorem dX10_suits_23 : decode cX10_suits 23 = .ok (.istore 4, 2) := by decide +kernel
theorem dX10_suits_25 : decode cX10_suits 25 = .ok (.iconst 0, 1) := by decide +kernel
theorem dX10_suits_26 : decode cX10_suits 26 = .ok (.istore 5, 2) := by decide +kernel
theorem dX10_suits_28 : decode cX10_suits 28 = .ok (.iload 5, 2) := by decide +kernel
theorem dX10_suits_30 : decode cX10_suits 30 = .ok (.iconst 4, 1) := by decide +kernel
theorem dX10_suits_31 : decode cX10_suits 31 = .ok (.if_icmp .ge 151, 3) := by decide +kernel
theorem dX10_suits_34 : decode cX10_suits 34 = .ok (.iconst 2, 1) := by decide +kernel
theorem dX10_suits_35 : decode cX10_suits 35 = .ok (.istore 6, 2) := by decide +kernel
theorem dX10_suits_37 : decode cX10_suits 37 = .ok (.iload 6, 2) := by decide +kernel
theorem dX10_suits_39 : decode cX10_suits 39 = .ok (.bipush 6, 2) := by decide +kernel
theorem dX10_suits_41 : decode cX10_suits 41 = .ok (.if_icmp .gt 135, 3) := by decide +kernel
theorem dX10_suits_44 : decode cX10_suits 44 = .ok (.iconst 0, 1) := by decide +kernel
theorem dX10_suits_45 : decode cX10_suits 45 = .ok (.istore 7, 2) := by decide +kernel
theorem dX10_suits_47 : decode cX10_suits 47 = .ok (.iconst 0, 1) := by decide +kernel
theorem dX10_suits_48 : decode cX10_suits 48 = .ok (.istore 8, 2) := by decide +kernel
theorem dX10_suits_50 : decode cX10_suits 50 = .ok (.iconst 0, 1) := by decide +kernel
theorem dX10_suits_51 : decode cX10_suits 51 = .ok (.istore 9, 2) := by decide +kernel
theorem dX10_suits_53 : decode cX10_suits 53 = .ok (.iload 9, 2) := by decide +kernel
theorem dX10_suits_55 : decode cX10_suits 55 = .ok (.aload_n 0, 1) := by decide +kernel
theorem dX10_suits_56 : decode cX10_suits 56 = .ok (.getfield 13, 3) := by decide +kernel
theorem dX10_suits_59 : decode cX10_suits 59 = .ok (.iconst 5, 1) := by decide +kernel
theorem dX10_suits_60 : decode cX10_suits 60 = .ok (.iload_n 1, 1) := by decide +kernel
theorem dX10_suits_61 : decode cX10_suits 61 = .ok (.iadd, 1) := by decide +kernel
theorem dX10_suits_62 : decode cX10_suits 62 = .ok (.iaload, 1) := by decide +kernel
theorem dX10_suits_63 : decode cX10_suits 63 = .ok (.if_icmp .ge 64, 3) := by decide +kernel
theorem dX10_suits_66 : decode cX10_suits 66 = .ok (.aload_n 0, 1) := by decide +kernel
theorem dX10_suits_67 : decode cX10_suits 67 = .ok (.iload_n 1, 1) := by decide +kernel
theorem dX10_suits_68 : decode cX10_suits 68 = .ok (.iload 9, 2) := by decide +kernel
theorem dX10_suits_70 : decode cX10_suits 70 = .ok (.invokevirtual 294, 3) := by decide +kernel
theorem dX10_suits_73 : decode cX10_suits 73 = .ok (.aload_n 0, 1) := by decide +kernel
theorem dX10_suits_74 : decode cX10_suits 74 = .ok (.iload 5, 2) := by decide +kernel
theorem dX10_suits_76 : decode cX10_suits 76 = .ok (.iload 6, 2) := by decide +kernel
theorem dX10_suits_78 : decode cX10_suits 78 = .ok (.iconst 0, 1) := by decide +kernel
theorem dX10_suits_79 : decode cX10_suits 79 = .ok (.invokevirtual 270, 3) := by decide +kernel
theorem dX10_suits_82 : decode cX10_suits 82 = .ok (.aload_n 0, 1) := by decide +kernel
theorem dX10_suits_83 : decode cX10_suits 83 = .ok (.invokevirtual 300, 3) := by decide +kernel
theorem dX10_suits_86 : decode cX10_suits 86 = .ok (.aload_n 0, 1) := by decide +kernel
theorem dX10_suits_87 : decode cX10_suits 87 = .ok (.getfield 115, 3) := by decide +kernel
theorem dX10_suits_90 : decode cX10_suits 90 = .ok (.ifCond .lt 31, 3) := by decide +kernel
theorem dX10_suits_93 : decode cX10_suits 93 = .ok (.aload_n 0, 1) := by decide +kernel
theorem dX10_suits_94 : decode cX10_suits 94 = .ok (.getfield 115, 3) := by decide +kernel
theorem dX10_suits_97 : decode cX10_suits 97 = .ok (.aload_n 0, 1) := by decide +kernel
theorem dX10_suits_98 : decode cX10_suits 98 = .ok (.getfield 13, 3) := by decide +kernel
theorem dX10_suits_101 : decode cX10_suits 101 = .ok (.iconst 3, 1) := by decide +kernel
theorem dX10_suits_102 : decode cX10_suits 102 = .ok (.iaload, 1) := by decide +kernel
theorem dX10_suits_103 : decode cX10_suits 103 = .ok (.if_icmp .le 6, 3) := by decide +kernel
theorem dX10_suits_106 : decode cX10_suits 106 = .ok (.goto 15, 3) := by decide +kernel
theorem dX10_suits_109 : decode cX10_suits 109 = .ok (.iinc 7 1, 3) := by decide +kernel
theorem dX10_suits_112 : decode cX10_suits 112 = .ok (.iload 8, 2) := by decide +kernel
theorem dX10_suits_114 : decode cX10_suits 114 = .ok (.aload_n 0, 1) := by decide +kernel
theorem dX10_suits_115 : decode cX10_suits 115 = .ok (.getfield 115, 3) := by decide +kernel
theorem dX10_suits_118 : decode cX10_suits 118 = .ok (.iadd, 1) := by decide +kernel
theorem dX10_suits_119 : decode cX10_suits 119 = .ok (.istore 8, 2) := by decide +kernel
theorem dX10_suits_121 : decode cX10_suits 121 = .ok (.iinc 9 1, 3) := by decide +kernel
theorem dX10_suits_124 : decode cX10_suits 124 = .ok (.goto (-71), 3) := by decide +kernel
theorem dX10_suits_127 : decode cX10_suits 127 = .ok (.iload 7, 2) := by decide +kernel
theorem dX10_suits_129 : decode cX10_suits 129 = .ok (.ifCond .eq 41, 3) := by decide +kernel
theorem dX10_suits_132 : decode cX10_suits 132 = .ok (.iload 7, 2) := by decide +kernel
theorem dX10_suits_134 : decode cX10_suits 134 = .ok (.iload_n 3, 1) := by decide +kernel
theorem dX10_suits_135 : decode cX10_suits 135 = .ok (.if_icmp .lt 35, 3) := by decide +kernel
theorem dX10_suits_138 : decode cX10_suits 138 = .ok (.iload 7, 2) := by decide +kernel
theorem dX10_suits_140 : decode cX10_suits 140 = .ok (.iload_n 3, 1) := by decide +kernel
theorem dX10_suits_141 : decode cX10_suits 141 = .ok (.if_icmp .ne 13, 3) := by decide +kernel
theorem dX10_suits_144 : decode cX10_suits 144 = .ok (.iload 8, 2) := by decide +kernel
theorem dX10_suits_146 : decode cX10_suits 146 = .ok (.iload 4, 2) := by decide +kernel
theorem dX10_suits_148 : decode cX10_suits 148 = .ok (.if_icmp .lt 6, 3) := by decide +kernel
theorem dX10_suits_151 : decode cX10_suits 151 = .ok (.goto 19, 3) := by decide +kernel
theorem dX10_suits_154 : decode cX10_suits 154 = .ok (.iload 7, 2) := by decide +kernel
theorem dX10_suits_156 : decode cX10_suits 156 = .ok (.istore_n 3, 1) := by decide +kernel
theorem dX10_suits_157 : decode cX10_suits 157 = .ok (.iload 8, 2) := by decide +kernel
theorem dX10_suits_159 : decode cX10_suits 159 = .ok (.istore 4, 2) := by decide +kernel
theorem dX10_suits_161 : decode cX10_suits 161 = .ok (.bipush 10, 2) := by decide +kernel
theorem dX10_suits_163 : decode cX10_suits 163 = .ok (.iload 5, 2) := by decide +kernel
theorem dX10_suits_165 : decode cX10_suits 165 = .ok (.imul, 1) := by decide +kernel
theorem dX10_suits_166 : decode cX10_suits 166 = .ok (.iload 6, 2) := by decide +kernel
theorem dX10_suits_168 : decode cX10_suits 168 = .ok (.iadd, 1) := by decide +kernel
theorem dX10_suits_169 : decode cX10_suits 169 = .ok (.istore_n 2, 1) := by decide +kernel
theorem dX10_suits_170 : decode cX10_suits 170 = .ok (.iinc 6 1, 3) := by decide +kernel
theorem dX10_suits_173 : decode cX10_suits 173 = .ok (.goto (-136), 3) := by decide +kernel
theorem dX10_suits_176 : decode cX10_suits 176 = .ok (.iinc 5 1, 3) := by decide +kernel
theorem dX10_suits_179 : decode cX10_suits 179 = .ok (.goto (-151), 3) := by decide +kernel
theorem dX10_suits_182 : decode cX10_suits 182 = .ok (.iload_n 3, 1) := by decide +kernel
theorem dX10_suits_183 : decode cX10_suits 183 = .ok (.ifCond .ne 11, 3) := by decide +kernel
theorem dX10_suits_186 : decode cX10_suits 186 = .ok (.aload_n 0, 1) := by decide +kernel
theorem dX10_suits_187 : decode cX10_suits 187 = .ok (.iconst 2, 1) := by decide +kernel
theorem dX10_suits_188 : decode cX10_suits 188 = .ok (.invokevirtual 162, 3) := by decide +kernel
theorem dX10_suits_191 : decode cX10_suits 191 = .ok (.goto 4, 3) := by decide +kernel
theorem dX10_suits_194 : decode cX10_suits 194 = .ok (.iload_n 2, 1) := by decide +kernel
theorem dX10_suits_195 : decode cX10_suits 195 = .ok (.ireturn, 1) := by decide +kernel
theorem dX10_classMany_0 : decode cX10_classMany 0 = .ok (.aload_n 0, 1) := by decide +kernel
theorem dX10_classMany_1 : decode cX10_classMany 1 = .ok (.iload_n 1, 1) := by decide +kernel
theorem dX10_classMany_2 : decode cX10_classMany 2 = .ok (.invokevirtual 330, 3) := by decide +kernel
theorem dX10_classMany_5 : decode cX10_classMany 5 = .ok (.iconst 0, 1) := by decide +kernel
theorem dX10_classMany_6 : decode cX10_classMany 6 = .ok (.istore_n 2, 1) := by decide +kernel
theorem dX10_classMany_7 : decode cX10_classMany 7 = .ok (.iconst 0, 1) := by decide +kernel
theorem dX10_classMany_8 : decode cX10_classMany 8 = .ok (.istore_n 3, 1) := by decide +kernel
theorem dX10_classMany_9 : decode cX10_classMany 9 = .ok (.iload_n 3, 1) := by decide +kernel
theorem dX10_classMany_10 : decode cX10_classMany 10 = .ok (.aload_n 0, 1) := by decide +kernel
theorem dX10_classMany_11 : decode cX10_classMany 11 = .ok (.getfield 13, 3) := by decide +kernel
theorem dX10_classMany_14 : decode cX10_classMany 14 = .ok (.iconst 5, 1) := by decide +kernel
theorem dX10_classMany_15 : decode cX10_classMany 15 = .ok (.iload_n 1, 1) := by decide +kernel
theorem dX10_classMany_16 : decode cX10_classMany 16 = .ok (.iadd, 1) := by decide +kernel
theorem dX10_classMany_17 : decode cX10_classMany 17 = .ok (.iaload, 1) := by decide +kernel
theorem dX10_classMany_18 : decode cX10_classMany 18 = .ok (.if_icmp .ge 22, 3) := by decide +kernel
theorem dX10_classMany_21 : decode cX10_classMany 21 = .ok (.iload_n 2, 1) := by decide +kernel
theorem dX10_classMany_22 : decode cX10_classMany 22 = .ok (.aload_n 0, 1) := by decide +kernel
theorem dX10_classMany_23 : decode cX10_classMany 23 = .ok (.getfield 142, 3) := by decide +kernel
theorem dX10_classMany_26 : decode cX10_classMany 26 = .ok (.iload_n 3, 1) := by decide +kernel
theorem dX10_classMany_27 : decode cX10_classMany 27 = .ok (.iaload, 1) := by decide +kernel
theorem dX10_classMany_28 : decode cX10_classMany 28 = .ok (.iconst 1, 1) := by decide +kernel
theorem dX10_classMany_29 : decode cX10_classMany 29 = .ok (.iadd, 1) := by decide +kernel
theorem dX10_classMany_30 : decode cX10_classMany 30 = .ok (.invokestatic 267, 3) := by decide +kernel
theorem dX10_classMany_33 : decode cX10_classMany 33 = .ok (.istore_n 2, 1) := by decide +kernel
theorem dX10_classMany_34 : decode cX10_classMany 34 = .ok (.iinc 3 1, 3) := by decide +kernel
theorem dX10_classMany_37 : decode cX10_classMany 37 = .ok (.goto (-28), 3) := by decide +kernel
theorem dX10_classMany_40 : decode cX10_classMany 40 = .ok (.iload_n 2, 1) := by decide +kernel
theorem dX10_classMany_41 : decode cX10_classMany 41 = .ok (.ireturn, 1) := by decide +kernel
theorem dX10_ofLine_0 : decode cX10_ofLine 0 = .ok (.aload_n 0, 1) := by decide +kernel
theorem dX10_ofLine_1 : decode cX10_ofLine 1 = .ok (.iload_n 1, 1) := by decide +kernel
theorem dX10_ofLine_2 : decode cX10_ofLine 2 = .ok (.iload_n 2, 1) := by decide +kernel
theorem dX10_ofLine_3 : decode cX10_ofLine 3 = .ok (.invokevirtual 303, 3) := by decide +kernel
theorem dX10_ofLine_6 : decode cX10_ofLine 6 = .ok (.aload_n 0, 1) := by decide +kernel
theorem dX10_ofLine_7 : decode cX10_ofLine 7 = .ok (.getfield 115, 3) := by decide +kernel
theorem dX10_ofLine_10 : decode cX10_ofLine 10 = .ok (.ifCond .lt 7, 3) := by decide +kernel
theorem dX10_ofLine_13 : decode cX10_ofLine 13 = .ok (.iconst 1, 1) := by decide +kernel
theorem dX10_ofLine_14 : decode cX10_ofLine 14 = .ok (.goto 4, 3) := by decide +kernel
theorem dX10_ofLine_17 : decode cX10_ofLine 17 = .ok (.iconst 0, 1) := by decide +kernel
theorem dX10_ofLine_18 : decode cX10_ofLine 18 = .ok (.istore 4, 2) := by decide +kernel
theorem dX10_ofLine_20 : decode cX10_ofLine 20 = .ok (.iload_n 3, 1) := by decide +kernel
theorem dX10_ofLine_21 : decode cX10_ofLine 21 = .ok (.tableswitch 110 1 6 #[39, 63, 77, 110, 88, 93], 39) := by decide +kernel
theorem dX10_ofLine_60 : decode cX10_ofLine 60 = .ok (.iload 4, 2) := by decide +kernel
theorem dX10_ofLine_62 : decode cX10_ofLine 62 = .ok (.ifCond .eq 20, 3) := by decide +kernel
theorem dX10_ofLine_65 : decode cX10_ofLine 65 = .ok (.aload_n 0, 1) := by decide +kernel
theorem dX10_ofLine_66 : decode cX10_ofLine 66 = .ok (.getfield 115, 3) := by decide +kernel
theorem dX10_ofLine_69 : decode cX10_ofLine 69 = .ok (.aload_n 0, 1) := by decide +kernel
theorem dX10_ofLine_70 : decode cX10_ofLine 70 = .ok (.getfield 13, 3) := by decide +kernel
theorem dX10_ofLine_73 : decode cX10_ofLine 73 = .ok (.iconst 3, 1) := by decide +kernel
theorem dX10_ofLine_74 : decode cX10_ofLine 74 = .ok (.iaload, 1) := by decide +kernel
theorem dX10_ofLine_75 : decode cX10_ofLine 75 = .ok (.if_icmp .gt 7, 3) := by decide +kernel
theorem dX10_ofLine_78 : decode cX10_ofLine 78 = .ok (.iconst 1, 1) := by decide +kernel
theorem dX10_ofLine_79 : decode cX10_ofLine 79 = .ok (.goto 4, 3) := by decide +kernel
theorem dX10_ofLine_82 : decode cX10_ofLine 82 = .ok (.iconst 0, 1) := by decide +kernel
theorem dX10_ofLine_83 : decode cX10_ofLine 83 = .ok (.ireturn, 1) := by decide +kernel
theorem dX10_ofLine_84 : decode cX10_ofLine 84 = .ok (.iload 4, 2) := by decide +kernel
theorem dX10_ofLine_86 : decode cX10_ofLine 86 = .ok (.ifCond .eq 10, 3) := by decide +kernel
theorem dX10_ofLine_89 : decode cX10_ofLine 89 = .ok (.aload_n 0, 1) := by decide +kernel
theorem dX10_ofLine_90 : decode cX10_ofLine 90 = .ok (.getfield 115, 3) := by decide +kernel
theorem dX10_ofLine_93 : decode cX10_ofLine 93 = .ok (.goto 4, 3) := by decide +kernel
theorem dX10_ofLine_96 : decode cX10_ofLine 96 = .ok (.iconst 0, 1) := by decide +kernel
theorem dX10_ofLine_97 : decode cX10_ofLine 97 = .ok (.ireturn, 1) := by decide +kernel
theorem dX10_ofLine_98 : decode cX10_ofLine 98 = .ok (.iload 4, 2) := by decide +kernel
theorem dX10_ofLine_100 : decode cX10_ofLine 100 = .ok (.ifCond .eq 7, 3) := by decide +kernel
theorem dX10_ofLine_103 : decode cX10_ofLine 103 = .ok (.iconst 0, 1) := by decide +kernel
theorem dX10_ofLine_104 : decode cX10_ofLine 104 = .ok (.goto 4, 3) := by decide +kernel
theorem dX10_ofLine_107 : decode cX10_ofLine 107 = .ok (.iconst 1, 1) := by decide +kernel
theorem dX10_ofLine_108 : decode cX10_ofLine 108 = .ok (.ireturn, 1) := by decide +kernel
theorem dX10_ofLine_109 : decode cX10_ofLine 109 = .ok (.aload_n 0, 1) := by decide +kernel
theorem dX10_ofLine_110 : decode cX10_ofLine 110 = .ok (.invokevirtual 310, 3) := by decide +kernel
theorem dX10_ofLine_113 : decode cX10_ofLine 113 = .ok (.ireturn, 1) := by decide +kernel
theorem dX10_ofLine_114 : decode cX10_ofLine 114 = .ok (.iload 4, 2) := by decide +kernel
theorem dX10_ofLine_116 : decode cX10_ofLine 116 = .ok (.ifCond .eq 13, 3) := by decide +kernel
theorem dX10_ofLine_119 : decode cX10_ofLine 119 = .ok (.aload_n 0, 1) := by decide +kernel
theorem dX10_ofLine_120 : decode cX10_ofLine 120 = .ok (.getfield 118, 3) := by decide +kernel
theorem dX10_ofLine_123 : decode cX10_ofLine 123 = .ok (.invokestatic 264, 3) := by decide +kernel
theorem dX10_ofLine_126 : decode cX10_ofLine 126 = .ok (.goto 4, 3) := by decide +kernel
theorem dX10_ofLine_129 : decode cX10_ofLine 129 = .ok (.iconst 0, 1) := by decide +kernel
theorem dX10_ofLine_130 : decode cX10_ofLine 130 = .ok (.ireturn, 1) := by decide +kernel
theorem dX10_ofLine_131 : decode cX10_ofLine 131 = .ok (.iconst 0, 1) := by decide +kernel
theorem dX10_ofLine_132 : decode cX10_ofLine 132 = .ok (.istore 5, 2) := by decide +kernel
theorem dX10_ofLine_134 : decode cX10_ofLine 134 = .ok (.iconst 0, 1) := by decide +kernel
theorem dX10_ofLine_135 : decode cX10_ofLine 135 = .ok (.istore 6, 2) := by decide +kernel
theorem dX10_ofLine_137 : decode cX10_ofLine 137 = .ok (.iload 6, 2) := by decide +kernel
theorem dX10_ofLine_139 : decode cX10_ofLine 139 = .ok (.aload_n 0, 1) := by decide +kernel
theorem dX10_ofLine_140 : decode cX10_ofLine 140 = .ok (.getfield 60, 3) := by decide +kernel
theorem dX10_ofLine_143 : decode cX10_ofLine 143 = .ok (.if_icmp .ge 44, 3) := by decide +kernel
theorem dX10_ofLine_146 : decode cX10_ofLine 146 = .ok (.iload 5, 2) := by decide +kernel
theorem dX10_ofLine_148 : decode cX10_ofLine 148 = .ok (.aload_n 0, 1) := by decide +kernel
theorem dX10_ofLine_149 : decode cX10_ofLine 149 = .ok (.aload_n 0, 1) := by decide +kernel
theorem dX10_ofLine_150 : decode cX10_ofLine 150 = .ok (.getfield 13, 3) := by decide +kernel
theorem dX10_ofLine_153 : decode cX10_ofLine 153 = .ok (.aload_n 0, 1) := by decide +kernel
theorem dX10_ofLine_154 : decode cX10_ofLine 154 = .ok (.getfield 63, 3) := by decide +kernel
theorem dX10_ofLine_157 : decode cX10_ofLine 157 = .ok (.iload 6, 2) := by decide +kernel
theorem dX10_ofLine_159 : decode cX10_ofLine 159 = .ok (.iaload, 1) := by decide +kernel
theorem dX10_ofLine_160 : decode cX10_ofLine 160 = .ok (.aload_n 0, 1) := by decide +kernel
theorem dX10_ofLine_161 : decode cX10_ofLine 161 = .ok (.getfield 66, 3) := by decide +kernel
theorem dX10_ofLine_164 : decode cX10_ofLine 164 = .ok (.iload 6, 2) := by decide +kernel
theorem dX10_ofLine_166 : decode cX10_ofLine 166 = .ok (.iaload, 1) := by decide +kernel
theorem dX10_ofLine_167 : decode cX10_ofLine 167 = .ok (.invokevirtual 214, 3) := by decide +kernel
theorem dX10_ofLine_170 : decode cX10_ofLine 170 = .ok (.ifCond .lt 7, 3) := by decide +kernel
theorem dX10_ofLine_173 : decode cX10_ofLine 173 = .ok (.iconst 1, 1) := by decide +kernel
theorem dX10_ofLine_174 : decode cX10_ofLine 174 = .ok (.goto 4, 3) := by decide +kernel
theorem dX10_ofLine_177 : decode cX10_ofLine 177 = .ok (.iconst 0, 1) := by decide +kernel
theorem dX10_ofLine_178 : decode cX10_ofLine 178 = .ok (.iadd, 1) := by decide +kernel
theorem dX10_ofLine_179 : decode cX10_ofLine 179 = .ok (.istore 5, 2) := by decide +kernel
theorem dX10_ofLine_181 : decode cX10_ofLine 181 = .ok (.iinc 6 1, 3) := by decide +kernel
theorem dX10_ofLine_184 : decode cX10_ofLine 184 = .ok (.goto (-47), 3) := by decide +kernel
theorem dX10_ofLine_187 : decode cX10_ofLine 187 = .ok (.iload 5, 2) := by decide +kernel
theorem dX10_ofLine_189 : decode cX10_ofLine 189 = .ok (.ireturn, 1) := by decide +kernel
theorem dX10_sums_0 : decode cX10_sums 0 = .ok (.iconst 0, 1) := by decide +kernel
theorem dX10_sums_1 : decode cX10_sums 1 = .ok (.istore_n 3, 1) := by decide +kernel
theorem dX10_sums_2 : decode cX10_sums 2 = .ok (.iconst 0, 1) := by decide +kernel
theorem dX10_sums_3 : decode cX10_sums 3 = .ok (.istore 4, 2) := by decide +kernel
theorem dX10_sums_5 : decode cX10_sums 5 = .ok (.iload 4, 2) := by decide +kernel
theorem dX10_sums_7 : decode cX10_sums 7 = .ok (.aload_n 0, 1) := by decide +kernel
theorem dX10_sums_8 : decode cX10_sums 8 = .ok (.getfield 13, 3) := by decide +kernel
theorem dX10_sums_11 : decode cX10_sums 11 = .ok (.iconst 5, 1) := by decide +kernel
theorem dX10_sums_12 : decode cX10_sums 12 = .ok (.iload_n 1, 1) := by decide +kernel
theorem dX10_sums_13 : decode cX10_sums 13 = .ok (.iadd, 1) := by decide +kernel
theorem dX10_sums_14 : decode cX10_sums 14 = .ok (.iaload, 1) := by decide +kernel
theorem dX10_sums_15 : decode cX10_sums 15 = .ok (.if_icmp .ge 20, 3) := by decide +kernel
theorem dX10_sums_18 : decode cX10_sums 18 = .ok (.iload_n 3, 1) := by decide +kernel
theorem dX10_sums_19 : decode cX10_sums 19 = .ok (.aload_n 0, 1) := by decide +kernel
theorem dX10_sums_20 : decode cX10_sums 20 = .ok (.iload_n 1, 1) := by decide +kernel
theorem dX10_sums_21 : decode cX10_sums 21 = .ok (.iload 4, 2) := by decide +kernel
theorem dX10_sums_23 : decode cX10_sums 23 = .ok (.iload_n 2, 1) := by decide +kernel
theorem dX10_sums_24 : decode cX10_sums 24 = .ok (.invokevirtual 346, 3) := by decide +kernel
theorem dX10_sums_27 : decode cX10_sums 27 = .ok (.iadd, 1) := by decide +kernel
theorem dX10_sums_28 : decode cX10_sums 28 = .ok (.istore_n 3, 1) := by decide +kernel
theorem dX10_sums_29 : decode cX10_sums 29 = .ok (.iinc 4 1, 3) := by decide +kernel
theorem dX10_sums_32 : decode cX10_sums 32 = .ok (.goto (-27), 3) := by decide +kernel
theorem dX10_sums_35 : decode cX10_sums 35 = .ok (.iload_n 3, 1) := by decide +kernel
theorem dX10_sums_36 : decode cX10_sums 36 = .ok (.ireturn, 1) := by decide +kernel
theorem dX10_account_0 : decode cX10_account 0 = .ok (.aload_n 0, 1) := by decide +kernel
theorem dX10_account_1 : decode cX10_account 1 = .ok (.iconst 0, 1) := by decide +kernel
theorem dX10_account_2 : decode cX10_account 2 = .ok (.putfield 3, 3) := by decide +kernel
theorem dX10_account_5 : decode cX10_account 5 = .ok (.iload_n 1, 1) := by decide +kernel
theorem dX10_account_6 : decode cX10_account 6 = .ok (.invokestatic 218, 3) := by decide +kernel
theorem dX10_account_9 : decode cX10_account 9 = .ok (.ifCond .ne 9, 3) := by decide +kernel
theorem dX10_account_12 : decode cX10_account 12 = .ok (.aload_n 0, 1) := by decide +kernel
theorem dX10_account_13 : decode cX10_account 13 = .ok (.iconst 1, 1) := by decide +kernel
theorem dX10_account_14 : decode cX10_account 14 = .ok (.invokevirtual 162, 3) := by decide +kernel
theorem dX10_account_17 : decode cX10_account 17 = .ok (.ireturn, 1) := by decide +kernel
theorem dX10_account_18 : decode cX10_account 18 = .ok (.iload_n 2, 1) := by decide +kernel
theorem dX10_account_19 : decode cX10_account 19 = .ok (.iconst 0, 1) := by decide +kernel
theorem dX10_account_20 : decode cX10_account 20 = .ok (.bipush 7, 2) := by decide +kernel
theorem dX10_account_22 : decode cX10_account 22 = .ok (.invokestatic 158, 3) := by decide +kernel
theorem dX10_account_25 : decode cX10_account 25 = .ok (.ifCond .ne 9, 3) := by decide +kernel
theorem dX10_account_28 : decode cX10_account 28 = .ok (.aload_n 0, 1) := by decide +kernel
theorem dX10_account_29 : decode cX10_account 29 = .ok (.iconst 2, 1) := by decide +kernel
theorem dX10_account_30 : decode cX10_account 30 = .ok (.invokevirtual 162, 3) := by decide +kernel
theorem dX10_account_33 : decode cX10_account 33 = .ok (.ireturn, 1) := by decide +kernel
theorem dX10_account_34 : decode cX10_account 34 = .ok (.iload_n 2, 1) := by decide +kernel
theorem dX10_account_35 : decode cX10_account 35 = .ok (.ifCond .ne 14, 3) := by decide +kernel
theorem dX10_account_38 : decode cX10_account 38 = .ok (.aload_n 0, 1) := by decide +kernel
theorem dX10_account_39 : decode cX10_account 39 = .ok (.getfield 13, 3) := by decide +kernel
theorem dX10_account_42 : decode cX10_account 42 = .ok (.iconst 5, 1) := by decide +kernel
theorem dX10_account_43 : decode cX10_account 43 = .ok (.iload_n 1, 1) := by decide +kernel
theorem dX10_account_44 : decode cX10_account 44 = .ok (.iadd, 1) := by decide +kernel
theorem dX10_account_45 : decode cX10_account 45 = .ok (.iaload, 1) := by decide +kernel
theorem dX10_account_46 : decode cX10_account 46 = .ok (.goto 22, 3) := by decide +kernel
theorem dX10_account_49 : decode cX10_account 49 = .ok (.iload_n 2, 1) := by decide +kernel
theorem dX10_account_50 : decode cX10_account 50 = .ok (.iconst 4, 1) := by decide +kernel
theorem dX10_account_51 : decode cX10_account 51 = .ok (.if_icmp .ne 11, 3) := by decide +kernel
theorem dX10_account_54 : decode cX10_account 54 = .ok (.aload_n 0, 1) := by decide +kernel
theorem dX10_account_55 : decode cX10_account 55 = .ok (.iload_n 1, 1) := by decide +kernel
theorem dX10_account_56 : decode cX10_account 56 = .ok (.invokevirtual 349, 3) := by decide +kernel
theorem dX10_account_59 : decode cX10_account 59 = .ok (.goto 9, 3) := by decide +kernel
theorem dX10_account_62 : decode cX10_account 62 = .ok (.aload_n 0, 1) := by decide +kernel
theorem dX10_account_63 : decode cX10_account 63 = .ok (.iload_n 1, 1) := by decide +kernel
theorem dX10_account_64 : decode cX10_account 64 = .ok (.iload_n 2, 1) := by decide +kernel
theorem dX10_account_65 : decode cX10_account 65 = .ok (.invokevirtual 352, 3) := by decide +kernel
theorem dX10_account_68 : decode cX10_account 68 = .ok (.ireturn, 1) := by decide +kernel
theorem dX10_meanCost_0 : decode cX10_meanCost 0 = .ok (.aload_n 0, 1) := by decide +kernel
theorem dX10_meanCost_1 : decode cX10_meanCost 1 = .ok (.iconst 0, 1) := by decide +kernel
theorem dX10_meanCost_2 : decode cX10_meanCost 2 = .ok (.putfield 3, 3) := by decide +kernel
theorem dX10_meanCost_5 : decode cX10_meanCost 5 = .ok (.iload_n 1, 1) := by decide +kernel
theorem dX10_meanCost_6 : decode cX10_meanCost 6 = .ok (.invokestatic 218, 3) := by decide +kernel
theorem dX10_meanCost_9 : decode cX10_meanCost 9 = .ok (.ifCond .ne 10, 3) := by decide +kernel
theorem dX10_meanCost_12 : decode cX10_meanCost 12 = .ok (.aload_n 0, 1) := by decide +kernel
theorem dX10_meanCost_13 : decode cX10_meanCost 13 = .ok (.iconst 1, 1) := by decide +kernel
theorem dX10_meanCost_14 : decode cX10_meanCost 14 = .ok (.invokevirtual 162, 3) := by decide +kernel
theorem dX10_meanCost_17 : decode cX10_meanCost 17 = .ok (.i2f, 1) := by decide +kernel
theorem dX10_meanCost_18 : decode cX10_meanCost 18 = .ok (.freturn, 1) := by decide +kernel
theorem dX10_meanCost_19 : decode cX10_meanCost 19 = .ok (.aload_n 0, 1) := by decide +kernel
theorem dX10_meanCost_20 : decode cX10_meanCost 20 = .ok (.getfield 13, 3) := by decide +kernel
theorem dX10_meanCost_23 : decode cX10_meanCost 23 = .ok (.iconst 5, 1) := by decide +kernel
theorem dX10_meanCost_24 : decode cX10_meanCost 24 = .ok (.iload_n 1, 1) := by decide +kernel
theorem dX10_meanCost_25 : decode cX10_meanCost 25 = .ok (.iadd, 1) := by decide +kernel
theorem dX10_meanCost_26 : decode cX10_meanCost 26 = .ok (.iaload, 1) := by decide +kernel
theorem dX10_meanCost_27 : decode cX10_meanCost 27 = .ok (.aload_n 0, 1) := by decide +kernel
theorem dX10_meanCost_28 : decode cX10_meanCost 28 = .ok (.iload_n 1, 1) := by decide +kernel
theorem dX10_meanCost_29 : decode cX10_meanCost 29 = .ok (.iconst 3, 1) := by decide +kernel
theorem dX10_meanCost_30 : decode cX10_meanCost 30 = .ok (.invokevirtual 352, 3) := by decide +kernel
theorem dX10_meanCost_33 : decode cX10_meanCost 33 = .ok (.isub, 1) := by decide +kernel
theorem dX10_meanCost_34 : decode cX10_meanCost 34 = .ok (.istore_n 2, 1) := by decide +kernel
theorem dX10_meanCost_35 : decode cX10_meanCost 35 = .ok (.iload_n 2, 1) := by decide +kernel
theorem dX10_meanCost_36 : decode cX10_meanCost 36 = .ok (.ifCond .ne 12, 3) := by decide +kernel
theorem dX10_meanCost_39 : decode cX10_meanCost 39 = .ok (.aload_n 0, 1) := by decide +kernel
theorem dX10_meanCost_40 : decode cX10_meanCost 40 = .ok (.iconst 2, 1) := by decide +kernel
theorem dX10_meanCost_41 : decode cX10_meanCost 41 = .ok (.invokevirtual 162, 3) := by decide +kernel
theorem dX10_meanCost_44 : decode cX10_meanCost 44 = .ok (.i2f, 1) := by decide +kernel
theorem dX10_meanCost_45 : decode cX10_meanCost 45 = .ok (.goto 13, 3) := by decide +kernel
theorem dX10_meanCost_48 : decode cX10_meanCost 48 = .ok (.aload_n 0, 1) := by decide +kernel
theorem dX10_meanCost_49 : decode cX10_meanCost 49 = .ok (.iload_n 1, 1) := by decide +kernel
theorem dX10_meanCost_50 : decode cX10_meanCost 50 = .ok (.iconst 2, 1) := by decide +kernel
theorem dX10_meanCost_51 : decode cX10_meanCost 51 = .ok (.invokevirtual 352, 3) := by decide +kernel
theorem dX10_meanCost_54 : decode cX10_meanCost 54 = .ok (.i2f, 1) := by decide +kernel
theorem dX10_meanCost_55 : decode cX10_meanCost 55 = .ok (.iload_n 2, 1) := by decide +kernel
theorem dX10_meanCost_56 : decode cX10_meanCost 56 = .ok (.i2f, 1) := by decide +kernel
theorem dX10_meanCost_57 : decode cX10_meanCost 57 = .ok (.fdiv, 1) := by decide +kernel
theorem dX10_meanCost_58 : decode cX10_meanCost 58 = .ok (.freturn, 1) := by decide +kernel
theorem dX10_lines_0 : decode cX10_lines 0 = .ok (.iconst 0, 1) := by decide +kernel
theorem dX10_lines_1 : decode cX10_lines 1 = .ok (.istore_n 1, 1) := by decide +kernel
theorem dX10_lines_2 : decode cX10_lines 2 = .ok (.iconst 0, 1) := by decide +kernel
theorem dX10_lines_3 : decode cX10_lines 3 = .ok (.istore_n 2, 1) := by decide +kernel
theorem dX10_lines_4 : decode cX10_lines 4 = .ok (.iload_n 2, 1) := by decide +kernel
theorem dX10_lines_5 : decode cX10_lines 5 = .ok (.iconst 4, 1) := by decide +kernel
theorem dX10_lines_6 : decode cX10_lines 6 = .ok (.if_icmp .ge 20, 3) := by decide +kernel
theorem dX10_lines_9 : decode cX10_lines 9 = .ok (.iload_n 1, 1) := by decide +kernel
theorem dX10_lines_10 : decode cX10_lines 10 = .ok (.aload_n 0, 1) := by decide +kernel
theorem dX10_lines_11 : decode cX10_lines 11 = .ok (.getfield 13, 3) := by decide +kernel
theorem dX10_lines_14 : decode cX10_lines 14 = .ok (.iconst 5, 1) := by decide +kernel
theorem dX10_lines_15 : decode cX10_lines 15 = .ok (.iload_n 2, 1) := by decide +kernel
theorem dX10_lines_16 : decode cX10_lines 16 = .ok (.iadd, 1) := by decide +kernel
theorem dX10_lines_17 : decode cX10_lines 17 = .ok (.iaload, 1) := by decide +kernel
theorem dX10_lines_18 : decode cX10_lines 18 = .ok (.iadd, 1) := by decide +kernel
theorem dX10_lines_19 : decode cX10_lines 19 = .ok (.istore_n 1, 1) := by decide +kernel
theorem dX10_lines_20 : decode cX10_lines 20 = .ok (.iinc 2 1, 3) := by decide +kernel
theorem dX10_lines_23 : decode cX10_lines 23 = .ok (.goto (-19), 3) := by decide +kernel
theorem dX10_lines_26 : decode cX10_lines 26 = .ok (.iload_n 1, 1) := by decide +kernel
theorem dX10_lines_27 : decode cX10_lines 27 = .ok (.ireturn, 1) := by decide +kernel
theorem dX10_undo_0 : decode cX10_undo 0 = .ok (.aload_n 0, 1) := by decide +kernel
theorem dX10_undo_1 : decode cX10_undo 1 = .ok (.iconst 0, 1) := by decide +kernel
theorem dX10_undo_2 : decode cX10_undo 2 = .ok (.putfield 3, 3) := by decide +kernel
theorem dX10_undo_5 : decode cX10_undo 5 = .ok (.aload_n 0, 1) := by decide +kernel
theorem dX10_undo_6 : decode cX10_undo 6 = .ok (.getfield 26, 3) := by decide +kernel
theorem dX10_undo_9 : decode cX10_undo 9 = .ok (.ifCond .ne 9, 3) := by decide +kernel
theorem dX10_undo_12 : decode cX10_undo 12 = .ok (.aload_n 0, 1) := by decide +kernel
theorem dX10_undo_13 : decode cX10_undo 13 = .ok (.iconst 1, 1) := by decide +kernel
theorem dX10_undo_14 : decode cX10_undo 14 = .ok (.invokevirtual 162, 3) := by decide +kernel
theorem dX10_undo_17 : decode cX10_undo 17 = .ok (.ireturn, 1) := by decide +kernel
theorem dX10_undo_18 : decode cX10_undo 18 = .ok (.aload_n 0, 1) := by decide +kernel
theorem dX10_undo_19 : decode cX10_undo 19 = .ok (.dup, 1) := by decide +kernel
theorem dX10_undo_20 : decode cX10_undo 20 = .ok (.getfield 26, 3) := by decide +kernel
theorem dX10_undo_23 : decode cX10_undo 23 = .ok (.iconst 1, 1) := by decide +kernel
theorem dX10_undo_24 : decode cX10_undo 24 = .ok (.isub, 1) := by decide +kernel
theorem dX10_undo_25 : decode cX10_undo 25 = .ok (.putfield 26, 3) := by decide +kernel
theorem dX10_undo_28 : decode cX10_undo 28 = .ok (.aload_n 0, 1) := by decide +kernel
theorem dX10_undo_29 : decode cX10_undo 29 = .ok (.getfield 23, 3) := by decide +kernel
theorem dX10_undo_32 : decode cX10_undo 32 = .ok (.sipush 2609, 3) := by decide +kernel
theorem dX10_undo_35 : decode cX10_undo 35 = .ok (.aload_n 0, 1) := by decide +kernel
theorem dX10_undo_36 : decode cX10_undo 36 = .ok (.getfield 26, 3) := by decide +kernel
theorem dX10_undo_39 : decode cX10_undo 39 = .ok (.imul, 1) := by decide +kernel
theorem dX10_undo_40 : decode cX10_undo 40 = .ok (.aload_n 0, 1) := by decide +kernel
theorem dX10_undo_41 : decode cX10_undo 41 = .ok (.getfield 13, 3) := by decide +kernel
theorem dX10_undo_44 : decode cX10_undo 44 = .ok (.iconst 0, 1) := by decide +kernel
theorem dX10_undo_45 : decode cX10_undo 45 = .ok (.invokestatic 154, 3) := by decide +kernel
theorem dX10_undo_48 : decode cX10_undo 48 = .ok (.aload_n 0, 1) := by decide +kernel
theorem dX10_undo_49 : decode cX10_undo 49 = .ok (.getfield 26, 3) := by decide +kernel
theorem dX10_undo_52 : decode cX10_undo 52 = .ok (.ireturn, 1) := by decide +kernel
theorem dX10_save_0 : decode cX10_save 0 = .ok (.aload_n 0, 1) := by decide +kernel
theorem dX10_save_1 : decode cX10_save 1 = .ok (.getfield 13, 3) := by decide +kernel
theorem dX10_save_4 : decode cX10_save 4 = .ok (.iconst 0, 1) := by decide +kernel
theorem dX10_save_5 : decode cX10_save 5 = .ok (.aload_n 0, 1) := by decide +kernel
theorem dX10_save_6 : decode cX10_save 6 = .ok (.getfield 20, 3) := by decide +kernel
theorem dX10_save_9 : decode cX10_save 9 = .ok (.iconst 0, 1) := by decide +kernel
theorem dX10_save_10 : decode cX10_save 10 = .ok (.invokestatic 154, 3) := by decide +kernel
theorem dX10_save_13 : decode cX10_save 13 = .ok (.aload_n 0, 1) := by decide +kernel
theorem dX10_save_14 : decode cX10_save 14 = .ok (.iconst 1, 1) := by decide +kernel
theorem dX10_save_15 : decode cX10_save 15 = .ok (.putfield 29, 3) := by decide +kernel
theorem dX10_save_18 : decode cX10_save 18 = .ok (.aload_n 0, 1) := by decide +kernel
theorem dX10_save_19 : decode cX10_save 19 = .ok (.invokevirtual 355, 3) := by decide +kernel
theorem dX10_save_22 : decode cX10_save 22 = .ok (.ireturn, 1) := by decide +kernel
theorem dX10_restore_0 : decode cX10_restore 0 = .ok (.aload_n 0, 1) := by decide +kernel
theorem dX10_restore_1 : decode cX10_restore 1 = .ok (.iconst 0, 1) := by decide +kernel
theorem dX10_restore_2 : decode cX10_restore 2 = .ok (.putfield 3, 3) := by decide +kernel
theorem dX10_restore_5 : decode cX10_restore 5 = .ok (.aload_n 0, 1) := by decide +kernel
theorem dX10_restore_6 : decode cX10_restore 6 = .ok (.getfield 29, 3) := by decide +kernel
theorem dX10_restore_9 : decode cX10_restore 9 = .ok (.ifCond .ne 9, 3) := by decide +kernel
theorem dX10_restore_12 : decode cX10_restore 12 = .ok (.aload_n 0, 1) := by decide +kernel
theorem dX10_restore_13 : decode cX10_restore 13 = .ok (.iconst 1, 1) := by decide +kernel
theorem dX10_restore_14 : decode cX10_restore 14 = .ok (.invokevirtual 162, 3) := by decide +kernel
theorem dX10_restore_17 : decode cX10_restore 17 = .ok (.ireturn, 1) := by decide +kernel
theorem dX10_restore_18 : decode cX10_restore 18 = .ok (.aload_n 0, 1) := by decide +kernel
theorem dX10_restore_19 : decode cX10_restore 19 = .ok (.getfield 20, 3) := by decide +kernel
theorem dX10_restore_22 : decode cX10_restore 22 = .ok (.iconst 0, 1) := by decide +kernel
theorem dX10_restore_23 : decode cX10_restore 23 = .ok (.aload_n 0, 1) := by decide +kernel
theorem dX10_restore_24 : decode cX10_restore 24 = .ok (.getfield 13, 3) := by decide +kernel
theorem dX10_restore_27 : decode cX10_restore 27 = .ok (.iconst 0, 1) := by decide +kernel
theorem dX10_restore_28 : decode cX10_restore 28 = .ok (.invokestatic 154, 3) := by decide +kernel
theorem dX10_restore_31 : decode cX10_restore 31 = .ok (.aload_n 0, 1) := by decide +kernel
theorem dX10_restore_32 : decode cX10_restore 32 = .ok (.iconst 0, 1) := by decide +kernel
theorem dX10_restore_33 : decode cX10_restore 33 = .ok (.putfield 26, 3) := by decide +kernel
theorem dX10_restore_36 : decode cX10_restore 36 = .ok (.aload_n 0, 1) := by decide +kernel
theorem dX10_restore_37 : decode cX10_restore 37 = .ok (.invokevirtual 355, 3) := by decide +kernel
theorem dX10_restore_40 : decode cX10_restore 40 = .ok (.ireturn, 1) := by decide +kernel
