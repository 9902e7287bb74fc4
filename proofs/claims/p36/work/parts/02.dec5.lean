theorem dL_areCounts_236 : decode cL_areCounts 236 = .ok (.bipush 13, 2) := by decide +kernel
theorem dL_areCounts_238 : decode cL_areCounts 238 = .ok (.invokevirtual 95, 3) := by decide +kernel
theorem dL_areCounts_241 : decode cL_areCounts 241 = .ok (.aload_n 1, 1) := by decide +kernel
theorem dL_areCounts_242 : decode cL_areCounts 242 = .ok (.bipush 14, 2) := by decide +kernel
theorem dL_areCounts_244 : decode cL_areCounts 244 = .ok (.iaload, 1) := by decide +kernel
theorem dL_areCounts_245 : decode cL_areCounts 245 = .ok (.if_icmp .ne 68, 3) := by decide +kernel
theorem dL_areCounts_248 : decode cL_areCounts 248 = .ok (.aload_n 0, 1) := by decide +kernel
theorem dL_areCounts_249 : decode cL_areCounts 249 = .ok (.bipush 14, 2) := by decide +kernel
theorem dL_areCounts_251 : decode cL_areCounts 251 = .ok (.invokevirtual 95, 3) := by decide +kernel
theorem dL_areCounts_254 : decode cL_areCounts 254 = .ok (.aload_n 1, 1) := by decide +kernel
theorem dL_areCounts_255 : decode cL_areCounts 255 = .ok (.bipush 15, 2) := by decide +kernel
theorem dL_areCounts_257 : decode cL_areCounts 257 = .ok (.iaload, 1) := by decide +kernel
theorem dL_areCounts_258 : decode cL_areCounts 258 = .ok (.if_icmp .ne 55, 3) := by decide +kernel
theorem dL_areCounts_261 : decode cL_areCounts 261 = .ok (.aload_n 0, 1) := by decide +kernel
theorem dL_areCounts_262 : decode cL_areCounts 262 = .ok (.bipush 15, 2) := by decide +kernel
theorem dL_areCounts_264 : decode cL_areCounts 264 = .ok (.invokevirtual 95, 3) := by decide +kernel
theorem dL_areCounts_267 : decode cL_areCounts 267 = .ok (.aload_n 1, 1) := by decide +kernel
theorem dL_areCounts_268 : decode cL_areCounts 268 = .ok (.bipush 16, 2) := by decide +kernel
theorem dL_areCounts_270 : decode cL_areCounts 270 = .ok (.iaload, 1) := by decide +kernel
theorem dL_areCounts_271 : decode cL_areCounts 271 = .ok (.if_icmp .ne 42, 3) := by decide +kernel
theorem dL_areCounts_274 : decode cL_areCounts 274 = .ok (.aload_n 0, 1) := by decide +kernel
theorem dL_areCounts_275 : decode cL_areCounts 275 = .ok (.bipush 16, 2) := by decide +kernel
theorem dL_areCounts_277 : decode cL_areCounts 277 = .ok (.invokevirtual 95, 3) := by decide +kernel
theorem dL_areCounts_280 : decode cL_areCounts 280 = .ok (.aload_n 1, 1) := by decide +kernel
theorem dL_areCounts_281 : decode cL_areCounts 281 = .ok (.bipush 17, 2) := by decide +kernel
theorem dL_areCounts_283 : decode cL_areCounts 283 = .ok (.iaload, 1) := by decide +kernel
theorem dL_areCounts_284 : decode cL_areCounts 284 = .ok (.if_icmp .ne 29, 3) := by decide +kernel
theorem dL_areCounts_287 : decode cL_areCounts 287 = .ok (.aload_n 0, 1) := by decide +kernel
theorem dL_areCounts_288 : decode cL_areCounts 288 = .ok (.bipush 17, 2) := by decide +kernel
theorem dL_areCounts_290 : decode cL_areCounts 290 = .ok (.invokevirtual 95, 3) := by decide +kernel
theorem dL_areCounts_293 : decode cL_areCounts 293 = .ok (.iload 6, 2) := by decide +kernel
theorem dL_areCounts_295 : decode cL_areCounts 295 = .ok (.if_icmp .ne 18, 3) := by decide +kernel
theorem dL_areCounts_298 : decode cL_areCounts 298 = .ok (.aload_n 0, 1) := by decide +kernel
theorem dL_areCounts_299 : decode cL_areCounts 299 = .ok (.bipush 20, 2) := by decide +kernel
theorem dL_areCounts_301 : decode cL_areCounts 301 = .ok (.invokevirtual 95, 3) := by decide +kernel
theorem dL_areCounts_304 : decode cL_areCounts 304 = .ok (.bipush (-2), 2) := by decide +kernel
theorem dL_areCounts_306 : decode cL_areCounts 306 = .ok (.if_icmp .ne 7, 3) := by decide +kernel
theorem dL_areCounts_309 : decode cL_areCounts 309 = .ok (.iconst 1, 1) := by decide +kernel
theorem dL_areCounts_310 : decode cL_areCounts 310 = .ok (.goto 4, 3) := by decide +kernel
theorem dL_areCounts_313 : decode cL_areCounts 313 = .ok (.iconst 0, 1) := by decide +kernel
theorem dL_areCounts_314 : decode cL_areCounts 314 = .ok (.istore 7, 2) := by decide +kernel
theorem dL_areCounts_316 : decode cL_areCounts 316 = .ok (.iload 7, 2) := by decide +kernel
theorem dL_areCounts_318 : decode cL_areCounts 318 = .ok (.ifCond .eq 24, 3) := by decide +kernel
theorem dL_areCounts_321 : decode cL_areCounts 321 = .ok (.aload_n 0, 1) := by decide +kernel
theorem dL_areCounts_322 : decode cL_areCounts 322 = .ok (.invokevirtual 98, 3) := by decide +kernel
theorem dL_areCounts_325 : decode cL_areCounts 325 = .ok (.aload_n 1, 1) := by decide +kernel
theorem dL_areCounts_326 : decode cL_areCounts 326 = .ok (.aload_n 2, 1) := by decide +kernel
theorem dL_areCounts_327 : decode cL_areCounts 327 = .ok (.aload_n 3, 1) := by decide +kernel
theorem dL_areCounts_328 : decode cL_areCounts 328 = .ok (.aload 4, 2) := by decide +kernel
theorem dL_areCounts_330 : decode cL_areCounts 330 = .ok (.aload 5, 2) := by decide +kernel
theorem dL_areCounts_332 : decode cL_areCounts 332 = .ok (.invokestatic 59, 3) := by decide +kernel
theorem dL_areCounts_335 : decode cL_areCounts 335 = .ok (.if_icmp .ne 7, 3) := by decide +kernel
theorem dL_areCounts_338 : decode cL_areCounts 338 = .ok (.iconst 1, 1) := by decide +kernel
theorem dL_areCounts_339 : decode cL_areCounts 339 = .ok (.goto 4, 3) := by decide +kernel
theorem dL_areCounts_342 : decode cL_areCounts 342 = .ok (.iconst 0, 1) := by decide +kernel
theorem dL_areCounts_343 : decode cL_areCounts 343 = .ok (.ireturn, 1) := by decide +kernel
theorem dL_adds_0 : decode cL_adds 0 = .ok (.iload_n 3, 1) := by decide +kernel
theorem dL_adds_1 : decode cL_adds 1 = .ok (.bipush 24, 2) := by decide +kernel
theorem dL_adds_3 : decode cL_adds 3 = .ok (.invokestatic 102, 3) := by decide +kernel
theorem dL_adds_6 : decode cL_adds 6 = .ok (.istore 4, 2) := by decide +kernel
theorem dL_adds_8 : decode cL_adds 8 = .ok (.iload_n 3, 1) := by decide +kernel
theorem dL_adds_9 : decode cL_adds 9 = .ok (.bipush 6, 2) := by decide +kernel
theorem dL_adds_11 : decode cL_adds 11 = .ok (.ishr, 1) := by decide +kernel
theorem dL_adds_12 : decode cL_adds 12 = .ok (.iconst 3, 1) := by decide +kernel
theorem dL_adds_13 : decode cL_adds 13 = .ok (.invokestatic 102, 3) := by decide +kernel
theorem dL_adds_16 : decode cL_adds 16 = .ok (.ifCond .ne 7, 3) := by decide +kernel
theorem dL_adds_19 : decode cL_adds 19 = .ok (.iconst 1, 1) := by decide +kernel
theorem dL_adds_20 : decode cL_adds 20 = .ok (.goto 4, 3) := by decide +kernel
theorem dL_adds_23 : decode cL_adds 23 = .ok (.iconst 0, 1) := by decide +kernel
theorem dL_adds_24 : decode cL_adds 24 = .ok (.istore 5, 2) := by decide +kernel
theorem dL_adds_26 : decode cL_adds 26 = .ok (.iconst 1, 1) := by decide +kernel
theorem dL_adds_27 : decode cL_adds 27 = .ok (.iload_n 3, 1) := by decide +kernel
theorem dL_adds_28 : decode cL_adds 28 = .ok (.bipush 9, 2) := by decide +kernel
theorem dL_adds_30 : decode cL_adds 30 = .ok (.ishr, 1) := by decide +kernel
theorem dL_adds_31 : decode cL_adds 31 = .ok (.iconst 3, 1) := by decide +kernel
theorem dL_adds_32 : decode cL_adds 32 = .ok (.invokestatic 102, 3) := by decide +kernel
theorem dL_adds_35 : decode cL_adds 35 = .ok (.iadd, 1) := by decide +kernel
theorem dL_adds_36 : decode cL_adds 36 = .ok (.istore 6, 2) := by decide +kernel
theorem dL_adds_38 : decode cL_adds 38 = .ok (.iload_n 3, 1) := by decide +kernel
theorem dL_adds_39 : decode cL_adds 39 = .ok (.bipush 9, 2) := by decide +kernel
theorem dL_adds_41 : decode cL_adds 41 = .ok (.ishr, 1) := by decide +kernel
theorem dL_adds_42 : decode cL_adds 42 = .ok (.bipush 9, 2) := by decide +kernel
theorem dL_adds_44 : decode cL_adds 44 = .ok (.invokestatic 102, 3) := by decide +kernel
theorem dL_adds_47 : decode cL_adds 47 = .ok (.istore 7, 2) := by decide +kernel
theorem dL_adds_49 : decode cL_adds 49 = .ok (.aload_n 1, 1) := by decide +kernel
theorem dL_adds_50 : decode cL_adds 50 = .ok (.aload_n 2, 1) := by decide +kernel
theorem dL_adds_51 : decode cL_adds 51 = .ok (.iload 4, 2) := by decide +kernel
theorem dL_adds_53 : decode cL_adds 53 = .ok (.invokestatic 23, 3) := by decide +kernel
theorem dL_adds_56 : decode cL_adds 56 = .ok (.ifCond .lt 8, 3) := by decide +kernel
theorem dL_adds_59 : decode cL_adds 59 = .ok (.bipush (-4), 2) := by decide +kernel
theorem dL_adds_61 : decode cL_adds 61 = .ok (.goto 7, 3) := by decide +kernel
theorem dL_adds_64 : decode cL_adds 64 = .ok (.aload_n 1, 1) := by decide +kernel
theorem dL_adds_65 : decode cL_adds 65 = .ok (.bipush 9, 2) := by decide +kernel
theorem dL_adds_67 : decode cL_adds 67 = .ok (.iaload, 1) := by decide +kernel
theorem dL_adds_68 : decode cL_adds 68 = .ok (.istore 8, 2) := by decide +kernel
theorem dL_adds_70 : decode cL_adds 70 = .ok (.aload_n 1, 1) := by decide +kernel
theorem dL_adds_71 : decode cL_adds 71 = .ok (.iconst 3, 1) := by decide +kernel
theorem dL_adds_72 : decode cL_adds 72 = .ok (.iaload, 1) := by decide +kernel
theorem dL_adds_73 : decode cL_adds 73 = .ok (.ifCond .ge 12, 3) := by decide +kernel
theorem dL_adds_76 : decode cL_adds 76 = .ok (.aload_n 1, 1) := by decide +kernel
theorem dL_adds_77 : decode cL_adds 77 = .ok (.bipush 9, 2) := by decide +kernel
theorem dL_adds_79 : decode cL_adds 79 = .ok (.iaload, 1) := by decide +kernel
theorem dL_adds_80 : decode cL_adds 80 = .ok (.bipush 8, 2) := by decide +kernel
theorem dL_adds_82 : decode cL_adds 82 = .ok (.if_icmp .ne 66, 3) := by decide +kernel
theorem dL_adds_85 : decode cL_adds 85 = .ok (.aload_n 0, 1) := by decide +kernel
theorem dL_adds_86 : decode cL_adds 86 = .ok (.bipush 24, 2) := by decide +kernel
theorem dL_adds_88 : decode cL_adds 88 = .ok (.iload 7, 2) := by decide +kernel
theorem dL_adds_90 : decode cL_adds 90 = .ok (.invokestatic 73, 3) := by decide +kernel
theorem dL_adds_93 : decode cL_adds 93 = .ok (.invokevirtual 105, 3) := by decide +kernel
theorem dL_adds_96 : decode cL_adds 96 = .ok (.iconst (-1), 1) := by decide +kernel
theorem dL_adds_97 : decode cL_adds 97 = .ok (.if_icmp .ne 49, 3) := by decide +kernel
theorem dL_adds_100 : decode cL_adds 100 = .ok (.aload_n 0, 1) := by decide +kernel
theorem dL_adds_101 : decode cL_adds 101 = .ok (.iload 4, 2) := by decide +kernel
theorem dL_adds_103 : decode cL_adds 103 = .ok (.bipush 12, 2) := by decide +kernel
theorem dL_adds_105 : decode cL_adds 105 = .ok (.invokestatic 73, 3) := by decide +kernel
theorem dL_adds_108 : decode cL_adds 108 = .ok (.invokevirtual 105, 3) := by decide +kernel
theorem dL_adds_111 : decode cL_adds 111 = .ok (.bipush (-2), 2) := by decide +kernel
theorem dL_adds_113 : decode cL_adds 113 = .ok (.if_icmp .ne 33, 3) := by decide +kernel
theorem dL_adds_116 : decode cL_adds 116 = .ok (.aload_n 0, 1) := by decide +kernel
theorem dL_adds_117 : decode cL_adds 117 = .ok (.iload 4, 2) := by decide +kernel
theorem dL_adds_119 : decode cL_adds 119 = .ok (.ldc 108, 2) := by decide +kernel
theorem dL_adds_121 : decode cL_adds 121 = .ok (.invokevirtual 105, 3) := by decide +kernel
theorem dL_adds_124 : decode cL_adds 124 = .ok (.bipush (-2), 2) := by decide +kernel
theorem dL_adds_126 : decode cL_adds 126 = .ok (.if_icmp .ne 20, 3) := by decide +kernel
theorem dL_adds_129 : decode cL_adds 129 = .ok (.aload_n 0, 1) := by decide +kernel
theorem dL_adds_130 : decode cL_adds 130 = .ok (.iload 4, 2) := by decide +kernel
theorem dL_adds_132 : decode cL_adds 132 = .ok (.bipush 51, 2) := by decide +kernel
theorem dL_adds_134 : decode cL_adds 134 = .ok (.invokevirtual 109, 3) := by decide +kernel
theorem dL_adds_137 : decode cL_adds 137 = .ok (.bipush (-2), 2) := by decide +kernel
theorem dL_adds_139 : decode cL_adds 139 = .ok (.if_icmp .ne 7, 3) := by decide +kernel
theorem dL_adds_142 : decode cL_adds 142 = .ok (.iconst 1, 1) := by decide +kernel
theorem dL_adds_143 : decode cL_adds 143 = .ok (.goto 4, 3) := by decide +kernel
theorem dL_adds_146 : decode cL_adds 146 = .ok (.iconst 0, 1) := by decide +kernel
theorem dL_adds_147 : decode cL_adds 147 = .ok (.ireturn, 1) := by decide +kernel
theorem dL_adds_148 : decode cL_adds 148 = .ok (.iload 5, 2) := by decide +kernel
theorem dL_adds_150 : decode cL_adds 150 = .ok (.ifCond .eq 14, 3) := by decide +kernel
theorem dL_adds_153 : decode cL_adds 153 = .ok (.aload_n 0, 1) := by decide +kernel
theorem dL_adds_154 : decode cL_adds 154 = .ok (.iload 4, 2) := by decide +kernel
theorem dL_adds_156 : decode cL_adds 156 = .ok (.iload 6, 2) := by decide +kernel
theorem dL_adds_158 : decode cL_adds 158 = .ok (.invokevirtual 109, 3) := by decide +kernel
theorem dL_adds_161 : decode cL_adds 161 = .ok (.goto 14, 3) := by decide +kernel
theorem dL_adds_164 : decode cL_adds 164 = .ok (.aload_n 0, 1) := by decide +kernel
theorem dL_adds_165 : decode cL_adds 165 = .ok (.iload 4, 2) := by decide +kernel
theorem dL_adds_167 : decode cL_adds 167 = .ok (.iload 7, 2) := by decide +kernel
theorem dL_adds_169 : decode cL_adds 169 = .ok (.invokestatic 73, 3) := by decide +kernel
theorem dL_adds_172 : decode cL_adds 172 = .ok (.invokevirtual 105, 3) := by decide +kernel
theorem dL_adds_175 : decode cL_adds 175 = .ok (.istore 9, 2) := by decide +kernel
theorem dL_adds_177 : decode cL_adds 177 = .ok (.iload 8, 2) := by decide +kernel
theorem dL_adds_179 : decode cL_adds 179 = .ok (.ifCond .lt 87, 3) := by decide +kernel
theorem dL_adds_182 : decode cL_adds 182 = .ok (.aload_n 2, 1) := by decide +kernel
theorem dL_adds_183 : decode cL_adds 183 = .ok (.bipush 6, 2) := by decide +kernel
theorem dL_adds_185 : decode cL_adds 185 = .ok (.aload_n 1, 1) := by decide +kernel
theorem dL_adds_186 : decode cL_adds 186 = .ok (.bipush 9, 2) := by decide +kernel
theorem dL_adds_188 : decode cL_adds 188 = .ok (.iaload, 1) := by decide +kernel
theorem dL_adds_189 : decode cL_adds 189 = .ok (.imul, 1) := by decide +kernel
theorem dL_adds_190 : decode cL_adds 190 = .ok (.iload 5, 2) := by decide +kernel
theorem dL_adds_192 : decode cL_adds 192 = .ok (.ifCond .eq 7, 3) := by decide +kernel
theorem dL_adds_195 : decode cL_adds 195 = .ok (.iconst 1, 1) := by decide +kernel
theorem dL_adds_196 : decode cL_adds 196 = .ok (.goto 4, 3) := by decide +kernel
theorem dL_adds_199 : decode cL_adds 199 = .ok (.iconst 0, 1) := by decide +kernel
theorem dL_adds_200 : decode cL_adds 200 = .ok (.iastore, 1) := by decide +kernel
theorem dL_adds_201 : decode cL_adds 201 = .ok (.aload_n 2, 1) := by decide +kernel
theorem dL_adds_202 : decode cL_adds 202 = .ok (.bipush 6, 2) := by decide +kernel
theorem dL_adds_204 : decode cL_adds 204 = .ok (.aload_n 1, 1) := by decide +kernel
theorem dL_adds_205 : decode cL_adds 205 = .ok (.bipush 9, 2) := by decide +kernel
theorem dL_adds_207 : decode cL_adds 207 = .ok (.iaload, 1) := by decide +kernel
theorem dL_adds_208 : decode cL_adds 208 = .ok (.imul, 1) := by decide +kernel
theorem dL_adds_209 : decode cL_adds 209 = .ok (.iconst 1, 1) := by decide +kernel
theorem dL_adds_210 : decode cL_adds 210 = .ok (.iadd, 1) := by decide +kernel
theorem dL_adds_211 : decode cL_adds 211 = .ok (.iload 4, 2) := by decide +kernel
theorem dL_adds_213 : decode cL_adds 213 = .ok (.iastore, 1) := by decide +kernel
theorem dL_adds_214 : decode cL_adds 214 = .ok (.aload_n 2, 1) := by decide +kernel
theorem dL_adds_215 : decode cL_adds 215 = .ok (.bipush 6, 2) := by decide +kernel
theorem dL_adds_217 : decode cL_adds 217 = .ok (.aload_n 1, 1) := by decide +kernel
theorem dL_adds_218 : decode cL_adds 218 = .ok (.bipush 9, 2) := by decide +kernel
theorem dL_adds_220 : decode cL_adds 220 = .ok (.iaload, 1) := by decide +kernel
theorem dL_adds_221 : decode cL_adds 221 = .ok (.imul, 1) := by decide +kernel
theorem dL_adds_222 : decode cL_adds 222 = .ok (.iconst 3, 1) := by decide +kernel
theorem dL_adds_223 : decode cL_adds 223 = .ok (.iadd, 1) := by decide +kernel
theorem dL_adds_224 : decode cL_adds 224 = .ok (.iload 5, 2) := by decide +kernel
theorem dL_adds_226 : decode cL_adds 226 = .ok (.ifCond .eq 8, 3) := by decide +kernel
theorem dL_adds_229 : decode cL_adds 229 = .ok (.iload 6, 2) := by decide +kernel
theorem dL_adds_231 : decode cL_adds 231 = .ok (.goto 4, 3) := by decide +kernel
theorem dL_adds_234 : decode cL_adds 234 = .ok (.iconst 0, 1) := by decide +kernel
theorem dL_adds_235 : decode cL_adds 235 = .ok (.iastore, 1) := by decide +kernel
theorem dL_adds_236 : decode cL_adds 236 = .ok (.aload_n 2, 1) := by decide +kernel
theorem dL_adds_237 : decode cL_adds 237 = .ok (.bipush 6, 2) := by decide +kernel
theorem dL_adds_239 : decode cL_adds 239 = .ok (.aload_n 1, 1) := by decide +kernel
theorem dL_adds_240 : decode cL_adds 240 = .ok (.bipush 9, 2) := by decide +kernel
theorem dL_adds_242 : decode cL_adds 242 = .ok (.iaload, 1) := by decide +kernel
theorem dL_adds_243 : decode cL_adds 243 = .ok (.imul, 1) := by decide +kernel
theorem dL_adds_244 : decode cL_adds 244 = .ok (.iconst 4, 1) := by decide +kernel
theorem dL_adds_245 : decode cL_adds 245 = .ok (.iadd, 1) := by decide +kernel
theorem dL_adds_246 : decode cL_adds 246 = .ok (.iload 5, 2) := by decide +kernel
theorem dL_adds_248 : decode cL_adds 248 = .ok (.ifCond .eq 7, 3) := by decide +kernel
theorem dL_adds_251 : decode cL_adds 251 = .ok (.iconst 0, 1) := by decide +kernel
theorem dL_adds_252 : decode cL_adds 252 = .ok (.goto 5, 3) := by decide +kernel
theorem dL_adds_255 : decode cL_adds 255 = .ok (.iload 7, 2) := by decide +kernel
theorem dL_adds_257 : decode cL_adds 257 = .ok (.iastore, 1) := by decide +kernel
theorem dL_adds_258 : decode cL_adds 258 = .ok (.aload_n 1, 1) := by decide +kernel
theorem dL_adds_259 : decode cL_adds 259 = .ok (.bipush 9, 2) := by decide +kernel
theorem dL_adds_261 : decode cL_adds 261 = .ok (.dup2, 1) := by decide +kernel
theorem dL_adds_262 : decode cL_adds 262 = .ok (.iaload, 1) := by decide +kernel
theorem dL_adds_263 : decode cL_adds 263 = .ok (.iconst 1, 1) := by decide +kernel
theorem dL_adds_264 : decode cL_adds 264 = .ok (.iadd, 1) := by decide +kernel
theorem dL_adds_265 : decode cL_adds 265 = .ok (.iastore, 1) := by decide +kernel
theorem dL_adds_266 : decode cL_adds 266 = .ok (.iload 9, 2) := by decide +kernel
theorem dL_adds_268 : decode cL_adds 268 = .ok (.iload 8, 2) := by decide +kernel
theorem dL_adds_270 : decode cL_adds 270 = .ok (.if_icmp .ne 7, 3) := by decide +kernel
theorem dL_adds_273 : decode cL_adds 273 = .ok (.iconst 1, 1) := by decide +kernel
theorem dL_adds_274 : decode cL_adds 274 = .ok (.goto 4, 3) := by decide +kernel
theorem dL_adds_277 : decode cL_adds 277 = .ok (.iconst 0, 1) := by decide +kernel
theorem dL_adds_278 : decode cL_adds 278 = .ok (.ireturn, 1) := by decide +kernel
theorem dL_builds_0 : decode cL_builds 0 = .ok (.iload 4, 2) := by decide +kernel
theorem dL_builds_2 : decode cL_builds 2 = .ok (.bipush 24, 2) := by decide +kernel
theorem dL_builds_4 : decode cL_builds 4 = .ok (.invokestatic 102, 3) := by decide +kernel
theorem dL_builds_7 : decode cL_builds 7 = .ok (.istore 5, 2) := by decide +kernel
theorem dL_builds_9 : decode cL_builds 9 = .ok (.aload_n 1, 1) := by decide +kernel
theorem dL_builds_10 : decode cL_builds 10 = .ok (.bipush 10, 2) := by decide +kernel
theorem dL_builds_12 : decode cL_builds 12 = .ok (.iaload, 1) := by decide +kernel
theorem dL_builds_13 : decode cL_builds 13 = .ok (.istore 6, 2) := by decide +kernel
theorem dL_builds_15 : decode cL_builds 15 = .ok (.iconst 0, 1) := by decide +kernel
theorem dL_builds_16 : decode cL_builds 16 = .ok (.istore 7, 2) := by decide +kernel
theorem dL_builds_18 : decode cL_builds 18 = .ok (.iload 7, 2) := by decide +kernel
theorem dL_builds_20 : decode cL_builds 20 = .ok (.aload_n 1, 1) := by decide +kernel
theorem dL_builds_21 : decode cL_builds 21 = .ok (.bipush 10, 2) := by decide +kernel
theorem dL_builds_23 : decode cL_builds 23 = .ok (.iaload, 1) := by decide +kernel
theorem dL_builds_24 : decode cL_builds 24 = .ok (.if_icmp .ge 30, 3) := by decide +kernel
theorem dL_builds_27 : decode cL_builds 27 = .ok (.aload_n 2, 1) := by decide +kernel
theorem dL_builds_28 : decode cL_builds 28 = .ok (.bipush 7, 2) := by decide +kernel
theorem dL_builds_30 : decode cL_builds 30 = .ok (.iload 7, 2) := by decide +kernel
theorem dL_builds_32 : decode cL_builds 32 = .ok (.imul, 1) := by decide +kernel
theorem dL_builds_33 : decode cL_builds 33 = .ok (.iaload, 1) := by decide +kernel
theorem dL_builds_34 : decode cL_builds 34 = .ok (.iload 5, 2) := by decide +kernel
theorem dL_builds_36 : decode cL_builds 36 = .ok (.if_icmp .ne 8, 3) := by decide +kernel
theorem dL_builds_39 : decode cL_builds 39 = .ok (.bipush (-4), 2) := by decide +kernel
theorem dL_builds_41 : decode cL_builds 41 = .ok (.goto 5, 3) := by decide +kernel
theorem dL_builds_44 : decode cL_builds 44 = .ok (.iload 6, 2) := by decide +kernel
theorem dL_builds_46 : decode cL_builds 46 = .ok (.istore 6, 2) := by decide +kernel
theorem dL_builds_48 : decode cL_builds 48 = .ok (.iinc 7 1, 3) := by decide +kernel
theorem dL_builds_51 : decode cL_builds 51 = .ok (.goto (-33), 3) := by decide +kernel
theorem dL_builds_54 : decode cL_builds 54 = .ok (.iload 6, 2) := by decide +kernel
theorem dL_builds_56 : decode cL_builds 56 = .ok (.iconst 4, 1) := by decide +kernel
theorem dL_builds_57 : decode cL_builds 57 = .ok (.if_icmp .ne 8, 3) := by decide +kernel
theorem dL_builds_60 : decode cL_builds 60 = .ok (.bipush (-3), 2) := by decide +kernel
theorem dL_builds_62 : decode cL_builds 62 = .ok (.goto 5, 3) := by decide +kernel
theorem dL_builds_65 : decode cL_builds 65 = .ok (.iload 6, 2) := by decide +kernel
theorem dL_builds_67 : decode cL_builds 67 = .ok (.istore 6, 2) := by decide +kernel
theorem dL_builds_69 : decode cL_builds 69 = .ok (.iload 6, 2) := by decide +kernel
theorem dL_builds_71 : decode cL_builds 71 = .ok (.ifCond .lt 48, 3) := by decide +kernel
theorem dL_builds_74 : decode cL_builds 74 = .ok (.bipush 7, 2) := by decide +kernel
theorem dL_builds_76 : decode cL_builds 76 = .ok (.aload_n 1, 1) := by decide +kernel
theorem dL_builds_77 : decode cL_builds 77 = .ok (.bipush 10, 2) := by decide +kernel
theorem dL_builds_79 : decode cL_builds 79 = .ok (.iaload, 1) := by decide +kernel
theorem dL_builds_80 : decode cL_builds 80 = .ok (.imul, 1) := by decide +kernel
theorem dL_builds_81 : decode cL_builds 81 = .ok (.istore 7, 2) := by decide +kernel
theorem dL_builds_83 : decode cL_builds 83 = .ok (.aload_n 2, 1) := by decide +kernel
theorem dL_builds_84 : decode cL_builds 84 = .ok (.iload 7, 2) := by decide +kernel
theorem dL_builds_86 : decode cL_builds 86 = .ok (.iload 5, 2) := by decide +kernel
theorem dL_builds_88 : decode cL_builds 88 = .ok (.iastore, 1) := by decide +kernel
theorem dL_builds_89 : decode cL_builds 89 = .ok (.aload_n 3, 1) := by decide +kernel
theorem dL_builds_90 : decode cL_builds 90 = .ok (.iconst 2, 1) := by decide +kernel
theorem dL_builds_91 : decode cL_builds 91 = .ok (.aload_n 1, 1) := by decide +kernel
theorem dL_builds_92 : decode cL_builds 92 = .ok (.bipush 10, 2) := by decide +kernel
theorem dL_builds_94 : decode cL_builds 94 = .ok (.iaload, 1) := by decide +kernel
theorem dL_builds_95 : decode cL_builds 95 = .ok (.imul, 1) := by decide +kernel
theorem dL_builds_96 : decode cL_builds 96 = .ok (.iconst 1, 1) := by decide +kernel
theorem dL_builds_97 : decode cL_builds 97 = .ok (.iadd, 1) := by decide +kernel
theorem dL_builds_98 : decode cL_builds 98 = .ok (.ldc2_w 112, 3) := by decide +kernel
theorem dL_builds_101 : decode cL_builds 101 = .ok (.dastore, 1) := by decide +kernel
theorem dL_builds_102 : decode cL_builds 102 = .ok (.aload_n 2, 1) := by decide +kernel
theorem dL_builds_103 : decode cL_builds 103 = .ok (.iload 7, 2) := by decide +kernel
theorem dL_builds_105 : decode cL_builds 105 = .ok (.bipush 6, 2) := by decide +kernel
theorem dL_builds_107 : decode cL_builds 107 = .ok (.iadd, 1) := by decide +kernel
theorem dL_builds_108 : decode cL_builds 108 = .ok (.bipush (-5), 2) := by decide +kernel
theorem dL_builds_110 : decode cL_builds 110 = .ok (.iastore, 1) := by decide +kernel
theorem dL_builds_111 : decode cL_builds 111 = .ok (.aload_n 1, 1) := by decide +kernel
theorem dL_builds_112 : decode cL_builds 112 = .ok (.bipush 10, 2) := by decide +kernel
theorem dL_builds_114 : decode cL_builds 114 = .ok (.dup2, 1) := by decide +kernel
theorem dL_builds_115 : decode cL_builds 115 = .ok (.iaload, 1) := by decide +kernel
theorem dL_builds_116 : decode cL_builds 116 = .ok (.iconst 1, 1) := by decide +kernel
theorem dL_builds_117 : decode cL_builds 117 = .ok (.iadd, 1) := by decide +kernel
theorem dL_builds_118 : decode cL_builds 118 = .ok (.iastore, 1) := by decide +kernel
theorem dL_builds_119 : decode cL_builds 119 = .ok (.aload_n 0, 1) := by decide +kernel
theorem dL_builds_120 : decode cL_builds 120 = .ok (.iload 5, 2) := by decide +kernel
theorem dL_builds_122 : decode cL_builds 122 = .ok (.invokevirtual 114, 3) := by decide +kernel
theorem dL_builds_125 : decode cL_builds 125 = .ok (.iload 6, 2) := by decide +kernel
theorem dL_builds_127 : decode cL_builds 127 = .ok (.if_icmp .ne 17, 3) := by decide +kernel
theorem dL_builds_130 : decode cL_builds 130 = .ok (.aload_n 0, 1) := by decide +kernel
theorem dL_builds_131 : decode cL_builds 131 = .ok (.bipush 24, 2) := by decide +kernel
theorem dL_builds_133 : decode cL_builds 133 = .ok (.invokevirtual 114, 3) := by decide +kernel
theorem dL_builds_136 : decode cL_builds 136 = .ok (.iconst (-1), 1) := by decide +kernel
theorem dL_builds_137 : decode cL_builds 137 = .ok (.if_icmp .ne 7, 3) := by decide +kernel
theorem dL_builds_140 : decode cL_builds 140 = .ok (.iconst 1, 1) := by decide +kernel
theorem dL_builds_141 : decode cL_builds 141 = .ok (.goto 4, 3) := by decide +kernel
theorem dL_builds_144 : decode cL_builds 144 = .ok (.iconst 0, 1) := by decide +kernel
theorem dL_builds_145 : decode cL_builds 145 = .ok (.ireturn, 1) := by decide +kernel
theorem dL_gives_0 : decode cL_gives 0 = .ok (.iload 5, 2) := by decide +kernel
theorem dL_gives_2 : decode cL_gives 2 = .ok (.bipush 20, 2) := by decide +kernel
theorem dL_gives_4 : decode cL_gives 4 = .ok (.ishr, 1) := by decide +kernel
theorem dL_gives_5 : decode cL_gives 5 = .ok (.iconst 4, 1) := by decide +kernel
theorem dL_gives_6 : decode cL_gives 6 = .ok (.invokestatic 102, 3) := by decide +kernel
theorem dL_gives_9 : decode cL_gives 9 = .ok (.istore 6, 2) := by decide +kernel
theorem dL_gives_11 : decode cL_gives 11 = .ok (.iload 6, 2) := by decide +kernel
theorem dL_gives_13 : decode cL_gives 13 = .ok (.iconst 3, 1) := by decide +kernel
theorem dL_gives_14 : decode cL_gives 14 = .ok (.if_icmp .ne 7, 3) := by decide +kernel
theorem dL_gives_17 : decode cL_gives 17 = .ok (.iconst 0, 1) := by decide +kernel
theorem dL_gives_18 : decode cL_gives 18 = .ok (.goto 5, 3) := by decide +kernel
theorem dL_gives_21 : decode cL_gives 21 = .ok (.iload 6, 2) := by decide +kernel
theorem dL_gives_23 : decode cL_gives 23 = .ok (.istore 6, 2) := by decide +kernel
theorem dL_gives_25 : decode cL_gives 25 = .ok (.iload 5, 2) := by decide +kernel
theorem dL_gives_27 : decode cL_gives 27 = .ok (.iload 6, 2) := by decide +kernel
theorem dL_gives_29 : decode cL_gives 29 = .ok (.iconst 1, 1) := by decide +kernel
theorem dL_gives_30 : decode cL_gives 30 = .ok (.if_icmp .ne 12, 3) := by decide +kernel
theorem dL_gives_33 : decode cL_gives 33 = .ok (.aload_n 1, 1) := by decide +kernel
theorem dL_gives_34 : decode cL_gives 34 = .ok (.bipush 10, 2) := by decide +kernel
theorem dL_gives_36 : decode cL_gives 36 = .ok (.iaload, 1) := by decide +kernel
theorem dL_gives_37 : decode cL_gives 37 = .ok (.iconst 1, 1) := by decide +kernel
theorem dL_gives_38 : decode cL_gives 38 = .ok (.iadd, 1) := by decide +kernel
theorem dL_gives_39 : decode cL_gives 39 = .ok (.goto 9, 3) := by decide +kernel
theorem dL_gives_42 : decode cL_gives 42 = .ok (.aload_n 1, 1) := by decide +kernel
theorem dL_gives_43 : decode cL_gives 43 = .ok (.bipush 9, 2) := by decide +kernel
theorem dL_gives_45 : decode cL_gives 45 = .ok (.iaload, 1) := by decide +kernel
theorem dL_gives_46 : decode cL_gives 46 = .ok (.iconst 1, 1) := by decide +kernel
theorem dL_gives_47 : decode cL_gives 47 = .ok (.iadd, 1) := by decide +kernel
theorem dL_gives_48 : decode cL_gives 48 = .ok (.invokestatic 102, 3) := by decide +kernel
theorem dL_gives_51 : decode cL_gives 51 = .ok (.istore 7, 2) := by decide +kernel
theorem dL_gives_53 : decode cL_gives 53 = .ok (.iload 6, 2) := by decide +kernel
theorem dL_gives_55 : decode cL_gives 55 = .ok (.iconst 2, 1) := by decide +kernel
theorem dL_gives_56 : decode cL_gives 56 = .ok (.if_icmp .ne 15, 3) := by decide +kernel
theorem dL_gives_59 : decode cL_gives 59 = .ok (.iload 5, 2) := by decide +kernel
theorem dL_gives_61 : decode cL_gives 61 = .ok (.iconst 5, 1) := by decide +kernel
theorem dL_gives_62 : decode cL_gives 62 = .ok (.ishr, 1) := by decide +kernel
theorem dL_gives_63 : decode cL_gives 63 = .ok (.bipush 25, 2) := by decide +kernel
theorem dL_gives_65 : decode cL_gives 65 = .ok (.invokestatic 102, 3) := by decide +kernel
theorem dL_gives_68 : decode cL_gives 68 = .ok (.goto 5, 3) := by decide +kernel
theorem dL_gives_71 : decode cL_gives 71 = .ok (.bipush (-5), 2) := by decide +kernel
theorem dL_gives_73 : decode cL_gives 73 = .ok (.istore 8, 2) := by decide +kernel
theorem dL_gives_75 : decode cL_gives 75 = .ok (.iload 6, 2) := by decide +kernel
theorem dL_gives_77 : decode cL_gives 77 = .ok (.iconst 1, 1) := by decide +kernel
theorem dL_gives_78 : decode cL_gives 78 = .ok (.if_icmp .ne 20, 3) := by decide +kernel
theorem dL_gives_81 : decode cL_gives 81 = .ok (.iload 7, 2) := by decide +kernel
theorem dL_gives_83 : decode cL_gives 83 = .ok (.aload_n 1, 1) := by decide +kernel
theorem dL_gives_84 : decode cL_gives 84 = .ok (.bipush 10, 2) := by decide +kernel
theorem dL_gives_86 : decode cL_gives 86 = .ok (.iaload, 1) := by decide +kernel
theorem dL_gives_87 : decode cL_gives 87 = .ok (.if_icmp .ge 7, 3) := by decide +kernel
theorem dL_gives_90 : decode cL_gives 90 = .ok (.iconst 1, 1) := by decide +kernel
theorem dL_gives_91 : decode cL_gives 91 = .ok (.goto 33, 3) := by decide +kernel
theorem dL_gives_94 : decode cL_gives 94 = .ok (.iconst 0, 1) := by decide +kernel
theorem dL_gives_95 : decode cL_gives 95 = .ok (.goto 29, 3) := by decide +kernel
theorem dL_gives_98 : decode cL_gives 98 = .ok (.iload 7, 2) := by decide +kernel
theorem dL_gives_100 : decode cL_gives 100 = .ok (.aload_n 1, 1) := by decide +kernel
theorem dL_gives_101 : decode cL_gives 101 = .ok (.bipush 9, 2) := by decide +kernel
theorem dL_gives_103 : decode cL_gives 103 = .ok (.iaload, 1) := by decide +kernel
theorem dL_gives_104 : decode cL_gives 104 = .ok (.if_icmp .ge 19, 3) := by decide +kernel
theorem dL_gives_107 : decode cL_gives 107 = .ok (.iload 6, 2) := by decide +kernel
theorem dL_gives_109 : decode cL_gives 109 = .ok (.ifCond .eq 10, 3) := by decide +kernel
theorem dL_gives_112 : decode cL_gives 112 = .ok (.iload 8, 2) := by decide +kernel
theorem dL_gives_114 : decode cL_gives 114 = .ok (.bipush 24, 2) := by decide +kernel
theorem dL_gives_116 : decode cL_gives 116 = .ok (.if_icmp .ge 7, 3) := by decide +kernel
theorem dL_gives_119 : decode cL_gives 119 = .ok (.iconst 1, 1) := by decide +kernel
theorem dL_gives_120 : decode cL_gives 120 = .ok (.goto 4, 3) := by decide +kernel
theorem dL_gives_123 : decode cL_gives 123 = .ok (.iconst 0, 1) := by decide +kernel
theorem dL_gives_124 : decode cL_gives 124 = .ok (.istore 9, 2) := by decide +kernel
theorem dL_gives_126 : decode cL_gives 126 = .ok (.iload 9, 2) := by decide +kernel
theorem dL_gives_128 : decode cL_gives 128 = .ok (.ifCond .ne 7, 3) := by decide +kernel
theorem dL_gives_131 : decode cL_gives 131 = .ok (.iconst (-1), 1) := by decide +kernel
theorem dL_gives_132 : decode cL_gives 132 = .ok (.goto 28, 3) := by decide +kernel
theorem dL_gives_135 : decode cL_gives 135 = .ok (.iload 6, 2) := by decide +kernel
theorem dL_gives_137 : decode cL_gives 137 = .ok (.ifCond .ne 19, 3) := by decide +kernel
theorem dL_gives_140 : decode cL_gives 140 = .ok (.aload_n 2, 1) := by decide +kernel
theorem dL_gives_141 : decode cL_gives 141 = .ok (.bipush 6, 2) := by decide +kernel
theorem dL_gives_143 : decode cL_gives 143 = .ok (.iload 7, 2) := by decide +kernel
theorem dL_gives_145 : decode cL_gives 145 = .ok (.imul, 1) := by decide +kernel
theorem dL_gives_146 : decode cL_gives 146 = .ok (.iaload, 1) := by decide +kernel
theorem dL_gives_147 : decode cL_gives 147 = .ok (.iconst 1, 1) := by decide +kernel
theorem dL_gives_148 : decode cL_gives 148 = .ok (.if_icmp .ne 8, 3) := by decide +kernel
theorem dL_gives_151 : decode cL_gives 151 = .ok (.bipush (-4), 2) := by decide +kernel
theorem dL_gives_153 : decode cL_gives 153 = .ok (.goto 7, 3) := by decide +kernel
theorem dL_gives_156 : decode cL_gives 156 = .ok (.aload_n 1, 1) := by decide +kernel
theorem dL_gives_157 : decode cL_gives 157 = .ok (.bipush 11, 2) := by decide +kernel
theorem dL_gives_159 : decode cL_gives 159 = .ok (.iaload, 1) := by decide +kernel
theorem dL_gives_160 : decode cL_gives 160 = .ok (.istore 10, 2) := by decide +kernel
theorem dL_gives_162 : decode cL_gives 162 = .ok (.iload 10, 2) := by decide +kernel
theorem dL_gives_164 : decode cL_gives 164 = .ok (.ifCond .lt 14, 3) := by decide +kernel
theorem dL_gives_167 : decode cL_gives 167 = .ok (.aload_n 1, 1) := by decide +kernel
theorem dL_gives_168 : decode cL_gives 168 = .ok (.bipush 11, 2) := by decide +kernel
theorem dL_gives_170 : decode cL_gives 170 = .ok (.iaload, 1) := by decide +kernel
theorem dL_gives_171 : decode cL_gives 171 = .ok (.bipush 10, 2) := by decide +kernel
theorem dL_gives_173 : decode cL_gives 173 = .ok (.if_icmp .ne 5, 3) := by decide +kernel
theorem dL_gives_176 : decode cL_gives 176 = .ok (.iconst 1, 1) := by decide +kernel
theorem dL_gives_177 : decode cL_gives 177 = .ok (.ireturn, 1) := by decide +kernel
theorem dL_gives_178 : decode cL_gives 178 = .ok (.iload 10, 2) := by decide +kernel
theorem dL_gives_180 : decode cL_gives 180 = .ok (.ifCond .lt 115, 3) := by decide +kernel
theorem dL_gives_183 : decode cL_gives 183 = .ok (.bipush 6, 2) := by decide +kernel
theorem dL_gives_185 : decode cL_gives 185 = .ok (.aload_n 1, 1) := by decide +kernel
theorem dL_gives_186 : decode cL_gives 186 = .ok (.bipush 11, 2) := by decide +kernel
theorem dL_gives_188 : decode cL_gives 188 = .ok (.iaload, 1) := by decide +kernel
theorem dL_gives_189 : decode cL_gives 189 = .ok (.imul, 1) := by decide +kernel
theorem dL_gives_190 : decode cL_gives 190 = .ok (.istore 11, 2) := by decide +kernel
theorem dL_gives_192 : decode cL_gives 192 = .ok (.aload_n 3, 1) := by decide +kernel
theorem dL_gives_193 : decode cL_gives 193 = .ok (.iload 11, 2) := by decide +kernel
theorem dL_gives_195 : decode cL_gives 195 = .ok (.iload 6, 2) := by decide +kernel
theorem dL_gives_197 : decode cL_gives 197 = .ok (.iastore, 1) := by decide +kernel
theorem dL_gives_198 : decode cL_gives 198 = .ok (.aload_n 3, 1) := by decide +kernel
theorem dL_gives_199 : decode cL_gives 199 = .ok (.iload 11, 2) := by decide +kernel
theorem dL_gives_201 : decode cL_gives 201 = .ok (.iconst 1, 1) := by decide +kernel
theorem dL_gives_202 : decode cL_gives 202 = .ok (.iadd, 1) := by decide +kernel
theorem dL_gives_203 : decode cL_gives 203 = .ok (.iload 7, 2) := by decide +kernel
theorem dL_gives_205 : decode cL_gives 205 = .ok (.iastore, 1) := by decide +kernel
theorem dL_gives_206 : decode cL_gives 206 = .ok (.aload_n 3, 1) := by decide +kernel
theorem dL_gives_207 : decode cL_gives 207 = .ok (.iload 11, 2) := by decide +kernel
theorem dL_gives_209 : decode cL_gives 209 = .ok (.iconst 2, 1) := by decide +kernel
theorem dL_gives_210 : decode cL_gives 210 = .ok (.iadd, 1) := by decide +kernel
theorem dL_gives_211 : decode cL_gives 211 = .ok (.iload 8, 2) := by decide +kernel
theorem dL_gives_213 : decode cL_gives 213 = .ok (.iastore, 1) := by decide +kernel
theorem dL_gives_214 : decode cL_gives 214 = .ok (.aload_n 3, 1) := by decide +kernel
theorem dL_gives_215 : decode cL_gives 215 = .ok (.iload 11, 2) := by decide +kernel
theorem dL_gives_217 : decode cL_gives 217 = .ok (.iconst 3, 1) := by decide +kernel
theorem dL_gives_218 : decode cL_gives 218 = .ok (.iadd, 1) := by decide +kernel
theorem dL_gives_219 : decode cL_gives 219 = .ok (.iconst 0, 1) := by decide +kernel
theorem dL_gives_220 : decode cL_gives 220 = .ok (.iastore, 1) := by decide +kernel
theorem dL_gives_221 : decode cL_gives 221 = .ok (.aload_n 3, 1) := by decide +kernel
theorem dL_gives_222 : decode cL_gives 222 = .ok (.iload 11, 2) := by decide +kernel
theorem dL_gives_224 : decode cL_gives 224 = .ok (.iconst 4, 1) := by decide +kernel
theorem dL_gives_225 : decode cL_gives 225 = .ok (.iadd, 1) := by decide +kernel
theorem dL_gives_226 : decode cL_gives 226 = .ok (.bipush (-5), 2) := by decide +kernel
theorem dL_gives_228 : decode cL_gives 228 = .ok (.iastore, 1) := by decide +kernel
theorem dL_gives_229 : decode cL_gives 229 = .ok (.aload_n 3, 1) := by decide +kernel
theorem dL_gives_230 : decode cL_gives 230 = .ok (.iload 11, 2) := by decide +kernel
theorem dL_gives_232 : decode cL_gives 232 = .ok (.iconst 5, 1) := by decide +kernel
theorem dL_gives_233 : decode cL_gives 233 = .ok (.iadd, 1) := by decide +kernel
theorem dL_gives_234 : decode cL_gives 234 = .ok (.bipush (-5), 2) := by decide +kernel
theorem dL_gives_236 : decode cL_gives 236 = .ok (.iastore, 1) := by decide +kernel
theorem dL_gives_237 : decode cL_gives 237 = .ok (.aload 4, 2) := by decide +kernel
theorem dL_gives_239 : decode cL_gives 239 = .ok (.iload 11, 2) := by decide +kernel
theorem dL_gives_241 : decode cL_gives 241 = .ok (.bipush (-5), 2) := by decide +kernel
theorem dL_gives_243 : decode cL_gives 243 = .ok (.iastore, 1) := by decide +kernel
theorem dL_gives_244 : decode cL_gives 244 = .ok (.aload 4, 2) := by decide +kernel
theorem dL_gives_246 : decode cL_gives 246 = .ok (.iload 11, 2) := by decide +kernel
theorem dL_gives_248 : decode cL_gives 248 = .ok (.iconst 1, 1) := by decide +kernel
theorem dL_gives_249 : decode cL_gives 249 = .ok (.iadd, 1) := by decide +kernel
theorem dL_gives_250 : decode cL_gives 250 = .ok (.bipush (-5), 2) := by decide +kernel
theorem dL_gives_252 : decode cL_gives 252 = .ok (.iastore, 1) := by decide +kernel
theorem dL_gives_253 : decode cL_gives 253 = .ok (.aload 4, 2) := by decide +kernel
theorem dL_gives_255 : decode cL_gives 255 = .ok (.iload 11, 2) := by decide +kernel
theorem dL_gives_257 : decode cL_gives 257 = .ok (.iconst 2, 1) := by decide +kernel
theorem dL_gives_258 : decode cL_gives 258 = .ok (.iadd, 1) := by decide +kernel
theorem dL_gives_259 : decode cL_gives 259 = .ok (.iconst 0, 1) := by decide +kernel
theorem dL_gives_260 : decode cL_gives 260 = .ok (.iastore, 1) := by decide +kernel
theorem dL_gives_261 : decode cL_gives 261 = .ok (.aload 4, 2) := by decide +kernel
theorem dL_gives_263 : decode cL_gives 263 = .ok (.iload 11, 2) := by decide +kernel
theorem dL_gives_265 : decode cL_gives 265 = .ok (.iconst 3, 1) := by decide +kernel
theorem dL_gives_266 : decode cL_gives 266 = .ok (.iadd, 1) := by decide +kernel
theorem dL_gives_267 : decode cL_gives 267 = .ok (.iconst 0, 1) := by decide +kernel
theorem dL_gives_268 : decode cL_gives 268 = .ok (.iastore, 1) := by decide +kernel
theorem dL_gives_269 : decode cL_gives 269 = .ok (.aload 4, 2) := by decide +kernel
theorem dL_gives_271 : decode cL_gives 271 = .ok (.iload 11, 2) := by decide +kernel
theorem dL_gives_273 : decode cL_gives 273 = .ok (.iconst 4, 1) := by decide +kernel
theorem dL_gives_274 : decode cL_gives 274 = .ok (.iadd, 1) := by decide +kernel
theorem dL_gives_275 : decode cL_gives 275 = .ok (.bipush (-5), 2) := by decide +kernel
theorem dL_gives_277 : decode cL_gives 277 = .ok (.iastore, 1) := by decide +kernel
theorem dL_gives_278 : decode cL_gives 278 = .ok (.aload 4, 2) := by decide +kernel
theorem dL_gives_280 : decode cL_gives 280 = .ok (.iload 11, 2) := by decide +kernel
theorem dL_gives_282 : decode cL_gives 282 = .ok (.iconst 5, 1) := by decide +kernel
theorem dL_gives_283 : decode cL_gives 283 = .ok (.iadd, 1) := by decide +kernel
theorem dL_gives_284 : decode cL_gives 284 = .ok (.bipush (-5), 2) := by decide +kernel
theorem dL_gives_286 : decode cL_gives 286 = .ok (.iastore, 1) := by decide +kernel
theorem dL_gives_287 : decode cL_gives 287 = .ok (.aload_n 1, 1) := by decide +kernel
theorem dL_gives_288 : decode cL_gives 288 = .ok (.bipush 11, 2) := by decide +kernel
theorem dL_gives_290 : decode cL_gives 290 = .ok (.dup2, 1) := by decide +kernel
theorem dL_gives_291 : decode cL_gives 291 = .ok (.iaload, 1) := by decide +kernel
theorem dL_gives_292 : decode cL_gives 292 = .ok (.iconst 1, 1) := by decide +kernel
theorem dL_gives_293 : decode cL_gives 293 = .ok (.iadd, 1) := by decide +kernel
theorem dL_gives_294 : decode cL_gives 294 = .ok (.iastore, 1) := by decide +kernel
theorem dL_gives_295 : decode cL_gives 295 = .ok (.iload 10, 2) := by decide +kernel
theorem dL_gives_297 : decode cL_gives 297 = .ok (.iload 6, 2) := by decide +kernel
theorem dL_gives_299 : decode cL_gives 299 = .ok (.ifCond .ne 12, 3) := by decide +kernel
theorem dL_gives_302 : decode cL_gives 302 = .ok (.aload_n 0, 1) := by decide +kernel
theorem dL_gives_303 : decode cL_gives 303 = .ok (.iload 7, 2) := by decide +kernel
theorem dL_gives_305 : decode cL_gives 305 = .ok (.invokevirtual 117, 3) := by decide +kernel
theorem dL_gives_308 : decode cL_gives 308 = .ok (.goto 26, 3) := by decide +kernel
theorem dL_gives_311 : decode cL_gives 311 = .ok (.iload 6, 2) := by decide +kernel
theorem dL_gives_313 : decode cL_gives 313 = .ok (.iconst 1, 1) := by decide +kernel
theorem dL_gives_314 : decode cL_gives 314 = .ok (.if_icmp .ne 12, 3) := by decide +kernel
theorem dL_gives_317 : decode cL_gives 317 = .ok (.aload_n 0, 1) := by decide +kernel
theorem dL_gives_318 : decode cL_gives 318 = .ok (.iload 7, 2) := by decide +kernel
theorem dL_gives_320 : decode cL_gives 320 = .ok (.invokevirtual 120, 3) := by decide +kernel
theorem dL_gives_323 : decode cL_gives 323 = .ok (.goto 11, 3) := by decide +kernel
theorem dL_gives_326 : decode cL_gives 326 = .ok (.aload_n 0, 1) := by decide +kernel
theorem dL_gives_327 : decode cL_gives 327 = .ok (.iload 7, 2) := by decide +kernel
theorem dL_gives_329 : decode cL_gives 329 = .ok (.iload 8, 2) := by decide +kernel
theorem dL_gives_331 : decode cL_gives 331 = .ok (.invokevirtual 123, 3) := by decide +kernel
theorem dL_gives_334 : decode cL_gives 334 = .ok (.if_icmp .ne 7, 3) := by decide +kernel
theorem dL_gives_337 : decode cL_gives 337 = .ok (.iconst 1, 1) := by decide +kernel
theorem dL_gives_338 : decode cL_gives 338 = .ok (.goto 4, 3) := by decide +kernel
theorem dL_gives_341 : decode cL_gives 341 = .ok (.iconst 0, 1) := by decide +kernel
theorem dL_gives_342 : decode cL_gives 342 = .ok (.ireturn, 1) := by decide +kernel
theorem dL_holds_0 : decode cL_holds 0 = .ok (.aload_n 1, 1) := by decide +kernel
theorem dL_holds_1 : decode cL_holds 1 = .ok (.bipush 11, 2) := by decide +kernel
theorem dL_holds_3 : decode cL_holds 3 = .ok (.iaload, 1) := by decide +kernel
theorem dL_holds_4 : decode cL_holds 4 = .ok (.ifCond .ne 28, 3) := by decide +kernel
theorem dL_holds_7 : decode cL_holds 7 = .ok (.aload_n 0, 1) := by decide +kernel
theorem dL_holds_8 : decode cL_holds 8 = .ok (.iconst 0, 1) := by decide +kernel
theorem dL_holds_9 : decode cL_holds 9 = .ok (.iconst 0, 1) := by decide +kernel
theorem dL_holds_10 : decode cL_holds 10 = .ok (.invokevirtual 126, 3) := by decide +kernel
theorem dL_holds_13 : decode cL_holds 13 = .ok (.iconst (-1), 1) := by decide +kernel
theorem dL_holds_14 : decode cL_holds 14 = .ok (.if_icmp .ne 16, 3) := by decide +kernel
theorem dL_holds_17 : decode cL_holds 17 = .ok (.aload_n 0, 1) := by decide +kernel
theorem dL_holds_18 : decode cL_holds 18 = .ok (.iconst 0, 1) := by decide +kernel
theorem dL_holds_19 : decode cL_holds 19 = .ok (.invokevirtual 129, 3) := by decide +kernel
theorem dL_holds_22 : decode cL_holds 22 = .ok (.iconst (-1), 1) := by decide +kernel
theorem dL_holds_23 : decode cL_holds 23 = .ok (.if_icmp .ne 7, 3) := by decide +kernel
theorem dL_holds_26 : decode cL_holds 26 = .ok (.iconst 1, 1) := by decide +kernel
theorem dL_holds_27 : decode cL_holds 27 = .ok (.goto 4, 3) := by decide +kernel
theorem dL_holds_30 : decode cL_holds 30 = .ok (.iconst 0, 1) := by decide +kernel
theorem dL_holds_31 : decode cL_holds 31 = .ok (.ireturn, 1) := by decide +kernel
theorem dL_holds_32 : decode cL_holds 32 = .ok (.iload 4, 2) := by decide +kernel
theorem dL_holds_34 : decode cL_holds 34 = .ok (.aload_n 1, 1) := by decide +kernel
theorem dL_holds_35 : decode cL_holds 35 = .ok (.bipush 11, 2) := by decide +kernel
theorem dL_holds_37 : decode cL_holds 37 = .ok (.iaload, 1) := by decide +kernel
theorem dL_holds_38 : decode cL_holds 38 = .ok (.invokestatic 102, 3) := by decide +kernel
theorem dL_holds_41 : decode cL_holds 41 = .ok (.istore 5, 2) := by decide +kernel
theorem dL_holds_43 : decode cL_holds 43 = .ok (.aload_n 2, 1) := by decide +kernel
theorem dL_holds_44 : decode cL_holds 44 = .ok (.bipush 6, 2) := by decide +kernel
theorem dL_holds_46 : decode cL_holds 46 = .ok (.iload 5, 2) := by decide +kernel
theorem dL_holds_48 : decode cL_holds 48 = .ok (.imul, 1) := by decide +kernel
theorem dL_holds_49 : decode cL_holds 49 = .ok (.iconst 3, 1) := by decide +kernel
theorem dL_holds_50 : decode cL_holds 50 = .ok (.iadd, 1) := by decide +kernel
theorem dL_holds_51 : decode cL_holds 51 = .ok (.iaload, 1) := by decide +kernel
theorem dL_holds_52 : decode cL_holds 52 = .ok (.ifCond .ne 7, 3) := by decide +kernel
theorem dL_holds_55 : decode cL_holds 55 = .ok (.iconst 1, 1) := by decide +kernel
theorem dL_holds_56 : decode cL_holds 56 = .ok (.goto 4, 3) := by decide +kernel
theorem dL_holds_59 : decode cL_holds 59 = .ok (.iconst 0, 1) := by decide +kernel
theorem dL_holds_60 : decode cL_holds 60 = .ok (.istore 6, 2) := by decide +kernel
theorem dL_holds_62 : decode cL_holds 62 = .ok (.iload 4, 2) := by decide +kernel
theorem dL_holds_64 : decode cL_holds 64 = .ok (.bipush 8, 2) := by decide +kernel
theorem dL_holds_66 : decode cL_holds 66 = .ok (.ishr, 1) := by decide +kernel
theorem dL_holds_67 : decode cL_holds 67 = .ok (.iconst 3, 1) := by decide +kernel
theorem dL_holds_68 : decode cL_holds 68 = .ok (.invokestatic 102, 3) := by decide +kernel
theorem dL_holds_71 : decode cL_holds 71 = .ok (.ifCond .le 143, 3) := by decide +kernel
theorem dL_holds_74 : decode cL_holds 74 = .ok (.iload 4, 2) := by decide +kernel
theorem dL_holds_76 : decode cL_holds 76 = .ok (.iconst 5, 1) := by decide +kernel
theorem dL_holds_77 : decode cL_holds 77 = .ok (.ishr, 1) := by decide +kernel
theorem dL_holds_78 : decode cL_holds 78 = .ok (.iconst 2, 1) := by decide +kernel
theorem dL_holds_79 : decode cL_holds 79 = .ok (.invokestatic 102, 3) := by decide +kernel
theorem dL_holds_82 : decode cL_holds 82 = .ok (.ifCond .ne 15, 3) := by decide +kernel
theorem dL_holds_85 : decode cL_holds 85 = .ok (.aload_n 3, 1) := by decide +kernel
theorem dL_holds_86 : decode cL_holds 86 = .ok (.bipush 6, 2) := by decide +kernel
theorem dL_holds_88 : decode cL_holds 88 = .ok (.iload 5, 2) := by decide +kernel
theorem dL_holds_90 : decode cL_holds 90 = .ok (.imul, 1) := by decide +kernel
theorem dL_holds_91 : decode cL_holds 91 = .ok (.iconst 3, 1) := by decide +kernel
theorem dL_holds_92 : decode cL_holds 92 = .ok (.iadd, 1) := by decide +kernel
theorem dL_holds_93 : decode cL_holds 93 = .ok (.iaload, 1) := by decide +kernel
theorem dL_holds_94 : decode cL_holds 94 = .ok (.goto 17, 3) := by decide +kernel
theorem dL_holds_97 : decode cL_holds 97 = .ok (.aload_n 1, 1) := by decide +kernel
theorem dL_holds_98 : decode cL_holds 98 = .ok (.iconst 0, 1) := by decide +kernel
theorem dL_holds_99 : decode cL_holds 99 = .ok (.iaload, 1) := by decide +kernel
theorem dL_holds_100 : decode cL_holds 100 = .ok (.iload 4, 2) := by decide +kernel
theorem dL_holds_102 : decode cL_holds 102 = .ok (.bipush 11, 2) := by decide +kernel
theorem dL_holds_104 : decode cL_holds 104 = .ok (.ishr, 1) := by decide +kernel
theorem dL_holds_105 : decode cL_holds 105 = .ok (.bipush 30, 2) := by decide +kernel
theorem dL_holds_107 : decode cL_holds 107 = .ok (.invokestatic 102, 3) := by decide +kernel
theorem dL_holds_110 : decode cL_holds 110 = .ok (.iadd, 1) := by decide +kernel
theorem dL_holds_111 : decode cL_holds 111 = .ok (.istore 7, 2) := by decide +kernel
theorem dL_holds_113 : decode cL_holds 113 = .ok (.iload 6, 2) := by decide +kernel
theorem dL_holds_115 : decode cL_holds 115 = .ok (.ifCond .ne 8, 3) := by decide +kernel
theorem dL_holds_118 : decode cL_holds 118 = .ok (.bipush (-4), 2) := by decide +kernel
theorem dL_holds_120 : decode cL_holds 120 = .ok (.goto 31, 3) := by decide +kernel
theorem dL_holds_123 : decode cL_holds 123 = .ok (.iload 7, 2) := by decide +kernel
theorem dL_holds_125 : decode cL_holds 125 = .ok (.aload_n 3, 1) := by decide +kernel
theorem dL_holds_126 : decode cL_holds 126 = .ok (.bipush 6, 2) := by decide +kernel
theorem dL_holds_128 : decode cL_holds 128 = .ok (.iload 5, 2) := by decide +kernel
theorem dL_holds_130 : decode cL_holds 130 = .ok (.imul, 1) := by decide +kernel
theorem dL_holds_131 : decode cL_holds 131 = .ok (.iconst 3, 1) := by decide +kernel
theorem dL_holds_132 : decode cL_holds 132 = .ok (.iadd, 1) := by decide +kernel
theorem dL_holds_133 : decode cL_holds 133 = .ok (.iaload, 1) := by decide +kernel
theorem dL_holds_134 : decode cL_holds 134 = .ok (.if_icmp .ne 8, 3) := by decide +kernel
theorem dL_holds_137 : decode cL_holds 137 = .ok (.bipush (-5), 2) := by decide +kernel
theorem dL_holds_139 : decode cL_holds 139 = .ok (.goto 12, 3) := by decide +kernel
theorem dL_holds_142 : decode cL_holds 142 = .ok (.aload_n 3, 1) := by decide +kernel
theorem dL_holds_143 : decode cL_holds 143 = .ok (.bipush 6, 2) := by decide +kernel
theorem dL_holds_145 : decode cL_holds 145 = .ok (.iload 5, 2) := by decide +kernel
theorem dL_holds_147 : decode cL_holds 147 = .ok (.imul, 1) := by decide +kernel
theorem dL_holds_148 : decode cL_holds 148 = .ok (.iconst 3, 1) := by decide +kernel
theorem dL_holds_149 : decode cL_holds 149 = .ok (.iadd, 1) := by decide +kernel
theorem dL_holds_150 : decode cL_holds 150 = .ok (.iaload, 1) := by decide +kernel
theorem dL_holds_151 : decode cL_holds 151 = .ok (.istore 8, 2) := by decide +kernel
theorem dL_holds_153 : decode cL_holds 153 = .ok (.aload_n 3, 1) := by decide +kernel
theorem dL_holds_154 : decode cL_holds 154 = .ok (.bipush 6, 2) := by decide +kernel
theorem dL_holds_156 : decode cL_holds 156 = .ok (.iload 5, 2) := by decide +kernel
theorem dL_holds_158 : decode cL_holds 158 = .ok (.imul, 1) := by decide +kernel
theorem dL_holds_159 : decode cL_holds 159 = .ok (.iconst 3, 1) := by decide +kernel
theorem dL_holds_160 : decode cL_holds 160 = .ok (.iadd, 1) := by decide +kernel
theorem dL_holds_161 : decode cL_holds 161 = .ok (.iload 6, 2) := by decide +kernel
theorem dL_holds_163 : decode cL_holds 163 = .ok (.ifCond .eq 8, 3) := by decide +kernel
theorem dL_holds_166 : decode cL_holds 166 = .ok (.iload 7, 2) := by decide +kernel
theorem dL_holds_168 : decode cL_holds 168 = .ok (.goto 12, 3) := by decide +kernel
theorem dL_holds_171 : decode cL_holds 171 = .ok (.aload_n 3, 1) := by decide +kernel
theorem dL_holds_172 : decode cL_holds 172 = .ok (.bipush 6, 2) := by decide +kernel
theorem dL_holds_174 : decode cL_holds 174 = .ok (.iload 5, 2) := by decide +kernel
theorem dL_holds_176 : decode cL_holds 176 = .ok (.imul, 1) := by decide +kernel
theorem dL_holds_177 : decode cL_holds 177 = .ok (.iconst 3, 1) := by decide +kernel
theorem dL_holds_178 : decode cL_holds 178 = .ok (.iadd, 1) := by decide +kernel
theorem dL_holds_179 : decode cL_holds 179 = .ok (.iaload, 1) := by decide +kernel
theorem dL_holds_180 : decode cL_holds 180 = .ok (.iastore, 1) := by decide +kernel
theorem dL_holds_181 : decode cL_holds 181 = .ok (.aload_n 0, 1) := by decide +kernel
theorem dL_holds_182 : decode cL_holds 182 = .ok (.iload 5, 2) := by decide +kernel
theorem dL_holds_184 : decode cL_holds 184 = .ok (.iload 7, 2) := by decide +kernel
theorem dL_holds_186 : decode cL_holds 186 = .ok (.invokevirtual 126, 3) := by decide +kernel
theorem dL_holds_189 : decode cL_holds 189 = .ok (.iload 8, 2) := by decide +kernel
theorem dL_holds_191 : decode cL_holds 191 = .ok (.if_icmp .ne 21, 3) := by decide +kernel
theorem dL_holds_194 : decode cL_holds 194 = .ok (.aload_n 0, 1) := by decide +kernel
theorem dL_holds_195 : decode cL_holds 195 = .ok (.iload 5, 2) := by decide +kernel
theorem dL_holds_197 : decode cL_holds 197 = .ok (.sipush 10000, 3) := by decide +kernel
theorem dL_holds_200 : decode cL_holds 200 = .ok (.invokevirtual 126, 3) := by decide +kernel
theorem dL_holds_203 : decode cL_holds 203 = .ok (.bipush (-2), 2) := by decide +kernel
theorem dL_holds_205 : decode cL_holds 205 = .ok (.if_icmp .ne 7, 3) := by decide +kernel
theorem dL_holds_208 : decode cL_holds 208 = .ok (.iconst 1, 1) := by decide +kernel
theorem dL_holds_209 : decode cL_holds 209 = .ok (.goto 4, 3) := by decide +kernel
theorem dL_holds_212 : decode cL_holds 212 = .ok (.iconst 0, 1) := by decide +kernel
theorem dL_holds_213 : decode cL_holds 213 = .ok (.ireturn, 1) := by decide +kernel
theorem dL_holds_214 : decode cL_holds 214 = .ok (.iload 6, 2) := by decide +kernel
theorem dL_holds_216 : decode cL_holds 216 = .ok (.ifCond .ne 20, 3) := by decide +kernel
theorem dL_holds_219 : decode cL_holds 219 = .ok (.aload_n 0, 1) := by decide +kernel
theorem dL_holds_220 : decode cL_holds 220 = .ok (.iload 5, 2) := by decide +kernel
theorem dL_holds_222 : decode cL_holds 222 = .ok (.invokevirtual 129, 3) := by decide +kernel
theorem dL_holds_225 : decode cL_holds 225 = .ok (.bipush (-4), 2) := by decide +kernel
theorem dL_holds_227 : decode cL_holds 227 = .ok (.if_icmp .ne 7, 3) := by decide +kernel
theorem dL_holds_230 : decode cL_holds 230 = .ok (.iconst 1, 1) := by decide +kernel
theorem dL_holds_231 : decode cL_holds 231 = .ok (.goto 4, 3) := by decide +kernel
theorem dL_holds_234 : decode cL_holds 234 = .ok (.iconst 0, 1) := by decide +kernel
theorem dL_holds_235 : decode cL_holds 235 = .ok (.ireturn, 1) := by decide +kernel
theorem dL_holds_236 : decode cL_holds 236 = .ok (.aload_n 2, 1) := by decide +kernel
theorem dL_holds_237 : decode cL_holds 237 = .ok (.bipush 6, 2) := by decide +kernel
theorem dL_holds_239 : decode cL_holds 239 = .ok (.iload 5, 2) := by decide +kernel
theorem dL_holds_241 : decode cL_holds 241 = .ok (.imul, 1) := by decide +kernel
theorem dL_holds_242 : decode cL_holds 242 = .ok (.iconst 3, 1) := by decide +kernel
theorem dL_holds_243 : decode cL_holds 243 = .ok (.iadd, 1) := by decide +kernel
theorem dL_holds_244 : decode cL_holds 244 = .ok (.iconst 4, 1) := by decide +kernel
theorem dL_holds_245 : decode cL_holds 245 = .ok (.iastore, 1) := by decide +kernel
theorem dL_holds_246 : decode cL_holds 246 = .ok (.aload_n 3, 1) := by decide +kernel
theorem dL_holds_247 : decode cL_holds 247 = .ok (.bipush 6, 2) := by decide +kernel
theorem dL_holds_249 : decode cL_holds 249 = .ok (.iload 5, 2) := by decide +kernel
theorem dL_holds_251 : decode cL_holds 251 = .ok (.imul, 1) := by decide +kernel
theorem dL_holds_252 : decode cL_holds 252 = .ok (.iconst 5, 1) := by decide +kernel
theorem dL_holds_253 : decode cL_holds 253 = .ok (.iadd, 1) := by decide +kernel
theorem dL_holds_254 : decode cL_holds 254 = .ok (.aload_n 1, 1) := by decide +kernel
theorem dL_holds_255 : decode cL_holds 255 = .ok (.iconst 0, 1) := by decide +kernel
theorem dL_holds_256 : decode cL_holds 256 = .ok (.iaload, 1) := by decide +kernel
theorem dL_holds_257 : decode cL_holds 257 = .ok (.iastore, 1) := by decide +kernel
theorem dL_holds_258 : decode cL_holds 258 = .ok (.iconst 0, 1) := by decide +kernel
theorem dL_holds_259 : decode cL_holds 259 = .ok (.istore 7, 2) := by decide +kernel
theorem dL_holds_261 : decode cL_holds 261 = .ok (.iconst 0, 1) := by decide +kernel
theorem dL_holds_262 : decode cL_holds 262 = .ok (.istore 8, 2) := by decide +kernel
theorem dL_holds_264 : decode cL_holds 264 = .ok (.iload 8, 2) := by decide +kernel
theorem dL_holds_266 : decode cL_holds 266 = .ok (.aload_n 1, 1) := by decide +kernel
theorem dL_holds_267 : decode cL_holds 267 = .ok (.bipush 11, 2) := by decide +kernel
theorem dL_holds_269 : decode cL_holds 269 = .ok (.iaload, 1) := by decide +kernel
theorem dL_holds_270 : decode cL_holds 270 = .ok (.if_icmp .ge 31, 3) := by decide +kernel
theorem dL_holds_273 : decode cL_holds 273 = .ok (.iload 7, 2) := by decide +kernel
theorem dL_holds_275 : decode cL_holds 275 = .ok (.aload_n 2, 1) := by decide +kernel
theorem dL_holds_276 : decode cL_holds 276 = .ok (.bipush 6, 2) := by decide +kernel
theorem dL_holds_278 : decode cL_holds 278 = .ok (.iload 8, 2) := by decide +kernel
theorem dL_holds_280 : decode cL_holds 280 = .ok (.imul, 1) := by decide +kernel
theorem dL_holds_281 : decode cL_holds 281 = .ok (.iconst 3, 1) := by decide +kernel
theorem dL_holds_282 : decode cL_holds 282 = .ok (.iadd, 1) := by decide +kernel
theorem dL_holds_283 : decode cL_holds 283 = .ok (.iaload, 1) := by decide +kernel
theorem dL_holds_284 : decode cL_holds 284 = .ok (.ifCond .ne 7, 3) := by decide +kernel
theorem dL_holds_287 : decode cL_holds 287 = .ok (.iconst 1, 1) := by decide +kernel
theorem dL_holds_288 : decode cL_holds 288 = .ok (.goto 4, 3) := by decide +kernel
theorem dL_holds_291 : decode cL_holds 291 = .ok (.iconst 0, 1) := by decide +kernel
theorem dL_holds_292 : decode cL_holds 292 = .ok (.iadd, 1) := by decide +kernel
theorem dL_holds_293 : decode cL_holds 293 = .ok (.istore 7, 2) := by decide +kernel
theorem dL_holds_295 : decode cL_holds 295 = .ok (.iinc 8 1, 3) := by decide +kernel
theorem dL_holds_298 : decode cL_holds 298 = .ok (.goto (-34), 3) := by decide +kernel
theorem dL_holds_301 : decode cL_holds 301 = .ok (.aload_n 0, 1) := by decide +kernel
theorem dL_holds_302 : decode cL_holds 302 = .ok (.iload 5, 2) := by decide +kernel
theorem dL_holds_304 : decode cL_holds 304 = .ok (.invokevirtual 129, 3) := by decide +kernel
theorem dL_holds_307 : decode cL_holds 307 = .ok (.iload 7, 2) := by decide +kernel
theorem dL_holds_309 : decode cL_holds 309 = .ok (.if_icmp .ne 18, 3) := by decide +kernel
theorem dL_holds_312 : decode cL_holds 312 = .ok (.aload_n 0, 1) := by decide +kernel
theorem dL_holds_313 : decode cL_holds 313 = .ok (.iload 5, 2) := by decide +kernel
theorem dL_holds_315 : decode cL_holds 315 = .ok (.invokevirtual 129, 3) := by decide +kernel
theorem dL_holds_318 : decode cL_holds 318 = .ok (.bipush (-4), 2) := by decide +kernel
theorem dL_holds_320 : decode cL_holds 320 = .ok (.if_icmp .ne 7, 3) := by decide +kernel
theorem dL_holds_323 : decode cL_holds 323 = .ok (.iconst 1, 1) := by decide +kernel
theorem dL_holds_324 : decode cL_holds 324 = .ok (.goto 4, 3) := by decide +kernel
theorem dL_holds_327 : decode cL_holds 327 = .ok (.iconst 0, 1) := by decide +kernel
theorem dL_holds_328 : decode cL_holds 328 = .ok (.ireturn, 1) := by decide +kernel
theorem dL_sets_0 : decode cL_sets 0 = .ok (.iload 4, 2) := by decide +kernel
theorem dL_sets_2 : decode cL_sets 2 = .ok (.iconst 3, 1) := by decide +kernel
theorem dL_sets_3 : decode cL_sets 3 = .ok (.invokestatic 102, 3) := by decide +kernel
theorem dL_sets_6 : decode cL_sets 6 = .ok (.ifCond .ne 100, 3) := by decide +kernel
theorem dL_sets_9 : decode cL_sets 9 = .ok (.bipush 8, 2) := by decide +kernel
theorem dL_sets_11 : decode cL_sets 11 = .ok (.iconst 4, 1) := by decide +kernel
theorem dL_sets_12 : decode cL_sets 12 = .ok (.iload 4, 2) := by decide +kernel
theorem dL_sets_14 : decode cL_sets 14 = .ok (.iconst 4, 1) := by decide +kernel
theorem dL_sets_15 : decode cL_sets 15 = .ok (.ishr, 1) := by decide +kernel
theorem dL_sets_16 : decode cL_sets 16 = .ok (.bipush 60, 2) := by decide +kernel
theorem dL_sets_18 : decode cL_sets 18 = .ok (.invokestatic 102, 3) := by decide +kernel
theorem dL_sets_21 : decode cL_sets 21 = .ok (.imul, 1) := by decide +kernel
theorem dL_sets_22 : decode cL_sets 22 = .ok (.iadd, 1) := by decide +kernel
theorem dL_sets_23 : decode cL_sets 23 = .ok (.istore 5, 2) := by decide +kernel
theorem dL_sets_25 : decode cL_sets 25 = .ok (.aload_n 3, 1) := by decide +kernel
theorem dL_sets_26 : decode cL_sets 26 = .ok (.bipush 9, 2) := by decide +kernel
theorem dL_sets_28 : decode cL_sets 28 = .ok (.daload, 1) := by decide +kernel
theorem dL_sets_29 : decode cL_sets 29 = .ok (.iload 5, 2) := by decide +kernel
theorem dL_sets_31 : decode cL_sets 31 = .ok (.i2d, 1) := by decide +kernel
theorem dL_sets_32 : decode cL_sets 32 = .ok (.ldc2_w 132, 3) := by decide +kernel
theorem dL_sets_35 : decode cL_sets 35 = .ok (.dmul, 1) := by decide +kernel
theorem dL_sets_36 : decode cL_sets 36 = .ok (.dcmp .l, 1) := by decide +kernel
theorem dL_sets_37 : decode cL_sets 37 = .ok (.ifCond .ne 8, 3) := by decide +kernel
theorem dL_sets_40 : decode cL_sets 40 = .ok (.bipush (-5), 2) := by decide +kernel
theorem dL_sets_42 : decode cL_sets 42 = .ok (.goto 4, 3) := by decide +kernel
theorem dL_sets_45 : decode cL_sets 45 = .ok (.iconst 1, 1) := by decide +kernel
theorem dL_sets_46 : decode cL_sets 46 = .ok (.istore 6, 2) := by decide +kernel
theorem dL_sets_48 : decode cL_sets 48 = .ok (.aload_n 3, 1) := by decide +kernel
theorem dL_sets_49 : decode cL_sets 49 = .ok (.bipush 9, 2) := by decide +kernel
theorem dL_sets_51 : decode cL_sets 51 = .ok (.iload 5, 2) := by decide +kernel
theorem dL_sets_53 : decode cL_sets 53 = .ok (.i2d, 1) := by decide +kernel
theorem dL_sets_54 : decode cL_sets 54 = .ok (.ldc2_w 132, 3) := by decide +kernel
theorem dL_sets_57 : decode cL_sets 57 = .ok (.dmul, 1) := by decide +kernel
theorem dL_sets_58 : decode cL_sets 58 = .ok (.dastore, 1) := by decide +kernel
theorem dL_sets_59 : decode cL_sets 59 = .ok (.aload_n 0, 1) := by decide +kernel
theorem dL_sets_60 : decode cL_sets 60 = .ok (.iload 5, 2) := by decide +kernel
theorem dL_sets_62 : decode cL_sets 62 = .ok (.invokestatic 73, 3) := by decide +kernel
theorem dL_sets_65 : decode cL_sets 65 = .ok (.invokevirtual 134, 3) := by decide +kernel
theorem dL_sets_68 : decode cL_sets 68 = .ok (.iload 6, 2) := by decide +kernel
theorem dL_sets_70 : decode cL_sets 70 = .ok (.if_icmp .ne 34, 3) := by decide +kernel
theorem dL_sets_73 : decode cL_sets 73 = .ok (.aload_n 0, 1) := by decide +kernel
theorem dL_sets_74 : decode cL_sets 74 = .ok (.iload 5, 2) := by decide +kernel
theorem dL_sets_76 : decode cL_sets 76 = .ok (.invokestatic 73, 3) := by decide +kernel
theorem dL_sets_79 : decode cL_sets 79 = .ok (.invokevirtual 134, 3) := by decide +kernel
theorem dL_sets_82 : decode cL_sets 82 = .ok (.bipush (-5), 2) := by decide +kernel
theorem dL_sets_84 : decode cL_sets 84 = .ok (.if_icmp .ne 20, 3) := by decide +kernel
theorem dL_sets_87 : decode cL_sets 87 = .ok (.aload_n 0, 1) := by decide +kernel
theorem dL_sets_88 : decode cL_sets 88 = .ok (.iconst 4, 1) := by decide +kernel
theorem dL_sets_89 : decode cL_sets 89 = .ok (.invokestatic 73, 3) := by decide +kernel
theorem dL_sets_92 : decode cL_sets 92 = .ok (.invokevirtual 134, 3) := by decide +kernel
theorem dL_sets_95 : decode cL_sets 95 = .ok (.bipush (-2), 2) := by decide +kernel
theorem dL_sets_97 : decode cL_sets 97 = .ok (.if_icmp .ne 7, 3) := by decide +kernel
theorem dL_sets_100 : decode cL_sets 100 = .ok (.iconst 1, 1) := by decide +kernel
theorem dL_sets_101 : decode cL_sets 101 = .ok (.goto 4, 3) := by decide +kernel
theorem dL_sets_104 : decode cL_sets 104 = .ok (.iconst 0, 1) := by decide +kernel
theorem dL_sets_105 : decode cL_sets 105 = .ok (.ireturn, 1) := by decide +kernel
theorem dL_sets_106 : decode cL_sets 106 = .ok (.iload 4, 2) := by decide +kernel
theorem dL_sets_108 : decode cL_sets 108 = .ok (.iconst 3, 1) := by decide +kernel
theorem dL_sets_109 : decode cL_sets 109 = .ok (.invokestatic 102, 3) := by decide +kernel
theorem dL_sets_112 : decode cL_sets 112 = .ok (.iconst 1, 1) := by decide +kernel
theorem dL_sets_113 : decode cL_sets 113 = .ok (.if_icmp .ne 126, 3) := by decide +kernel
theorem dL_sets_116 : decode cL_sets 116 = .ok (.aload_n 1, 1) := by decide +kernel
theorem dL_sets_117 : decode cL_sets 117 = .ok (.bipush 10, 2) := by decide +kernel
theorem dL_sets_119 : decode cL_sets 119 = .ok (.iaload, 1) := by decide +kernel
theorem dL_sets_120 : decode cL_sets 120 = .ok (.ifCond .le 119, 3) := by decide +kernel
theorem dL_sets_123 : decode cL_sets 123 = .ok (.iload 4, 2) := by decide +kernel
theorem dL_sets_125 : decode cL_sets 125 = .ok (.iconst 4, 1) := by decide +kernel
theorem dL_sets_126 : decode cL_sets 126 = .ok (.ishr, 1) := by decide +kernel
theorem dL_sets_127 : decode cL_sets 127 = .ok (.aload_n 1, 1) := by decide +kernel
theorem dL_sets_128 : decode cL_sets 128 = .ok (.bipush 10, 2) := by decide +kernel
theorem dL_sets_130 : decode cL_sets 130 = .ok (.iaload, 1) := by decide +kernel
theorem dL_sets_131 : decode cL_sets 131 = .ok (.invokestatic 102, 3) := by decide +kernel
theorem dL_sets_134 : decode cL_sets 134 = .ok (.istore 5, 2) := by decide +kernel
theorem dL_sets_136 : decode cL_sets 136 = .ok (.iconst 1, 1) := by decide +kernel
theorem dL_sets_137 : decode cL_sets 137 = .ok (.iload 4, 2) := by decide +kernel
theorem dL_sets_139 : decode cL_sets 139 = .ok (.bipush 7, 2) := by decide +kernel
theorem dL_sets_141 : decode cL_sets 141 = .ok (.ishr, 1) := by decide +kernel
theorem dL_sets_142 : decode cL_sets 142 = .ok (.bipush 12, 2) := by decide +kernel
theorem dL_sets_144 : decode cL_sets 144 = .ok (.invokestatic 102, 3) := by decide +kernel
theorem dL_sets_147 : decode cL_sets 147 = .ok (.iadd, 1) := by decide +kernel
theorem dL_sets_148 : decode cL_sets 148 = .ok (.istore 6, 2) := by decide +kernel
theorem dL_sets_150 : decode cL_sets 150 = .ok (.aload_n 3, 1) := by decide +kernel
theorem dL_sets_151 : decode cL_sets 151 = .ok (.iconst 2, 1) := by decide +kernel
theorem dL_sets_152 : decode cL_sets 152 = .ok (.iload 5, 2) := by decide +kernel
theorem dL_sets_154 : decode cL_sets 154 = .ok (.imul, 1) := by decide +kernel
theorem dL_sets_155 : decode cL_sets 155 = .ok (.iconst 1, 1) := by decide +kernel
theorem dL_sets_156 : decode cL_sets 156 = .ok (.iadd, 1) := by decide +kernel
theorem dL_sets_157 : decode cL_sets 157 = .ok (.daload, 1) := by decide +kernel
theorem dL_sets_158 : decode cL_sets 158 = .ok (.iload 6, 2) := by decide +kernel
theorem dL_sets_160 : decode cL_sets 160 = .ok (.i2d, 1) := by decide +kernel
theorem dL_sets_161 : decode cL_sets 161 = .ok (.dcmp .l, 1) := by decide +kernel
theorem dL_sets_162 : decode cL_sets 162 = .ok (.ifCond .ne 8, 3) := by decide +kernel
theorem dL_sets_165 : decode cL_sets 165 = .ok (.bipush (-5), 2) := by decide +kernel
theorem dL_sets_167 : decode cL_sets 167 = .ok (.goto 4, 3) := by decide +kernel
theorem dL_sets_170 : decode cL_sets 170 = .ok (.iconst 1, 1) := by decide +kernel
theorem dL_sets_171 : decode cL_sets 171 = .ok (.istore 7, 2) := by decide +kernel
theorem dL_sets_173 : decode cL_sets 173 = .ok (.aload_n 3, 1) := by decide +kernel
theorem dL_sets_174 : decode cL_sets 174 = .ok (.iconst 2, 1) := by decide +kernel
theorem dL_sets_175 : decode cL_sets 175 = .ok (.iload 5, 2) := by decide +kernel
theorem dL_sets_177 : decode cL_sets 177 = .ok (.imul, 1) := by decide +kernel
theorem dL_sets_178 : decode cL_sets 178 = .ok (.iconst 1, 1) := by decide +kernel
theorem dL_sets_179 : decode cL_sets 179 = .ok (.iadd, 1) := by decide +kernel
theorem dL_sets_180 : decode cL_sets 180 = .ok (.iload 6, 2) := by decide +kernel
theorem dL_sets_182 : decode cL_sets 182 = .ok (.i2d, 1) := by decide +kernel
theorem dL_sets_183 : decode cL_sets 183 = .ok (.dastore, 1) := by decide +kernel
theorem dL_sets_184 : decode cL_sets 184 = .ok (.aload_n 0, 1) := by decide +kernel
theorem dL_sets_185 : decode cL_sets 185 = .ok (.iload 5, 2) := by decide +kernel
theorem dL_sets_187 : decode cL_sets 187 = .ok (.bipush 8, 2) := by decide +kernel
theorem dL_sets_189 : decode cL_sets 189 = .ok (.iload 6, 2) := by decide +kernel
theorem dL_sets_191 : decode cL_sets 191 = .ok (.imul, 1) := by decide +kernel
theorem dL_sets_192 : decode cL_sets 192 = .ok (.invokestatic 73, 3) := by decide +kernel
theorem dL_sets_195 : decode cL_sets 195 = .ok (.invokevirtual 137, 3) := by decide +kernel
theorem dL_sets_198 : decode cL_sets 198 = .ok (.iload 7, 2) := by decide +kernel
theorem dL_sets_200 : decode cL_sets 200 = .ok (.if_icmp .ne 37, 3) := by decide +kernel
theorem dL_sets_203 : decode cL_sets 203 = .ok (.aload_n 0, 1) := by decide +kernel
theorem dL_sets_204 : decode cL_sets 204 = .ok (.aload_n 1, 1) := by decide +kernel
theorem dL_sets_205 : decode cL_sets 205 = .ok (.bipush 10, 2) := by decide +kernel
theorem dL_sets_207 : decode cL_sets 207 = .ok (.iaload, 1) := by decide +kernel
theorem dL_sets_208 : decode cL_sets 208 = .ok (.bipush 8, 2) := by decide +kernel
theorem dL_sets_210 : decode cL_sets 210 = .ok (.invokestatic 73, 3) := by decide +kernel
theorem dL_sets_213 : decode cL_sets 213 = .ok (.invokevirtual 137, 3) := by decide +kernel
theorem dL_sets_216 : decode cL_sets 216 = .ok (.iconst (-1), 1) := by decide +kernel
theorem dL_sets_217 : decode cL_sets 217 = .ok (.if_icmp .ne 20, 3) := by decide +kernel
theorem dL_sets_220 : decode cL_sets 220 = .ok (.aload_n 0, 1) := by decide +kernel
theorem dL_sets_221 : decode cL_sets 221 = .ok (.iload 5, 2) := by decide +kernel
theorem dL_sets_223 : decode cL_sets 223 = .ok (.ldc 140, 2) := by decide +kernel
theorem dL_sets_225 : decode cL_sets 225 = .ok (.invokevirtual 137, 3) := by decide +kernel
theorem dL_sets_228 : decode cL_sets 228 = .ok (.bipush (-2), 2) := by decide +kernel
theorem dL_sets_230 : decode cL_sets 230 = .ok (.if_icmp .ne 7, 3) := by decide +kernel
theorem dL_sets_233 : decode cL_sets 233 = .ok (.iconst 1, 1) := by decide +kernel
theorem dL_sets_234 : decode cL_sets 234 = .ok (.goto 4, 3) := by decide +kernel
theorem dL_sets_237 : decode cL_sets 237 = .ok (.iconst 0, 1) := by decide +kernel
theorem dL_sets_238 : decode cL_sets 238 = .ok (.ireturn, 1) := by decide +kernel
theorem dL_sets_239 : decode cL_sets 239 = .ok (.iload 4, 2) := by decide +kernel
theorem dL_sets_241 : decode cL_sets 241 = .ok (.iconst 4, 1) := by decide +kernel
theorem dL_sets_242 : decode cL_sets 242 = .ok (.ishr, 1) := by decide +kernel
theorem dL_sets_243 : decode cL_sets 243 = .ok (.iconst 2, 1) := by decide +kernel
theorem dL_sets_244 : decode cL_sets 244 = .ok (.invokestatic 102, 3) := by decide +kernel
theorem dL_sets_247 : decode cL_sets 247 = .ok (.ifCond .ne 146, 3) := by decide +kernel
theorem dL_sets_250 : decode cL_sets 250 = .ok (.aload_n 1, 1) := by decide +kernel
theorem dL_sets_251 : decode cL_sets 251 = .ok (.bipush 9, 2) := by decide +kernel
theorem dL_sets_253 : decode cL_sets 253 = .ok (.iaload, 1) := by decide +kernel
theorem dL_sets_254 : decode cL_sets 254 = .ok (.ifCond .le 139, 3) := by decide +kernel
theorem dL_sets_257 : decode cL_sets 257 = .ok (.iload 4, 2) := by decide +kernel
theorem dL_sets_259 : decode cL_sets 259 = .ok (.bipush 6, 2) := by decide +kernel
theorem dL_sets_261 : decode cL_sets 261 = .ok (.ishr, 1) := by decide +kernel
theorem dL_sets_262 : decode cL_sets 262 = .ok (.aload_n 1, 1) := by decide +kernel
theorem dL_sets_263 : decode cL_sets 263 = .ok (.bipush 9, 2) := by decide +kernel
theorem dL_sets_265 : decode cL_sets 265 = .ok (.iaload, 1) := by decide +kernel
theorem dL_sets_266 : decode cL_sets 266 = .ok (.invokestatic 102, 3) := by decide +kernel
theorem dL_sets_269 : decode cL_sets 269 = .ok (.istore 5, 2) := by decide +kernel
theorem dL_sets_271 : decode cL_sets 271 = .ok (.iconst 1, 1) := by decide +kernel
theorem dL_sets_272 : decode cL_sets 272 = .ok (.iload 4, 2) := by decide +kernel
theorem dL_sets_274 : decode cL_sets 274 = .ok (.bipush 9, 2) := by decide +kernel
theorem dL_sets_276 : decode cL_sets 276 = .ok (.ishr, 1) := by decide +kernel
theorem dL_sets_277 : decode cL_sets 277 = .ok (.iconst 4, 1) := by decide +kernel
theorem dL_sets_278 : decode cL_sets 278 = .ok (.invokestatic 102, 3) := by decide +kernel
theorem dL_sets_281 : decode cL_sets 281 = .ok (.iadd, 1) := by decide +kernel
theorem dL_sets_282 : decode cL_sets 282 = .ok (.istore 6, 2) := by decide +kernel
theorem dL_sets_284 : decode cL_sets 284 = .ok (.aload_n 2, 1) := by decide +kernel
theorem dL_sets_285 : decode cL_sets 285 = .ok (.bipush 6, 2) := by decide +kernel
theorem dL_sets_287 : decode cL_sets 287 = .ok (.iload 5, 2) := by decide +kernel
theorem dL_sets_289 : decode cL_sets 289 = .ok (.imul, 1) := by decide +kernel
theorem dL_sets_290 : decode cL_sets 290 = .ok (.iaload, 1) := by decide +kernel
theorem dL_sets_291 : decode cL_sets 291 = .ok (.ifCond .ne 8, 3) := by decide +kernel
theorem dL_sets_294 : decode cL_sets 294 = .ok (.bipush (-4), 2) := by decide +kernel
theorem dL_sets_296 : decode cL_sets 296 = .ok (.goto 31, 3) := by decide +kernel
theorem dL_sets_299 : decode cL_sets 299 = .ok (.aload_n 2, 1) := by decide +kernel
theorem dL_sets_300 : decode cL_sets 300 = .ok (.bipush 6, 2) := by decide +kernel
theorem dL_sets_302 : decode cL_sets 302 = .ok (.iload 5, 2) := by decide +kernel
theorem dL_sets_304 : decode cL_sets 304 = .ok (.imul, 1) := by decide +kernel
theorem dL_sets_305 : decode cL_sets 305 = .ok (.iconst 3, 1) := by decide +kernel
theorem dL_sets_306 : decode cL_sets 306 = .ok (.iadd, 1) := by decide +kernel
theorem dL_sets_307 : decode cL_sets 307 = .ok (.iaload, 1) := by decide +kernel
theorem dL_sets_308 : decode cL_sets 308 = .ok (.iload 6, 2) := by decide +kernel
theorem dL_sets_310 : decode cL_sets 310 = .ok (.if_icmp .ne 8, 3) := by decide +kernel
theorem dL_sets_313 : decode cL_sets 313 = .ok (.bipush (-5), 2) := by decide +kernel
theorem dL_sets_315 : decode cL_sets 315 = .ok (.goto 12, 3) := by decide +kernel
theorem dL_sets_318 : decode cL_sets 318 = .ok (.aload_n 2, 1) := by decide +kernel
theorem dL_sets_319 : decode cL_sets 319 = .ok (.bipush 6, 2) := by decide +kernel
theorem dL_sets_321 : decode cL_sets 321 = .ok (.iload 5, 2) := by decide +kernel
theorem dL_sets_323 : decode cL_sets 323 = .ok (.imul, 1) := by decide +kernel
theorem dL_sets_324 : decode cL_sets 324 = .ok (.iconst 3, 1) := by decide +kernel
theorem dL_sets_325 : decode cL_sets 325 = .ok (.iadd, 1) := by decide +kernel
theorem dL_sets_326 : decode cL_sets 326 = .ok (.iaload, 1) := by decide +kernel
theorem dL_sets_327 : decode cL_sets 327 = .ok (.istore 7, 2) := by decide +kernel
theorem dL_sets_329 : decode cL_sets 329 = .ok (.aload_n 2, 1) := by decide +kernel
theorem dL_sets_330 : decode cL_sets 330 = .ok (.bipush 6, 2) := by decide +kernel
theorem dL_sets_332 : decode cL_sets 332 = .ok (.iload 5, 2) := by decide +kernel
theorem dL_sets_334 : decode cL_sets 334 = .ok (.imul, 1) := by decide +kernel
theorem dL_sets_335 : decode cL_sets 335 = .ok (.iconst 3, 1) := by decide +kernel
theorem dL_sets_336 : decode cL_sets 336 = .ok (.iadd, 1) := by decide +kernel
theorem dL_sets_337 : decode cL_sets 337 = .ok (.aload_n 2, 1) := by decide +kernel
theorem dL_sets_338 : decode cL_sets 338 = .ok (.bipush 6, 2) := by decide +kernel
theorem dL_sets_340 : decode cL_sets 340 = .ok (.iload 5, 2) := by decide +kernel
theorem dL_sets_342 : decode cL_sets 342 = .ok (.imul, 1) := by decide +kernel
theorem dL_sets_343 : decode cL_sets 343 = .ok (.iaload, 1) := by decide +kernel
theorem dL_sets_344 : decode cL_sets 344 = .ok (.ifCond .ne 15, 3) := by decide +kernel
theorem dL_sets_347 : decode cL_sets 347 = .ok (.aload_n 2, 1) := by decide +kernel
theorem dL_sets_348 : decode cL_sets 348 = .ok (.bipush 6, 2) := by decide +kernel
theorem dL_sets_350 : decode cL_sets 350 = .ok (.iload 5, 2) := by decide +kernel
theorem dL_sets_352 : decode cL_sets 352 = .ok (.imul, 1) := by decide +kernel
theorem dL_sets_353 : decode cL_sets 353 = .ok (.iconst 3, 1) := by decide +kernel
theorem dL_sets_354 : decode cL_sets 354 = .ok (.iadd, 1) := by decide +kernel
theorem dL_sets_355 : decode cL_sets 355 = .ok (.iaload, 1) := by decide +kernel
theorem dL_sets_356 : decode cL_sets 356 = .ok (.goto 5, 3) := by decide +kernel
theorem dL_sets_359 : decode cL_sets 359 = .ok (.iload 6, 2) := by decide +kernel
theorem dL_sets_361 : decode cL_sets 361 = .ok (.iastore, 1) := by decide +kernel
theorem dL_sets_362 : decode cL_sets 362 = .ok (.aload_n 0, 1) := by decide +kernel
theorem dL_sets_363 : decode cL_sets 363 = .ok (.iload 5, 2) := by decide +kernel
