theorem dL_ticks_24 : decode cL_ticks 24 = .ok (.istore 8, 2) := by decide +kernel
theorem dL_ticks_26 : decode cL_ticks 26 = .ok (.iload 8, 2) := by decide +kernel
theorem dL_ticks_28 : decode cL_ticks 28 = .ok (.ifCond .lt 129, 3) := by decide +kernel
theorem dL_ticks_31 : decode cL_ticks 31 = .ok (.aload_n 0, 1) := by decide +kernel
theorem dL_ticks_32 : decode cL_ticks 32 = .ok (.iconst 3, 1) := by decide +kernel
theorem dL_ticks_33 : decode cL_ticks 33 = .ok (.iload 8, 2) := by decide +kernel
theorem dL_ticks_35 : decode cL_ticks 35 = .ok (.iastore, 1) := by decide +kernel
theorem dL_ticks_36 : decode cL_ticks 36 = .ok (.aload 4, 2) := by decide +kernel
theorem dL_ticks_38 : decode cL_ticks 38 = .ok (.bipush 6, 2) := by decide +kernel
theorem dL_ticks_40 : decode cL_ticks 40 = .ok (.iload 8, 2) := by decide +kernel
theorem dL_ticks_42 : decode cL_ticks 42 = .ok (.imul, 1) := by decide +kernel
theorem dL_ticks_43 : decode cL_ticks 43 = .ok (.iconst 3, 1) := by decide +kernel
theorem dL_ticks_44 : decode cL_ticks 44 = .ok (.iadd, 1) := by decide +kernel
theorem dL_ticks_45 : decode cL_ticks 45 = .ok (.iconst 1, 1) := by decide +kernel
theorem dL_ticks_46 : decode cL_ticks 46 = .ok (.iastore, 1) := by decide +kernel
theorem dL_ticks_47 : decode cL_ticks 47 = .ok (.aload 4, 2) := by decide +kernel
theorem dL_ticks_49 : decode cL_ticks 49 = .ok (.bipush 6, 2) := by decide +kernel
theorem dL_ticks_51 : decode cL_ticks 51 = .ok (.iload 8, 2) := by decide +kernel
theorem dL_ticks_53 : decode cL_ticks 53 = .ok (.imul, 1) := by decide +kernel
theorem dL_ticks_54 : decode cL_ticks 54 = .ok (.iconst 4, 1) := by decide +kernel
theorem dL_ticks_55 : decode cL_ticks 55 = .ok (.iadd, 1) := by decide +kernel
theorem dL_ticks_56 : decode cL_ticks 56 = .ok (.iconst 0, 1) := by decide +kernel
theorem dL_ticks_57 : decode cL_ticks 57 = .ok (.iastore, 1) := by decide +kernel
theorem dL_ticks_58 : decode cL_ticks 58 = .ok (.aload 4, 2) := by decide +kernel
theorem dL_ticks_60 : decode cL_ticks 60 = .ok (.bipush 6, 2) := by decide +kernel
theorem dL_ticks_62 : decode cL_ticks 62 = .ok (.iload 8, 2) := by decide +kernel
theorem dL_ticks_64 : decode cL_ticks 64 = .ok (.imul, 1) := by decide +kernel
theorem dL_ticks_65 : decode cL_ticks 65 = .ok (.iconst 5, 1) := by decide +kernel
theorem dL_ticks_66 : decode cL_ticks 66 = .ok (.iadd, 1) := by decide +kernel
theorem dL_ticks_67 : decode cL_ticks 67 = .ok (.aload 4, 2) := by decide +kernel
theorem dL_ticks_69 : decode cL_ticks 69 = .ok (.bipush 6, 2) := by decide +kernel
theorem dL_ticks_71 : decode cL_ticks 71 = .ok (.iload 8, 2) := by decide +kernel
theorem dL_ticks_73 : decode cL_ticks 73 = .ok (.imul, 1) := by decide +kernel
theorem dL_ticks_74 : decode cL_ticks 74 = .ok (.iaload, 1) := by decide +kernel
theorem dL_ticks_75 : decode cL_ticks 75 = .ok (.ifCond .ne 11, 3) := by decide +kernel
theorem dL_ticks_78 : decode cL_ticks 78 = .ok (.aload_n 0, 1) := by decide +kernel
theorem dL_ticks_79 : decode cL_ticks 79 = .ok (.aload_n 3, 1) := by decide +kernel
theorem dL_ticks_80 : decode cL_ticks 80 = .ok (.invokestatic 27, 3) := by decide +kernel
theorem dL_ticks_83 : decode cL_ticks 83 = .ok (.goto 30, 3) := by decide +kernel
theorem dL_ticks_86 : decode cL_ticks 86 = .ok (.aload 4, 2) := by decide +kernel
theorem dL_ticks_88 : decode cL_ticks 88 = .ok (.bipush 6, 2) := by decide +kernel
theorem dL_ticks_90 : decode cL_ticks 90 = .ok (.iload 8, 2) := by decide +kernel
theorem dL_ticks_92 : decode cL_ticks 92 = .ok (.imul, 1) := by decide +kernel
theorem dL_ticks_93 : decode cL_ticks 93 = .ok (.iaload, 1) := by decide +kernel
theorem dL_ticks_94 : decode cL_ticks 94 = .ok (.iconst 1, 1) := by decide +kernel
theorem dL_ticks_95 : decode cL_ticks 95 = .ok (.if_icmp .ne 16, 3) := by decide +kernel
theorem dL_ticks_98 : decode cL_ticks 98 = .ok (.aload 4, 2) := by decide +kernel
theorem dL_ticks_100 : decode cL_ticks 100 = .ok (.bipush 6, 2) := by decide +kernel
theorem dL_ticks_102 : decode cL_ticks 102 = .ok (.iload 8, 2) := by decide +kernel
theorem dL_ticks_104 : decode cL_ticks 104 = .ok (.imul, 1) := by decide +kernel
theorem dL_ticks_105 : decode cL_ticks 105 = .ok (.iconst 1, 1) := by decide +kernel
theorem dL_ticks_106 : decode cL_ticks 106 = .ok (.iadd, 1) := by decide +kernel
theorem dL_ticks_107 : decode cL_ticks 107 = .ok (.iaload, 1) := by decide +kernel
theorem dL_ticks_108 : decode cL_ticks 108 = .ok (.goto 5, 3) := by decide +kernel
theorem dL_ticks_111 : decode cL_ticks 111 = .ok (.bipush (-5), 2) := by decide +kernel
theorem dL_ticks_113 : decode cL_ticks 113 = .ok (.iastore, 1) := by decide +kernel
theorem dL_ticks_114 : decode cL_ticks 114 = .ok (.aload 5, 2) := by decide +kernel
theorem dL_ticks_116 : decode cL_ticks 116 = .ok (.bipush 6, 2) := by decide +kernel
theorem dL_ticks_118 : decode cL_ticks 118 = .ok (.iload 8, 2) := by decide +kernel
theorem dL_ticks_120 : decode cL_ticks 120 = .ok (.imul, 1) := by decide +kernel
theorem dL_ticks_121 : decode cL_ticks 121 = .ok (.aload 4, 2) := by decide +kernel
theorem dL_ticks_123 : decode cL_ticks 123 = .ok (.bipush 6, 2) := by decide +kernel
theorem dL_ticks_125 : decode cL_ticks 125 = .ok (.iload 8, 2) := by decide +kernel
theorem dL_ticks_127 : decode cL_ticks 127 = .ok (.imul, 1) := by decide +kernel
theorem dL_ticks_128 : decode cL_ticks 128 = .ok (.iaload, 1) := by decide +kernel
theorem dL_ticks_129 : decode cL_ticks 129 = .ok (.iconst 1, 1) := by decide +kernel
theorem dL_ticks_130 : decode cL_ticks 130 = .ok (.if_icmp .ne 11, 3) := by decide +kernel
theorem dL_ticks_133 : decode cL_ticks 133 = .ok (.aload_n 0, 1) := by decide +kernel
theorem dL_ticks_134 : decode cL_ticks 134 = .ok (.aload_n 1, 1) := by decide +kernel
theorem dL_ticks_135 : decode cL_ticks 135 = .ok (.invokestatic 31, 3) := by decide +kernel
theorem dL_ticks_138 : decode cL_ticks 138 = .ok (.goto 5, 3) := by decide +kernel
theorem dL_ticks_141 : decode cL_ticks 141 = .ok (.bipush (-5), 2) := by decide +kernel
theorem dL_ticks_143 : decode cL_ticks 143 = .ok (.iastore, 1) := by decide +kernel
theorem dL_ticks_144 : decode cL_ticks 144 = .ok (.aload 5, 2) := by decide +kernel
theorem dL_ticks_146 : decode cL_ticks 146 = .ok (.bipush 6, 2) := by decide +kernel
theorem dL_ticks_148 : decode cL_ticks 148 = .ok (.iload 8, 2) := by decide +kernel
theorem dL_ticks_150 : decode cL_ticks 150 = .ok (.imul, 1) := by decide +kernel
theorem dL_ticks_151 : decode cL_ticks 151 = .ok (.iconst 4, 1) := by decide +kernel
theorem dL_ticks_152 : decode cL_ticks 152 = .ok (.iadd, 1) := by decide +kernel
theorem dL_ticks_153 : decode cL_ticks 153 = .ok (.aload_n 0, 1) := by decide +kernel
theorem dL_ticks_154 : decode cL_ticks 154 = .ok (.iconst 0, 1) := by decide +kernel
theorem dL_ticks_155 : decode cL_ticks 155 = .ok (.iaload, 1) := by decide +kernel
theorem dL_ticks_156 : decode cL_ticks 156 = .ok (.iastore, 1) := by decide +kernel
theorem dL_ticks_157 : decode cL_ticks 157 = .ok (.aload_n 0, 1) := by decide +kernel
theorem dL_ticks_158 : decode cL_ticks 158 = .ok (.iconst 3, 1) := by decide +kernel
theorem dL_ticks_159 : decode cL_ticks 159 = .ok (.iaload, 1) := by decide +kernel
theorem dL_ticks_160 : decode cL_ticks 160 = .ok (.istore 8, 2) := by decide +kernel
theorem dL_ticks_162 : decode cL_ticks 162 = .ok (.aload_n 0, 1) := by decide +kernel
theorem dL_ticks_163 : decode cL_ticks 163 = .ok (.bipush 17, 2) := by decide +kernel
theorem dL_ticks_165 : decode cL_ticks 165 = .ok (.dup2, 1) := by decide +kernel
theorem dL_ticks_166 : decode cL_ticks 166 = .ok (.iaload, 1) := by decide +kernel
theorem dL_ticks_167 : decode cL_ticks 167 = .ok (.iload 8, 2) := by decide +kernel
theorem dL_ticks_169 : decode cL_ticks 169 = .ok (.ifCond .ge 7, 3) := by decide +kernel
theorem dL_ticks_172 : decode cL_ticks 172 = .ok (.iconst 1, 1) := by decide +kernel
theorem dL_ticks_173 : decode cL_ticks 173 = .ok (.goto 4, 3) := by decide +kernel
theorem dL_ticks_176 : decode cL_ticks 176 = .ok (.iconst 0, 1) := by decide +kernel
theorem dL_ticks_177 : decode cL_ticks 177 = .ok (.iadd, 1) := by decide +kernel
theorem dL_ticks_178 : decode cL_ticks 178 = .ok (.iastore, 1) := by decide +kernel
theorem dL_ticks_179 : decode cL_ticks 179 = .ok (.iload 8, 2) := by decide +kernel
theorem dL_ticks_181 : decode cL_ticks 181 = .ok (.ifCond .lt 143, 3) := by decide +kernel
theorem dL_ticks_184 : decode cL_ticks 184 = .ok (.aload_n 0, 1) := by decide +kernel
theorem dL_ticks_185 : decode cL_ticks 185 = .ok (.aload_n 1, 1) := by decide +kernel
theorem dL_ticks_186 : decode cL_ticks 186 = .ok (.aload_n 2, 1) := by decide +kernel
theorem dL_ticks_187 : decode cL_ticks 187 = .ok (.aload_n 3, 1) := by decide +kernel
theorem dL_ticks_188 : decode cL_ticks 188 = .ok (.aload 4, 2) := by decide +kernel
theorem dL_ticks_190 : decode cL_ticks 190 = .ok (.aload 5, 2) := by decide +kernel
theorem dL_ticks_192 : decode cL_ticks 192 = .ok (.aload 6, 2) := by decide +kernel
theorem dL_ticks_194 : decode cL_ticks 194 = .ok (.invokestatic 63, 3) := by decide +kernel
theorem dL_ticks_197 : decode cL_ticks 197 = .ok (.ifCond .eq 127, 3) := by decide +kernel
theorem dL_ticks_200 : decode cL_ticks 200 = .ok (.aload 4, 2) := by decide +kernel
theorem dL_ticks_202 : decode cL_ticks 202 = .ok (.bipush 6, 2) := by decide +kernel
theorem dL_ticks_204 : decode cL_ticks 204 = .ok (.iload 8, 2) := by decide +kernel
theorem dL_ticks_206 : decode cL_ticks 206 = .ok (.imul, 1) := by decide +kernel
theorem dL_ticks_207 : decode cL_ticks 207 = .ok (.iconst 4, 1) := by decide +kernel
theorem dL_ticks_208 : decode cL_ticks 208 = .ok (.iadd, 1) := by decide +kernel
theorem dL_ticks_209 : decode cL_ticks 209 = .ok (.dup2, 1) := by decide +kernel
theorem dL_ticks_210 : decode cL_ticks 210 = .ok (.iaload, 1) := by decide +kernel
theorem dL_ticks_211 : decode cL_ticks 211 = .ok (.iconst 1, 1) := by decide +kernel
theorem dL_ticks_212 : decode cL_ticks 212 = .ok (.iadd, 1) := by decide +kernel
theorem dL_ticks_213 : decode cL_ticks 213 = .ok (.iastore, 1) := by decide +kernel
theorem dL_ticks_214 : decode cL_ticks 214 = .ok (.aload 4, 2) := by decide +kernel
theorem dL_ticks_216 : decode cL_ticks 216 = .ok (.bipush 6, 2) := by decide +kernel
theorem dL_ticks_218 : decode cL_ticks 218 = .ok (.iload 8, 2) := by decide +kernel
theorem dL_ticks_220 : decode cL_ticks 220 = .ok (.imul, 1) := by decide +kernel
theorem dL_ticks_221 : decode cL_ticks 221 = .ok (.iconst 4, 1) := by decide +kernel
theorem dL_ticks_222 : decode cL_ticks 222 = .ok (.iadd, 1) := by decide +kernel
theorem dL_ticks_223 : decode cL_ticks 223 = .ok (.iaload, 1) := by decide +kernel
theorem dL_ticks_224 : decode cL_ticks 224 = .ok (.aload 4, 2) := by decide +kernel
theorem dL_ticks_226 : decode cL_ticks 226 = .ok (.bipush 6, 2) := by decide +kernel
theorem dL_ticks_228 : decode cL_ticks 228 = .ok (.iload 8, 2) := by decide +kernel
theorem dL_ticks_230 : decode cL_ticks 230 = .ok (.imul, 1) := by decide +kernel
theorem dL_ticks_231 : decode cL_ticks 231 = .ok (.iaload, 1) := by decide +kernel
theorem dL_ticks_232 : decode cL_ticks 232 = .ok (.iconst 2, 1) := by decide +kernel
theorem dL_ticks_233 : decode cL_ticks 233 = .ok (.if_icmp .ne 7, 3) := by decide +kernel
theorem dL_ticks_236 : decode cL_ticks 236 = .ok (.iconst 4, 1) := by decide +kernel
theorem dL_ticks_237 : decode cL_ticks 237 = .ok (.goto 5, 3) := by decide +kernel
theorem dL_ticks_240 : decode cL_ticks 240 = .ok (.bipush 8, 2) := by decide +kernel
theorem dL_ticks_242 : decode cL_ticks 242 = .ok (.if_icmp .ne 82, 3) := by decide +kernel
theorem dL_ticks_245 : decode cL_ticks 245 = .ok (.aload 4, 2) := by decide +kernel
theorem dL_ticks_247 : decode cL_ticks 247 = .ok (.bipush 6, 2) := by decide +kernel
theorem dL_ticks_249 : decode cL_ticks 249 = .ok (.iload 8, 2) := by decide +kernel
theorem dL_ticks_251 : decode cL_ticks 251 = .ok (.imul, 1) := by decide +kernel
theorem dL_ticks_252 : decode cL_ticks 252 = .ok (.iconst 3, 1) := by decide +kernel
theorem dL_ticks_253 : decode cL_ticks 253 = .ok (.iadd, 1) := by decide +kernel
theorem dL_ticks_254 : decode cL_ticks 254 = .ok (.aload 5, 2) := by decide +kernel
theorem dL_ticks_256 : decode cL_ticks 256 = .ok (.bipush 6, 2) := by decide +kernel
theorem dL_ticks_258 : decode cL_ticks 258 = .ok (.iload 8, 2) := by decide +kernel
theorem dL_ticks_260 : decode cL_ticks 260 = .ok (.imul, 1) := by decide +kernel
theorem dL_ticks_261 : decode cL_ticks 261 = .ok (.iconst 1, 1) := by decide +kernel
theorem dL_ticks_262 : decode cL_ticks 262 = .ok (.iadd, 1) := by decide +kernel
theorem dL_ticks_263 : decode cL_ticks 263 = .ok (.iaload, 1) := by decide +kernel
theorem dL_ticks_264 : decode cL_ticks 264 = .ok (.ifCond .le 7, 3) := by decide +kernel
theorem dL_ticks_267 : decode cL_ticks 267 = .ok (.iconst 3, 1) := by decide +kernel
theorem dL_ticks_268 : decode cL_ticks 268 = .ok (.goto 4, 3) := by decide +kernel
theorem dL_ticks_271 : decode cL_ticks 271 = .ok (.iconst 2, 1) := by decide +kernel
theorem dL_ticks_272 : decode cL_ticks 272 = .ok (.iastore, 1) := by decide +kernel
theorem dL_ticks_273 : decode cL_ticks 273 = .ok (.aload 4, 2) := by decide +kernel
theorem dL_ticks_275 : decode cL_ticks 275 = .ok (.bipush 6, 2) := by decide +kernel
theorem dL_ticks_277 : decode cL_ticks 277 = .ok (.iload 8, 2) := by decide +kernel
theorem dL_ticks_279 : decode cL_ticks 279 = .ok (.imul, 1) := by decide +kernel
theorem dL_ticks_280 : decode cL_ticks 280 = .ok (.iconst 4, 1) := by decide +kernel
theorem dL_ticks_281 : decode cL_ticks 281 = .ok (.iadd, 1) := by decide +kernel
theorem dL_ticks_282 : decode cL_ticks 282 = .ok (.bipush (-5), 2) := by decide +kernel
theorem dL_ticks_284 : decode cL_ticks 284 = .ok (.iastore, 1) := by decide +kernel
theorem dL_ticks_285 : decode cL_ticks 285 = .ok (.aload 5, 2) := by decide +kernel
theorem dL_ticks_287 : decode cL_ticks 287 = .ok (.bipush 6, 2) := by decide +kernel
theorem dL_ticks_289 : decode cL_ticks 289 = .ok (.iload 8, 2) := by decide +kernel
theorem dL_ticks_291 : decode cL_ticks 291 = .ok (.imul, 1) := by decide +kernel
theorem dL_ticks_292 : decode cL_ticks 292 = .ok (.iconst 5, 1) := by decide +kernel
theorem dL_ticks_293 : decode cL_ticks 293 = .ok (.iadd, 1) := by decide +kernel
theorem dL_ticks_294 : decode cL_ticks 294 = .ok (.aload_n 0, 1) := by decide +kernel
theorem dL_ticks_295 : decode cL_ticks 295 = .ok (.iconst 0, 1) := by decide +kernel
theorem dL_ticks_296 : decode cL_ticks 296 = .ok (.iaload, 1) := by decide +kernel
theorem dL_ticks_297 : decode cL_ticks 297 = .ok (.iastore, 1) := by decide +kernel
theorem dL_ticks_298 : decode cL_ticks 298 = .ok (.aload_n 0, 1) := by decide +kernel
theorem dL_ticks_299 : decode cL_ticks 299 = .ok (.iconst 3, 1) := by decide +kernel
theorem dL_ticks_300 : decode cL_ticks 300 = .ok (.bipush (-5), 2) := by decide +kernel
theorem dL_ticks_302 : decode cL_ticks 302 = .ok (.iastore, 1) := by decide +kernel
theorem dL_ticks_303 : decode cL_ticks 303 = .ok (.aload 4, 2) := by decide +kernel
theorem dL_ticks_305 : decode cL_ticks 305 = .ok (.bipush 6, 2) := by decide +kernel
theorem dL_ticks_307 : decode cL_ticks 307 = .ok (.iload 8, 2) := by decide +kernel
theorem dL_ticks_309 : decode cL_ticks 309 = .ok (.imul, 1) := by decide +kernel
theorem dL_ticks_310 : decode cL_ticks 310 = .ok (.iconst 3, 1) := by decide +kernel
theorem dL_ticks_311 : decode cL_ticks 311 = .ok (.iadd, 1) := by decide +kernel
theorem dL_ticks_312 : decode cL_ticks 312 = .ok (.iaload, 1) := by decide +kernel
theorem dL_ticks_313 : decode cL_ticks 313 = .ok (.iconst 2, 1) := by decide +kernel
theorem dL_ticks_314 : decode cL_ticks 314 = .ok (.if_icmp .ne 7, 3) := by decide +kernel
theorem dL_ticks_317 : decode cL_ticks 317 = .ok (.iconst 1, 1) := by decide +kernel
theorem dL_ticks_318 : decode cL_ticks 318 = .ok (.goto 4, 3) := by decide +kernel
theorem dL_ticks_321 : decode cL_ticks 321 = .ok (.iconst 0, 1) := by decide +kernel
theorem dL_ticks_322 : decode cL_ticks 322 = .ok (.istore 7, 2) := by decide +kernel
theorem dL_ticks_324 : decode cL_ticks 324 = .ok (.aload_n 3, 1) := by decide +kernel
theorem dL_ticks_325 : decode cL_ticks 325 = .ok (.bipush 8, 2) := by decide +kernel
theorem dL_ticks_327 : decode cL_ticks 327 = .ok (.aload_n 3, 1) := by decide +kernel
theorem dL_ticks_328 : decode cL_ticks 328 = .ok (.bipush 8, 2) := by decide +kernel
theorem dL_ticks_330 : decode cL_ticks 330 = .ok (.daload, 1) := by decide +kernel
theorem dL_ticks_331 : decode cL_ticks 331 = .ok (.d2f, 1) := by decide +kernel
theorem dL_ticks_332 : decode cL_ticks 332 = .ok (.ldc 67, 2) := by decide +kernel
theorem dL_ticks_334 : decode cL_ticks 334 = .ok (.fmul, 1) := by decide +kernel
theorem dL_ticks_335 : decode cL_ticks 335 = .ok (.f2d, 1) := by decide +kernel
theorem dL_ticks_336 : decode cL_ticks 336 = .ok (.dastore, 1) := by decide +kernel
theorem dL_ticks_337 : decode cL_ticks 337 = .ok (.aload_n 0, 1) := by decide +kernel
theorem dL_ticks_338 : decode cL_ticks 338 = .ok (.iconst 0, 1) := by decide +kernel
theorem dL_ticks_339 : decode cL_ticks 339 = .ok (.dup2, 1) := by decide +kernel
theorem dL_ticks_340 : decode cL_ticks 340 = .ok (.iaload, 1) := by decide +kernel
theorem dL_ticks_341 : decode cL_ticks 341 = .ok (.iconst 1, 1) := by decide +kernel
theorem dL_ticks_342 : decode cL_ticks 342 = .ok (.iadd, 1) := by decide +kernel
theorem dL_ticks_343 : decode cL_ticks 343 = .ok (.iastore, 1) := by decide +kernel
theorem dL_ticks_344 : decode cL_ticks 344 = .ok (.iload 7, 2) := by decide +kernel
theorem dL_ticks_346 : decode cL_ticks 346 = .ok (.ireturn, 1) := by decide +kernel
theorem dL_areItems_0 : decode cL_areItems 0 = .ok (.iconst 0, 1) := by decide +kernel
theorem dL_areItems_1 : decode cL_areItems 1 = .ok (.istore 6, 2) := by decide +kernel
theorem dL_areItems_3 : decode cL_areItems 3 = .ok (.iload 6, 2) := by decide +kernel
theorem dL_areItems_5 : decode cL_areItems 5 = .ok (.aload_n 1, 1) := by decide +kernel
theorem dL_areItems_6 : decode cL_areItems 6 = .ok (.bipush 9, 2) := by decide +kernel
theorem dL_areItems_8 : decode cL_areItems 8 = .ok (.iaload, 1) := by decide +kernel
theorem dL_areItems_9 : decode cL_areItems 9 = .ok (.if_icmp .ge 347, 3) := by decide +kernel
theorem dL_areItems_12 : decode cL_areItems 12 = .ok (.bipush (-5), 2) := by decide +kernel
theorem dL_areItems_14 : decode cL_areItems 14 = .ok (.istore 7, 2) := by decide +kernel
theorem dL_areItems_16 : decode cL_areItems 16 = .ok (.iconst 0, 1) := by decide +kernel
theorem dL_areItems_17 : decode cL_areItems 17 = .ok (.istore 8, 2) := by decide +kernel
theorem dL_areItems_19 : decode cL_areItems 19 = .ok (.iload 8, 2) := by decide +kernel
theorem dL_areItems_21 : decode cL_areItems 21 = .ok (.aload_n 1, 1) := by decide +kernel
theorem dL_areItems_22 : decode cL_areItems 22 = .ok (.bipush 10, 2) := by decide +kernel
theorem dL_areItems_24 : decode cL_areItems 24 = .ok (.iaload, 1) := by decide +kernel
theorem dL_areItems_25 : decode cL_areItems 25 = .ok (.if_icmp .ge 33, 3) := by decide +kernel
theorem dL_areItems_28 : decode cL_areItems 28 = .ok (.aload_n 3, 1) := by decide +kernel
theorem dL_areItems_29 : decode cL_areItems 29 = .ok (.bipush 7, 2) := by decide +kernel
theorem dL_areItems_31 : decode cL_areItems 31 = .ok (.iload 8, 2) := by decide +kernel
theorem dL_areItems_33 : decode cL_areItems 33 = .ok (.imul, 1) := by decide +kernel
theorem dL_areItems_34 : decode cL_areItems 34 = .ok (.bipush 6, 2) := by decide +kernel
theorem dL_areItems_36 : decode cL_areItems 36 = .ok (.iadd, 1) := by decide +kernel
theorem dL_areItems_37 : decode cL_areItems 37 = .ok (.iaload, 1) := by decide +kernel
theorem dL_areItems_38 : decode cL_areItems 38 = .ok (.iload 6, 2) := by decide +kernel
theorem dL_areItems_40 : decode cL_areItems 40 = .ok (.if_icmp .ne 8, 3) := by decide +kernel
theorem dL_areItems_43 : decode cL_areItems 43 = .ok (.iload 8, 2) := by decide +kernel
theorem dL_areItems_45 : decode cL_areItems 45 = .ok (.goto 5, 3) := by decide +kernel
theorem dL_areItems_48 : decode cL_areItems 48 = .ok (.iload 7, 2) := by decide +kernel
theorem dL_areItems_50 : decode cL_areItems 50 = .ok (.istore 7, 2) := by decide +kernel
theorem dL_areItems_52 : decode cL_areItems 52 = .ok (.iinc 8 1, 3) := by decide +kernel
theorem dL_areItems_55 : decode cL_areItems 55 = .ok (.goto (-36), 3) := by decide +kernel
theorem dL_areItems_58 : decode cL_areItems 58 = .ok (.iconst 0, 1) := by decide +kernel
theorem dL_areItems_59 : decode cL_areItems 59 = .ok (.istore 8, 2) := by decide +kernel
theorem dL_areItems_61 : decode cL_areItems 61 = .ok (.iconst 0, 1) := by decide +kernel
theorem dL_areItems_62 : decode cL_areItems 62 = .ok (.istore 9, 2) := by decide +kernel
theorem dL_areItems_64 : decode cL_areItems 64 = .ok (.iload 9, 2) := by decide +kernel
theorem dL_areItems_66 : decode cL_areItems 66 = .ok (.aload_n 1, 1) := by decide +kernel
theorem dL_areItems_67 : decode cL_areItems 67 = .ok (.bipush 11, 2) := by decide +kernel
theorem dL_areItems_69 : decode cL_areItems 69 = .ok (.iaload, 1) := by decide +kernel
theorem dL_areItems_70 : decode cL_areItems 70 = .ok (.if_icmp .ge 107, 3) := by decide +kernel
theorem dL_areItems_73 : decode cL_areItems 73 = .ok (.aload 4, 2) := by decide +kernel
theorem dL_areItems_75 : decode cL_areItems 75 = .ok (.bipush 6, 2) := by decide +kernel
theorem dL_areItems_77 : decode cL_areItems 77 = .ok (.iload 9, 2) := by decide +kernel
theorem dL_areItems_79 : decode cL_areItems 79 = .ok (.imul, 1) := by decide +kernel
theorem dL_areItems_80 : decode cL_areItems 80 = .ok (.iaload, 1) := by decide +kernel
theorem dL_areItems_81 : decode cL_areItems 81 = .ok (.iconst 1, 1) := by decide +kernel
theorem dL_areItems_82 : decode cL_areItems 82 = .ok (.if_icmp .ne 38, 3) := by decide +kernel
theorem dL_areItems_85 : decode cL_areItems 85 = .ok (.aload 4, 2) := by decide +kernel
theorem dL_areItems_87 : decode cL_areItems 87 = .ok (.bipush 6, 2) := by decide +kernel
theorem dL_areItems_89 : decode cL_areItems 89 = .ok (.iload 9, 2) := by decide +kernel
theorem dL_areItems_91 : decode cL_areItems 91 = .ok (.imul, 1) := by decide +kernel
theorem dL_areItems_92 : decode cL_areItems 92 = .ok (.iconst 3, 1) := by decide +kernel
theorem dL_areItems_93 : decode cL_areItems 93 = .ok (.iadd, 1) := by decide +kernel
theorem dL_areItems_94 : decode cL_areItems 94 = .ok (.iaload, 1) := by decide +kernel
theorem dL_areItems_95 : decode cL_areItems 95 = .ok (.iconst 1, 1) := by decide +kernel
theorem dL_areItems_96 : decode cL_areItems 96 = .ok (.if_icmp .ne 20, 3) := by decide +kernel
theorem dL_areItems_99 : decode cL_areItems 99 = .ok (.aload 5, 2) := by decide +kernel
theorem dL_areItems_101 : decode cL_areItems 101 = .ok (.bipush 6, 2) := by decide +kernel
theorem dL_areItems_103 : decode cL_areItems 103 = .ok (.iload 9, 2) := by decide +kernel
theorem dL_areItems_105 : decode cL_areItems 105 = .ok (.imul, 1) := by decide +kernel
theorem dL_areItems_106 : decode cL_areItems 106 = .ok (.iaload, 1) := by decide +kernel
theorem dL_areItems_107 : decode cL_areItems 107 = .ok (.iload 6, 2) := by decide +kernel
theorem dL_areItems_109 : decode cL_areItems 109 = .ok (.if_icmp .ne 7, 3) := by decide +kernel
theorem dL_areItems_112 : decode cL_areItems 112 = .ok (.iconst 1, 1) := by decide +kernel
theorem dL_areItems_113 : decode cL_areItems 113 = .ok (.goto 41, 3) := by decide +kernel
theorem dL_areItems_116 : decode cL_areItems 116 = .ok (.iconst 0, 1) := by decide +kernel
theorem dL_areItems_117 : decode cL_areItems 117 = .ok (.goto 37, 3) := by decide +kernel
theorem dL_areItems_120 : decode cL_areItems 120 = .ok (.aload 4, 2) := by decide +kernel
theorem dL_areItems_122 : decode cL_areItems 122 = .ok (.bipush 6, 2) := by decide +kernel
theorem dL_areItems_124 : decode cL_areItems 124 = .ok (.iload 9, 2) := by decide +kernel
theorem dL_areItems_126 : decode cL_areItems 126 = .ok (.imul, 1) := by decide +kernel
theorem dL_areItems_127 : decode cL_areItems 127 = .ok (.iconst 3, 1) := by decide +kernel
theorem dL_areItems_128 : decode cL_areItems 128 = .ok (.iadd, 1) := by decide +kernel
theorem dL_areItems_129 : decode cL_areItems 129 = .ok (.iaload, 1) := by decide +kernel
theorem dL_areItems_130 : decode cL_areItems 130 = .ok (.iconst 2, 1) := by decide +kernel
theorem dL_areItems_131 : decode cL_areItems 131 = .ok (.if_icmp .ge 22, 3) := by decide +kernel
theorem dL_areItems_134 : decode cL_areItems 134 = .ok (.aload 4, 2) := by decide +kernel
theorem dL_areItems_136 : decode cL_areItems 136 = .ok (.bipush 6, 2) := by decide +kernel
theorem dL_areItems_138 : decode cL_areItems 138 = .ok (.iload 9, 2) := by decide +kernel
theorem dL_areItems_140 : decode cL_areItems 140 = .ok (.imul, 1) := by decide +kernel
theorem dL_areItems_141 : decode cL_areItems 141 = .ok (.iconst 1, 1) := by decide +kernel
theorem dL_areItems_142 : decode cL_areItems 142 = .ok (.iadd, 1) := by decide +kernel
theorem dL_areItems_143 : decode cL_areItems 143 = .ok (.iaload, 1) := by decide +kernel
theorem dL_areItems_144 : decode cL_areItems 144 = .ok (.iload 6, 2) := by decide +kernel
theorem dL_areItems_146 : decode cL_areItems 146 = .ok (.if_icmp .ne 7, 3) := by decide +kernel
theorem dL_areItems_149 : decode cL_areItems 149 = .ok (.iconst 1, 1) := by decide +kernel
theorem dL_areItems_150 : decode cL_areItems 150 = .ok (.goto 4, 3) := by decide +kernel
theorem dL_areItems_153 : decode cL_areItems 153 = .ok (.iconst 0, 1) := by decide +kernel
theorem dL_areItems_154 : decode cL_areItems 154 = .ok (.istore 10, 2) := by decide +kernel
theorem dL_areItems_156 : decode cL_areItems 156 = .ok (.iload 8, 2) := by decide +kernel
theorem dL_areItems_158 : decode cL_areItems 158 = .ok (.iload 10, 2) := by decide +kernel
theorem dL_areItems_160 : decode cL_areItems 160 = .ok (.ifCond .eq 7, 3) := by decide +kernel
theorem dL_areItems_163 : decode cL_areItems 163 = .ok (.iconst 1, 1) := by decide +kernel
theorem dL_areItems_164 : decode cL_areItems 164 = .ok (.goto 4, 3) := by decide +kernel
theorem dL_areItems_167 : decode cL_areItems 167 = .ok (.iconst 0, 1) := by decide +kernel
theorem dL_areItems_168 : decode cL_areItems 168 = .ok (.iadd, 1) := by decide +kernel
theorem dL_areItems_169 : decode cL_areItems 169 = .ok (.istore 8, 2) := by decide +kernel
theorem dL_areItems_171 : decode cL_areItems 171 = .ok (.iinc 9 1, 3) := by decide +kernel
theorem dL_areItems_174 : decode cL_areItems 174 = .ok (.goto (-110), 3) := by decide +kernel
theorem dL_areItems_177 : decode cL_areItems 177 = .ok (.aload_n 0, 1) := by decide +kernel
theorem dL_areItems_178 : decode cL_areItems 178 = .ok (.iload 6, 2) := by decide +kernel
theorem dL_areItems_180 : decode cL_areItems 180 = .ok (.iconst 0, 1) := by decide +kernel
theorem dL_areItems_181 : decode cL_areItems 181 = .ok (.invokevirtual 68, 3) := by decide +kernel
theorem dL_areItems_184 : decode cL_areItems 184 = .ok (.aload_n 2, 1) := by decide +kernel
theorem dL_areItems_185 : decode cL_areItems 185 = .ok (.bipush 6, 2) := by decide +kernel
theorem dL_areItems_187 : decode cL_areItems 187 = .ok (.iload 6, 2) := by decide +kernel
theorem dL_areItems_189 : decode cL_areItems 189 = .ok (.imul, 1) := by decide +kernel
theorem dL_areItems_190 : decode cL_areItems 190 = .ok (.iaload, 1) := by decide +kernel
theorem dL_areItems_191 : decode cL_areItems 191 = .ok (.if_icmp .ne 76, 3) := by decide +kernel
theorem dL_areItems_194 : decode cL_areItems 194 = .ok (.aload_n 0, 1) := by decide +kernel
theorem dL_areItems_195 : decode cL_areItems 195 = .ok (.iload 6, 2) := by decide +kernel
theorem dL_areItems_197 : decode cL_areItems 197 = .ok (.iconst 1, 1) := by decide +kernel
theorem dL_areItems_198 : decode cL_areItems 198 = .ok (.invokevirtual 68, 3) := by decide +kernel
theorem dL_areItems_201 : decode cL_areItems 201 = .ok (.aload_n 2, 1) := by decide +kernel
theorem dL_areItems_202 : decode cL_areItems 202 = .ok (.bipush 6, 2) := by decide +kernel
theorem dL_areItems_204 : decode cL_areItems 204 = .ok (.iload 6, 2) := by decide +kernel
theorem dL_areItems_206 : decode cL_areItems 206 = .ok (.imul, 1) := by decide +kernel
theorem dL_areItems_207 : decode cL_areItems 207 = .ok (.iconst 1, 1) := by decide +kernel
theorem dL_areItems_208 : decode cL_areItems 208 = .ok (.iadd, 1) := by decide +kernel
theorem dL_areItems_209 : decode cL_areItems 209 = .ok (.iaload, 1) := by decide +kernel
theorem dL_areItems_210 : decode cL_areItems 210 = .ok (.if_icmp .ne 57, 3) := by decide +kernel
theorem dL_areItems_213 : decode cL_areItems 213 = .ok (.aload_n 0, 1) := by decide +kernel
theorem dL_areItems_214 : decode cL_areItems 214 = .ok (.iload 6, 2) := by decide +kernel
theorem dL_areItems_216 : decode cL_areItems 216 = .ok (.iconst 2, 1) := by decide +kernel
theorem dL_areItems_217 : decode cL_areItems 217 = .ok (.invokevirtual 68, 3) := by decide +kernel
theorem dL_areItems_220 : decode cL_areItems 220 = .ok (.aload_n 2, 1) := by decide +kernel
theorem dL_areItems_221 : decode cL_areItems 221 = .ok (.bipush 6, 2) := by decide +kernel
theorem dL_areItems_223 : decode cL_areItems 223 = .ok (.iload 6, 2) := by decide +kernel
theorem dL_areItems_225 : decode cL_areItems 225 = .ok (.imul, 1) := by decide +kernel
theorem dL_areItems_226 : decode cL_areItems 226 = .ok (.iconst 2, 1) := by decide +kernel
theorem dL_areItems_227 : decode cL_areItems 227 = .ok (.iadd, 1) := by decide +kernel
theorem dL_areItems_228 : decode cL_areItems 228 = .ok (.iaload, 1) := by decide +kernel
theorem dL_areItems_229 : decode cL_areItems 229 = .ok (.if_icmp .ne 38, 3) := by decide +kernel
theorem dL_areItems_232 : decode cL_areItems 232 = .ok (.aload_n 0, 1) := by decide +kernel
theorem dL_areItems_233 : decode cL_areItems 233 = .ok (.iload 6, 2) := by decide +kernel
theorem dL_areItems_235 : decode cL_areItems 235 = .ok (.iconst 3, 1) := by decide +kernel
theorem dL_areItems_236 : decode cL_areItems 236 = .ok (.invokevirtual 68, 3) := by decide +kernel
theorem dL_areItems_239 : decode cL_areItems 239 = .ok (.iload 7, 2) := by decide +kernel
theorem dL_areItems_241 : decode cL_areItems 241 = .ok (.if_icmp .ne 26, 3) := by decide +kernel
theorem dL_areItems_244 : decode cL_areItems 244 = .ok (.aload_n 0, 1) := by decide +kernel
theorem dL_areItems_245 : decode cL_areItems 245 = .ok (.iload 6, 2) := by decide +kernel
theorem dL_areItems_247 : decode cL_areItems 247 = .ok (.iconst 4, 1) := by decide +kernel
theorem dL_areItems_248 : decode cL_areItems 248 = .ok (.invokevirtual 68, 3) := by decide +kernel
theorem dL_areItems_251 : decode cL_areItems 251 = .ok (.aload_n 2, 1) := by decide +kernel
theorem dL_areItems_252 : decode cL_areItems 252 = .ok (.bipush 6, 2) := by decide +kernel
theorem dL_areItems_254 : decode cL_areItems 254 = .ok (.iload 6, 2) := by decide +kernel
theorem dL_areItems_256 : decode cL_areItems 256 = .ok (.imul, 1) := by decide +kernel
theorem dL_areItems_257 : decode cL_areItems 257 = .ok (.iconst 3, 1) := by decide +kernel
theorem dL_areItems_258 : decode cL_areItems 258 = .ok (.iadd, 1) := by decide +kernel
theorem dL_areItems_259 : decode cL_areItems 259 = .ok (.iaload, 1) := by decide +kernel
theorem dL_areItems_260 : decode cL_areItems 260 = .ok (.if_icmp .ne 7, 3) := by decide +kernel
theorem dL_areItems_263 : decode cL_areItems 263 = .ok (.iconst 1, 1) := by decide +kernel
theorem dL_areItems_264 : decode cL_areItems 264 = .ok (.goto 4, 3) := by decide +kernel
theorem dL_areItems_267 : decode cL_areItems 267 = .ok (.iconst 0, 1) := by decide +kernel
theorem dL_areItems_268 : decode cL_areItems 268 = .ok (.istore 9, 2) := by decide +kernel
theorem dL_areItems_270 : decode cL_areItems 270 = .ok (.iload 9, 2) := by decide +kernel
theorem dL_areItems_272 : decode cL_areItems 272 = .ok (.ifCond .eq 76, 3) := by decide +kernel
theorem dL_areItems_275 : decode cL_areItems 275 = .ok (.aload_n 0, 1) := by decide +kernel
theorem dL_areItems_276 : decode cL_areItems 276 = .ok (.iload 6, 2) := by decide +kernel
theorem dL_areItems_278 : decode cL_areItems 278 = .ok (.iconst 5, 1) := by decide +kernel
theorem dL_areItems_279 : decode cL_areItems 279 = .ok (.invokevirtual 68, 3) := by decide +kernel
theorem dL_areItems_282 : decode cL_areItems 282 = .ok (.aload_n 2, 1) := by decide +kernel
theorem dL_areItems_283 : decode cL_areItems 283 = .ok (.bipush 6, 2) := by decide +kernel
theorem dL_areItems_285 : decode cL_areItems 285 = .ok (.iload 6, 2) := by decide +kernel
theorem dL_areItems_287 : decode cL_areItems 287 = .ok (.imul, 1) := by decide +kernel
theorem dL_areItems_288 : decode cL_areItems 288 = .ok (.iconst 4, 1) := by decide +kernel
theorem dL_areItems_289 : decode cL_areItems 289 = .ok (.iadd, 1) := by decide +kernel
theorem dL_areItems_290 : decode cL_areItems 290 = .ok (.iaload, 1) := by decide +kernel
theorem dL_areItems_291 : decode cL_areItems 291 = .ok (.invokestatic 73, 3) := by decide +kernel
theorem dL_areItems_294 : decode cL_areItems 294 = .ok (.if_icmp .ne 54, 3) := by decide +kernel
theorem dL_areItems_297 : decode cL_areItems 297 = .ok (.aload_n 0, 1) := by decide +kernel
theorem dL_areItems_298 : decode cL_areItems 298 = .ok (.iload 6, 2) := by decide +kernel
theorem dL_areItems_300 : decode cL_areItems 300 = .ok (.bipush 6, 2) := by decide +kernel
theorem dL_areItems_302 : decode cL_areItems 302 = .ok (.invokevirtual 68, 3) := by decide +kernel
theorem dL_areItems_305 : decode cL_areItems 305 = .ok (.aload_n 2, 1) := by decide +kernel
theorem dL_areItems_306 : decode cL_areItems 306 = .ok (.bipush 6, 2) := by decide +kernel
theorem dL_areItems_308 : decode cL_areItems 308 = .ok (.iload 6, 2) := by decide +kernel
theorem dL_areItems_310 : decode cL_areItems 310 = .ok (.imul, 1) := by decide +kernel
theorem dL_areItems_311 : decode cL_areItems 311 = .ok (.iconst 5, 1) := by decide +kernel
theorem dL_areItems_312 : decode cL_areItems 312 = .ok (.iadd, 1) := by decide +kernel
theorem dL_areItems_313 : decode cL_areItems 313 = .ok (.iaload, 1) := by decide +kernel
theorem dL_areItems_314 : decode cL_areItems 314 = .ok (.if_icmp .ne 34, 3) := by decide +kernel
theorem dL_areItems_317 : decode cL_areItems 317 = .ok (.aload_n 0, 1) := by decide +kernel
theorem dL_areItems_318 : decode cL_areItems 318 = .ok (.iload 6, 2) := by decide +kernel
theorem dL_areItems_320 : decode cL_areItems 320 = .ok (.bipush 7, 2) := by decide +kernel
theorem dL_areItems_322 : decode cL_areItems 322 = .ok (.invokevirtual 68, 3) := by decide +kernel
theorem dL_areItems_325 : decode cL_areItems 325 = .ok (.iload 8, 2) := by decide +kernel
theorem dL_areItems_327 : decode cL_areItems 327 = .ok (.if_icmp .ne 21, 3) := by decide +kernel
theorem dL_areItems_330 : decode cL_areItems 330 = .ok (.aload_n 0, 1) := by decide +kernel
theorem dL_areItems_331 : decode cL_areItems 331 = .ok (.aload_n 2, 1) := by decide +kernel
theorem dL_areItems_332 : decode cL_areItems 332 = .ok (.bipush 6, 2) := by decide +kernel
theorem dL_areItems_334 : decode cL_areItems 334 = .ok (.iload 6, 2) := by decide +kernel
theorem dL_areItems_336 : decode cL_areItems 336 = .ok (.imul, 1) := by decide +kernel
theorem dL_areItems_337 : decode cL_areItems 337 = .ok (.iconst 1, 1) := by decide +kernel
theorem dL_areItems_338 : decode cL_areItems 338 = .ok (.iadd, 1) := by decide +kernel
theorem dL_areItems_339 : decode cL_areItems 339 = .ok (.iaload, 1) := by decide +kernel
theorem dL_areItems_340 : decode cL_areItems 340 = .ok (.invokevirtual 77, 3) := by decide +kernel
theorem dL_areItems_343 : decode cL_areItems 343 = .ok (.iload 6, 2) := by decide +kernel
theorem dL_areItems_345 : decode cL_areItems 345 = .ok (.if_icmp .eq 5, 3) := by decide +kernel
theorem dL_areItems_348 : decode cL_areItems 348 = .ok (.iconst 0, 1) := by decide +kernel
theorem dL_areItems_349 : decode cL_areItems 349 = .ok (.ireturn, 1) := by decide +kernel
theorem dL_areItems_350 : decode cL_areItems 350 = .ok (.iinc 6 1, 3) := by decide +kernel
theorem dL_areItems_353 : decode cL_areItems 353 = .ok (.goto (-350), 3) := by decide +kernel
theorem dL_areItems_356 : decode cL_areItems 356 = .ok (.aload_n 0, 1) := by decide +kernel
theorem dL_areItems_357 : decode cL_areItems 357 = .ok (.aload_n 1, 1) := by decide +kernel
theorem dL_areItems_358 : decode cL_areItems 358 = .ok (.bipush 9, 2) := by decide +kernel
theorem dL_areItems_360 : decode cL_areItems 360 = .ok (.iaload, 1) := by decide +kernel
theorem dL_areItems_361 : decode cL_areItems 361 = .ok (.iconst 0, 1) := by decide +kernel
theorem dL_areItems_362 : decode cL_areItems 362 = .ok (.invokevirtual 68, 3) := by decide +kernel
theorem dL_areItems_365 : decode cL_areItems 365 = .ok (.iconst (-1), 1) := by decide +kernel
theorem dL_areItems_366 : decode cL_areItems 366 = .ok (.if_icmp .ne 30, 3) := by decide +kernel
theorem dL_areItems_369 : decode cL_areItems 369 = .ok (.aload_n 0, 1) := by decide +kernel
theorem dL_areItems_370 : decode cL_areItems 370 = .ok (.iconst 0, 1) := by decide +kernel
theorem dL_areItems_371 : decode cL_areItems 371 = .ok (.bipush 8, 2) := by decide +kernel
theorem dL_areItems_373 : decode cL_areItems 373 = .ok (.invokevirtual 68, 3) := by decide +kernel
theorem dL_areItems_376 : decode cL_areItems 376 = .ok (.aload_n 1, 1) := by decide +kernel
theorem dL_areItems_377 : decode cL_areItems 377 = .ok (.bipush 9, 2) := by decide +kernel
theorem dL_areItems_379 : decode cL_areItems 379 = .ok (.iaload, 1) := by decide +kernel
theorem dL_areItems_380 : decode cL_areItems 380 = .ok (.ifCond .le 8, 3) := by decide +kernel
theorem dL_areItems_383 : decode cL_areItems 383 = .ok (.bipush (-2), 2) := by decide +kernel
theorem dL_areItems_385 : decode cL_areItems 385 = .ok (.goto 4, 3) := by decide +kernel
theorem dL_areItems_388 : decode cL_areItems 388 = .ok (.iconst (-1), 1) := by decide +kernel
theorem dL_areItems_389 : decode cL_areItems 389 = .ok (.if_icmp .ne 7, 3) := by decide +kernel
theorem dL_areItems_392 : decode cL_areItems 392 = .ok (.iconst 1, 1) := by decide +kernel
theorem dL_areItems_393 : decode cL_areItems 393 = .ok (.goto 4, 3) := by decide +kernel
theorem dL_areItems_396 : decode cL_areItems 396 = .ok (.iconst 0, 1) := by decide +kernel
theorem dL_areItems_397 : decode cL_areItems 397 = .ok (.ireturn, 1) := by decide +kernel
theorem dL_areDrives_0 : decode cL_areDrives 0 = .ok (.iconst 0, 1) := by decide +kernel
theorem dL_areDrives_1 : decode cL_areDrives 1 = .ok (.istore 4, 2) := by decide +kernel
theorem dL_areDrives_3 : decode cL_areDrives 3 = .ok (.iload 4, 2) := by decide +kernel
theorem dL_areDrives_5 : decode cL_areDrives 5 = .ok (.aload_n 1, 1) := by decide +kernel
theorem dL_areDrives_6 : decode cL_areDrives 6 = .ok (.bipush 10, 2) := by decide +kernel
theorem dL_areDrives_8 : decode cL_areDrives 8 = .ok (.iaload, 1) := by decide +kernel
theorem dL_areDrives_9 : decode cL_areDrives 9 = .ok (.if_icmp .ge 177, 3) := by decide +kernel
theorem dL_areDrives_12 : decode cL_areDrives 12 = .ok (.aload_n 0, 1) := by decide +kernel
theorem dL_areDrives_13 : decode cL_areDrives 13 = .ok (.iload 4, 2) := by decide +kernel
theorem dL_areDrives_15 : decode cL_areDrives 15 = .ok (.iconst 0, 1) := by decide +kernel
theorem dL_areDrives_16 : decode cL_areDrives 16 = .ok (.invokevirtual 80, 3) := by decide +kernel
theorem dL_areDrives_19 : decode cL_areDrives 19 = .ok (.aload_n 2, 1) := by decide +kernel
theorem dL_areDrives_20 : decode cL_areDrives 20 = .ok (.bipush 7, 2) := by decide +kernel
theorem dL_areDrives_22 : decode cL_areDrives 22 = .ok (.iload 4, 2) := by decide +kernel
theorem dL_areDrives_24 : decode cL_areDrives 24 = .ok (.imul, 1) := by decide +kernel
theorem dL_areDrives_25 : decode cL_areDrives 25 = .ok (.iaload, 1) := by decide +kernel
theorem dL_areDrives_26 : decode cL_areDrives 26 = .ok (.if_icmp .ne 84, 3) := by decide +kernel
theorem dL_areDrives_29 : decode cL_areDrives 29 = .ok (.aload_n 0, 1) := by decide +kernel
theorem dL_areDrives_30 : decode cL_areDrives 30 = .ok (.iload 4, 2) := by decide +kernel
theorem dL_areDrives_32 : decode cL_areDrives 32 = .ok (.iconst 1, 1) := by decide +kernel
theorem dL_areDrives_33 : decode cL_areDrives 33 = .ok (.invokevirtual 80, 3) := by decide +kernel
theorem dL_areDrives_36 : decode cL_areDrives 36 = .ok (.aload_n 2, 1) := by decide +kernel
theorem dL_areDrives_37 : decode cL_areDrives 37 = .ok (.bipush 7, 2) := by decide +kernel
theorem dL_areDrives_39 : decode cL_areDrives 39 = .ok (.iload 4, 2) := by decide +kernel
theorem dL_areDrives_41 : decode cL_areDrives 41 = .ok (.imul, 1) := by decide +kernel
theorem dL_areDrives_42 : decode cL_areDrives 42 = .ok (.iconst 3, 1) := by decide +kernel
theorem dL_areDrives_43 : decode cL_areDrives 43 = .ok (.iadd, 1) := by decide +kernel
theorem dL_areDrives_44 : decode cL_areDrives 44 = .ok (.iaload, 1) := by decide +kernel
theorem dL_areDrives_45 : decode cL_areDrives 45 = .ok (.if_icmp .ne 65, 3) := by decide +kernel
theorem dL_areDrives_48 : decode cL_areDrives 48 = .ok (.aload_n 0, 1) := by decide +kernel
theorem dL_areDrives_49 : decode cL_areDrives 49 = .ok (.iload 4, 2) := by decide +kernel
theorem dL_areDrives_51 : decode cL_areDrives 51 = .ok (.iconst 2, 1) := by decide +kernel
theorem dL_areDrives_52 : decode cL_areDrives 52 = .ok (.invokevirtual 80, 3) := by decide +kernel
theorem dL_areDrives_55 : decode cL_areDrives 55 = .ok (.aload_n 2, 1) := by decide +kernel
theorem dL_areDrives_56 : decode cL_areDrives 56 = .ok (.bipush 7, 2) := by decide +kernel
theorem dL_areDrives_58 : decode cL_areDrives 58 = .ok (.iload 4, 2) := by decide +kernel
theorem dL_areDrives_60 : decode cL_areDrives 60 = .ok (.imul, 1) := by decide +kernel
theorem dL_areDrives_61 : decode cL_areDrives 61 = .ok (.iconst 4, 1) := by decide +kernel
theorem dL_areDrives_62 : decode cL_areDrives 62 = .ok (.iadd, 1) := by decide +kernel
theorem dL_areDrives_63 : decode cL_areDrives 63 = .ok (.iaload, 1) := by decide +kernel
theorem dL_areDrives_64 : decode cL_areDrives 64 = .ok (.if_icmp .ne 46, 3) := by decide +kernel
theorem dL_areDrives_67 : decode cL_areDrives 67 = .ok (.aload_n 0, 1) := by decide +kernel
theorem dL_areDrives_68 : decode cL_areDrives 68 = .ok (.iload 4, 2) := by decide +kernel
theorem dL_areDrives_70 : decode cL_areDrives 70 = .ok (.iconst 3, 1) := by decide +kernel
theorem dL_areDrives_71 : decode cL_areDrives 71 = .ok (.invokevirtual 80, 3) := by decide +kernel
theorem dL_areDrives_74 : decode cL_areDrives 74 = .ok (.aload_n 2, 1) := by decide +kernel
theorem dL_areDrives_75 : decode cL_areDrives 75 = .ok (.bipush 7, 2) := by decide +kernel
theorem dL_areDrives_77 : decode cL_areDrives 77 = .ok (.iload 4, 2) := by decide +kernel
theorem dL_areDrives_79 : decode cL_areDrives 79 = .ok (.imul, 1) := by decide +kernel
theorem dL_areDrives_80 : decode cL_areDrives 80 = .ok (.iconst 5, 1) := by decide +kernel
theorem dL_areDrives_81 : decode cL_areDrives 81 = .ok (.iadd, 1) := by decide +kernel
theorem dL_areDrives_82 : decode cL_areDrives 82 = .ok (.iaload, 1) := by decide +kernel
theorem dL_areDrives_83 : decode cL_areDrives 83 = .ok (.if_icmp .ne 27, 3) := by decide +kernel
theorem dL_areDrives_86 : decode cL_areDrives 86 = .ok (.aload_n 0, 1) := by decide +kernel
theorem dL_areDrives_87 : decode cL_areDrives 87 = .ok (.iload 4, 2) := by decide +kernel
theorem dL_areDrives_89 : decode cL_areDrives 89 = .ok (.iconst 4, 1) := by decide +kernel
theorem dL_areDrives_90 : decode cL_areDrives 90 = .ok (.invokevirtual 80, 3) := by decide +kernel
theorem dL_areDrives_93 : decode cL_areDrives 93 = .ok (.aload_n 2, 1) := by decide +kernel
theorem dL_areDrives_94 : decode cL_areDrives 94 = .ok (.bipush 7, 2) := by decide +kernel
theorem dL_areDrives_96 : decode cL_areDrives 96 = .ok (.iload 4, 2) := by decide +kernel
theorem dL_areDrives_98 : decode cL_areDrives 98 = .ok (.imul, 1) := by decide +kernel
theorem dL_areDrives_99 : decode cL_areDrives 99 = .ok (.bipush 6, 2) := by decide +kernel
theorem dL_areDrives_101 : decode cL_areDrives 101 = .ok (.iadd, 1) := by decide +kernel
theorem dL_areDrives_102 : decode cL_areDrives 102 = .ok (.iaload, 1) := by decide +kernel
theorem dL_areDrives_103 : decode cL_areDrives 103 = .ok (.if_icmp .ne 7, 3) := by decide +kernel
theorem dL_areDrives_106 : decode cL_areDrives 106 = .ok (.iconst 1, 1) := by decide +kernel
theorem dL_areDrives_107 : decode cL_areDrives 107 = .ok (.goto 4, 3) := by decide +kernel
theorem dL_areDrives_110 : decode cL_areDrives 110 = .ok (.iconst 0, 1) := by decide +kernel
theorem dL_areDrives_111 : decode cL_areDrives 111 = .ok (.istore 5, 2) := by decide +kernel
theorem dL_areDrives_113 : decode cL_areDrives 113 = .ok (.iload 5, 2) := by decide +kernel
theorem dL_areDrives_115 : decode cL_areDrives 115 = .ok (.ifCond .eq 63, 3) := by decide +kernel
theorem dL_areDrives_118 : decode cL_areDrives 118 = .ok (.aload_n 0, 1) := by decide +kernel
theorem dL_areDrives_119 : decode cL_areDrives 119 = .ok (.iload 4, 2) := by decide +kernel
theorem dL_areDrives_121 : decode cL_areDrives 121 = .ok (.iconst 5, 1) := by decide +kernel
theorem dL_areDrives_122 : decode cL_areDrives 122 = .ok (.invokevirtual 80, 3) := by decide +kernel
theorem dL_areDrives_125 : decode cL_areDrives 125 = .ok (.aload_n 3, 1) := by decide +kernel
theorem dL_areDrives_126 : decode cL_areDrives 126 = .ok (.iload 4, 2) := by decide +kernel
theorem dL_areDrives_128 : decode cL_areDrives 128 = .ok (.invokestatic 9, 3) := by decide +kernel
theorem dL_areDrives_131 : decode cL_areDrives 131 = .ok (.ifCond .eq 7, 3) := by decide +kernel
theorem dL_areDrives_134 : decode cL_areDrives 134 = .ok (.iconst 1, 1) := by decide +kernel
theorem dL_areDrives_135 : decode cL_areDrives 135 = .ok (.goto 4, 3) := by decide +kernel
theorem dL_areDrives_138 : decode cL_areDrives 138 = .ok (.iconst 0, 1) := by decide +kernel
theorem dL_areDrives_139 : decode cL_areDrives 139 = .ok (.if_icmp .ne 39, 3) := by decide +kernel
theorem dL_areDrives_142 : decode cL_areDrives 142 = .ok (.aload_n 0, 1) := by decide +kernel
theorem dL_areDrives_143 : decode cL_areDrives 143 = .ok (.iload 4, 2) := by decide +kernel
theorem dL_areDrives_145 : decode cL_areDrives 145 = .ok (.invokevirtual 82, 3) := by decide +kernel
theorem dL_areDrives_148 : decode cL_areDrives 148 = .ok (.f2d, 1) := by decide +kernel
theorem dL_areDrives_149 : decode cL_areDrives 149 = .ok (.aload_n 3, 1) := by decide +kernel
theorem dL_areDrives_150 : decode cL_areDrives 150 = .ok (.iconst 2, 1) := by decide +kernel
theorem dL_areDrives_151 : decode cL_areDrives 151 = .ok (.iload 4, 2) := by decide +kernel
theorem dL_areDrives_153 : decode cL_areDrives 153 = .ok (.imul, 1) := by decide +kernel
theorem dL_areDrives_154 : decode cL_areDrives 154 = .ok (.daload, 1) := by decide +kernel
theorem dL_areDrives_155 : decode cL_areDrives 155 = .ok (.dcmp .l, 1) := by decide +kernel
theorem dL_areDrives_156 : decode cL_areDrives 156 = .ok (.ifCond .ne 22, 3) := by decide +kernel
theorem dL_areDrives_159 : decode cL_areDrives 159 = .ok (.aload_n 0, 1) := by decide +kernel
theorem dL_areDrives_160 : decode cL_areDrives 160 = .ok (.iload 4, 2) := by decide +kernel
theorem dL_areDrives_162 : decode cL_areDrives 162 = .ok (.invokevirtual 86, 3) := by decide +kernel
theorem dL_areDrives_165 : decode cL_areDrives 165 = .ok (.f2d, 1) := by decide +kernel
theorem dL_areDrives_166 : decode cL_areDrives 166 = .ok (.aload_n 3, 1) := by decide +kernel
theorem dL_areDrives_167 : decode cL_areDrives 167 = .ok (.iconst 2, 1) := by decide +kernel
theorem dL_areDrives_168 : decode cL_areDrives 168 = .ok (.iload 4, 2) := by decide +kernel
theorem dL_areDrives_170 : decode cL_areDrives 170 = .ok (.imul, 1) := by decide +kernel
theorem dL_areDrives_171 : decode cL_areDrives 171 = .ok (.iconst 1, 1) := by decide +kernel
theorem dL_areDrives_172 : decode cL_areDrives 172 = .ok (.iadd, 1) := by decide +kernel
theorem dL_areDrives_173 : decode cL_areDrives 173 = .ok (.daload, 1) := by decide +kernel
theorem dL_areDrives_174 : decode cL_areDrives 174 = .ok (.dcmp .l, 1) := by decide +kernel
theorem dL_areDrives_175 : decode cL_areDrives 175 = .ok (.ifCond .eq 5, 3) := by decide +kernel
theorem dL_areDrives_178 : decode cL_areDrives 178 = .ok (.iconst 0, 1) := by decide +kernel
theorem dL_areDrives_179 : decode cL_areDrives 179 = .ok (.ireturn, 1) := by decide +kernel
theorem dL_areDrives_180 : decode cL_areDrives 180 = .ok (.iinc 4 1, 3) := by decide +kernel
theorem dL_areDrives_183 : decode cL_areDrives 183 = .ok (.goto (-180), 3) := by decide +kernel
theorem dL_areDrives_186 : decode cL_areDrives 186 = .ok (.aload_n 0, 1) := by decide +kernel
theorem dL_areDrives_187 : decode cL_areDrives 187 = .ok (.aload_n 1, 1) := by decide +kernel
theorem dL_areDrives_188 : decode cL_areDrives 188 = .ok (.bipush 10, 2) := by decide +kernel
theorem dL_areDrives_190 : decode cL_areDrives 190 = .ok (.iaload, 1) := by decide +kernel
theorem dL_areDrives_191 : decode cL_areDrives 191 = .ok (.iconst 0, 1) := by decide +kernel
theorem dL_areDrives_192 : decode cL_areDrives 192 = .ok (.invokevirtual 80, 3) := by decide +kernel
theorem dL_areDrives_195 : decode cL_areDrives 195 = .ok (.iconst (-1), 1) := by decide +kernel
theorem dL_areDrives_196 : decode cL_areDrives 196 = .ok (.if_icmp .ne 35, 3) := by decide +kernel
theorem dL_areDrives_199 : decode cL_areDrives 199 = .ok (.aload_n 0, 1) := by decide +kernel
theorem dL_areDrives_200 : decode cL_areDrives 200 = .ok (.iconst 0, 1) := by decide +kernel
theorem dL_areDrives_201 : decode cL_areDrives 201 = .ok (.invokevirtual 89, 3) := by decide +kernel
theorem dL_areDrives_204 : decode cL_areDrives 204 = .ok (.f2d, 1) := by decide +kernel
theorem dL_areDrives_205 : decode cL_areDrives 205 = .ok (.aload_n 3, 1) := by decide +kernel
theorem dL_areDrives_206 : decode cL_areDrives 206 = .ok (.bipush 8, 2) := by decide +kernel
theorem dL_areDrives_208 : decode cL_areDrives 208 = .ok (.daload, 1) := by decide +kernel
theorem dL_areDrives_209 : decode cL_areDrives 209 = .ok (.dcmp .l, 1) := by decide +kernel
theorem dL_areDrives_210 : decode cL_areDrives 210 = .ok (.ifCond .ne 21, 3) := by decide +kernel
theorem dL_areDrives_213 : decode cL_areDrives 213 = .ok (.aload_n 0, 1) := by decide +kernel
theorem dL_areDrives_214 : decode cL_areDrives 214 = .ok (.iconst 1, 1) := by decide +kernel
theorem dL_areDrives_215 : decode cL_areDrives 215 = .ok (.invokevirtual 89, 3) := by decide +kernel
theorem dL_areDrives_218 : decode cL_areDrives 218 = .ok (.f2d, 1) := by decide +kernel
theorem dL_areDrives_219 : decode cL_areDrives 219 = .ok (.aload_n 3, 1) := by decide +kernel
theorem dL_areDrives_220 : decode cL_areDrives 220 = .ok (.bipush 9, 2) := by decide +kernel
theorem dL_areDrives_222 : decode cL_areDrives 222 = .ok (.daload, 1) := by decide +kernel
theorem dL_areDrives_223 : decode cL_areDrives 223 = .ok (.dcmp .l, 1) := by decide +kernel
theorem dL_areDrives_224 : decode cL_areDrives 224 = .ok (.ifCond .ne 7, 3) := by decide +kernel
theorem dL_areDrives_227 : decode cL_areDrives 227 = .ok (.iconst 1, 1) := by decide +kernel
theorem dL_areDrives_228 : decode cL_areDrives 228 = .ok (.goto 4, 3) := by decide +kernel
theorem dL_areDrives_231 : decode cL_areDrives 231 = .ok (.iconst 0, 1) := by decide +kernel
theorem dL_areDrives_232 : decode cL_areDrives 232 = .ok (.ireturn, 1) := by decide +kernel
theorem dL_areJobs_0 : decode cL_areJobs 0 = .ok (.iconst 0, 1) := by decide +kernel
theorem dL_areJobs_1 : decode cL_areJobs 1 = .ok (.istore 4, 2) := by decide +kernel
theorem dL_areJobs_3 : decode cL_areJobs 3 = .ok (.iload 4, 2) := by decide +kernel
theorem dL_areJobs_5 : decode cL_areJobs 5 = .ok (.aload_n 1, 1) := by decide +kernel
theorem dL_areJobs_6 : decode cL_areJobs 6 = .ok (.bipush 11, 2) := by decide +kernel
theorem dL_areJobs_8 : decode cL_areJobs 8 = .ok (.iaload, 1) := by decide +kernel
theorem dL_areJobs_9 : decode cL_areJobs 9 = .ok (.if_icmp .ge 265, 3) := by decide +kernel
theorem dL_areJobs_12 : decode cL_areJobs 12 = .ok (.aload_n 0, 1) := by decide +kernel
theorem dL_areJobs_13 : decode cL_areJobs 13 = .ok (.iload 4, 2) := by decide +kernel
theorem dL_areJobs_15 : decode cL_areJobs 15 = .ok (.iconst 0, 1) := by decide +kernel
theorem dL_areJobs_16 : decode cL_areJobs 16 = .ok (.invokevirtual 92, 3) := by decide +kernel
theorem dL_areJobs_19 : decode cL_areJobs 19 = .ok (.aload_n 2, 1) := by decide +kernel
theorem dL_areJobs_20 : decode cL_areJobs 20 = .ok (.bipush 6, 2) := by decide +kernel
theorem dL_areJobs_22 : decode cL_areJobs 22 = .ok (.iload 4, 2) := by decide +kernel
theorem dL_areJobs_24 : decode cL_areJobs 24 = .ok (.imul, 1) := by decide +kernel
theorem dL_areJobs_25 : decode cL_areJobs 25 = .ok (.iaload, 1) := by decide +kernel
theorem dL_areJobs_26 : decode cL_areJobs 26 = .ok (.if_icmp .ne 104, 3) := by decide +kernel
theorem dL_areJobs_29 : decode cL_areJobs 29 = .ok (.aload_n 0, 1) := by decide +kernel
theorem dL_areJobs_30 : decode cL_areJobs 30 = .ok (.iload 4, 2) := by decide +kernel
theorem dL_areJobs_32 : decode cL_areJobs 32 = .ok (.iconst 1, 1) := by decide +kernel
theorem dL_areJobs_33 : decode cL_areJobs 33 = .ok (.invokevirtual 92, 3) := by decide +kernel
theorem dL_areJobs_36 : decode cL_areJobs 36 = .ok (.aload_n 2, 1) := by decide +kernel
theorem dL_areJobs_37 : decode cL_areJobs 37 = .ok (.bipush 6, 2) := by decide +kernel
theorem dL_areJobs_39 : decode cL_areJobs 39 = .ok (.iload 4, 2) := by decide +kernel
theorem dL_areJobs_41 : decode cL_areJobs 41 = .ok (.imul, 1) := by decide +kernel
theorem dL_areJobs_42 : decode cL_areJobs 42 = .ok (.iconst 1, 1) := by decide +kernel
theorem dL_areJobs_43 : decode cL_areJobs 43 = .ok (.iadd, 1) := by decide +kernel
theorem dL_areJobs_44 : decode cL_areJobs 44 = .ok (.iaload, 1) := by decide +kernel
theorem dL_areJobs_45 : decode cL_areJobs 45 = .ok (.if_icmp .ne 85, 3) := by decide +kernel
theorem dL_areJobs_48 : decode cL_areJobs 48 = .ok (.aload_n 0, 1) := by decide +kernel
theorem dL_areJobs_49 : decode cL_areJobs 49 = .ok (.iload 4, 2) := by decide +kernel
theorem dL_areJobs_51 : decode cL_areJobs 51 = .ok (.iconst 2, 1) := by decide +kernel
theorem dL_areJobs_52 : decode cL_areJobs 52 = .ok (.invokevirtual 92, 3) := by decide +kernel
theorem dL_areJobs_55 : decode cL_areJobs 55 = .ok (.aload_n 2, 1) := by decide +kernel
theorem dL_areJobs_56 : decode cL_areJobs 56 = .ok (.bipush 6, 2) := by decide +kernel
theorem dL_areJobs_58 : decode cL_areJobs 58 = .ok (.iload 4, 2) := by decide +kernel
theorem dL_areJobs_60 : decode cL_areJobs 60 = .ok (.imul, 1) := by decide +kernel
theorem dL_areJobs_61 : decode cL_areJobs 61 = .ok (.iconst 2, 1) := by decide +kernel
theorem dL_areJobs_62 : decode cL_areJobs 62 = .ok (.iadd, 1) := by decide +kernel
theorem dL_areJobs_63 : decode cL_areJobs 63 = .ok (.iaload, 1) := by decide +kernel
theorem dL_areJobs_64 : decode cL_areJobs 64 = .ok (.if_icmp .ne 66, 3) := by decide +kernel
theorem dL_areJobs_67 : decode cL_areJobs 67 = .ok (.aload_n 0, 1) := by decide +kernel
theorem dL_areJobs_68 : decode cL_areJobs 68 = .ok (.iload 4, 2) := by decide +kernel
theorem dL_areJobs_70 : decode cL_areJobs 70 = .ok (.iconst 3, 1) := by decide +kernel
theorem dL_areJobs_71 : decode cL_areJobs 71 = .ok (.invokevirtual 92, 3) := by decide +kernel
theorem dL_areJobs_74 : decode cL_areJobs 74 = .ok (.aload_n 2, 1) := by decide +kernel
theorem dL_areJobs_75 : decode cL_areJobs 75 = .ok (.bipush 6, 2) := by decide +kernel
theorem dL_areJobs_77 : decode cL_areJobs 77 = .ok (.iload 4, 2) := by decide +kernel
theorem dL_areJobs_79 : decode cL_areJobs 79 = .ok (.imul, 1) := by decide +kernel
theorem dL_areJobs_80 : decode cL_areJobs 80 = .ok (.iconst 3, 1) := by decide +kernel
theorem dL_areJobs_81 : decode cL_areJobs 81 = .ok (.iadd, 1) := by decide +kernel
theorem dL_areJobs_82 : decode cL_areJobs 82 = .ok (.iaload, 1) := by decide +kernel
theorem dL_areJobs_83 : decode cL_areJobs 83 = .ok (.if_icmp .ne 47, 3) := by decide +kernel
theorem dL_areJobs_86 : decode cL_areJobs 86 = .ok (.aload_n 0, 1) := by decide +kernel
theorem dL_areJobs_87 : decode cL_areJobs 87 = .ok (.iload 4, 2) := by decide +kernel
theorem dL_areJobs_89 : decode cL_areJobs 89 = .ok (.bipush 6, 2) := by decide +kernel
theorem dL_areJobs_91 : decode cL_areJobs 91 = .ok (.invokevirtual 92, 3) := by decide +kernel
theorem dL_areJobs_94 : decode cL_areJobs 94 = .ok (.aload_n 2, 1) := by decide +kernel
theorem dL_areJobs_95 : decode cL_areJobs 95 = .ok (.bipush 6, 2) := by decide +kernel
theorem dL_areJobs_97 : decode cL_areJobs 97 = .ok (.iload 4, 2) := by decide +kernel
theorem dL_areJobs_99 : decode cL_areJobs 99 = .ok (.imul, 1) := by decide +kernel
theorem dL_areJobs_100 : decode cL_areJobs 100 = .ok (.iconst 4, 1) := by decide +kernel
theorem dL_areJobs_101 : decode cL_areJobs 101 = .ok (.iadd, 1) := by decide +kernel
theorem dL_areJobs_102 : decode cL_areJobs 102 = .ok (.iaload, 1) := by decide +kernel
theorem dL_areJobs_103 : decode cL_areJobs 103 = .ok (.if_icmp .ne 27, 3) := by decide +kernel
theorem dL_areJobs_106 : decode cL_areJobs 106 = .ok (.aload_n 0, 1) := by decide +kernel
theorem dL_areJobs_107 : decode cL_areJobs 107 = .ok (.iload 4, 2) := by decide +kernel
theorem dL_areJobs_109 : decode cL_areJobs 109 = .ok (.bipush 7, 2) := by decide +kernel
theorem dL_areJobs_111 : decode cL_areJobs 111 = .ok (.invokevirtual 92, 3) := by decide +kernel
theorem dL_areJobs_114 : decode cL_areJobs 114 = .ok (.aload_n 2, 1) := by decide +kernel
theorem dL_areJobs_115 : decode cL_areJobs 115 = .ok (.bipush 6, 2) := by decide +kernel
theorem dL_areJobs_117 : decode cL_areJobs 117 = .ok (.iload 4, 2) := by decide +kernel
theorem dL_areJobs_119 : decode cL_areJobs 119 = .ok (.imul, 1) := by decide +kernel
theorem dL_areJobs_120 : decode cL_areJobs 120 = .ok (.iconst 5, 1) := by decide +kernel
theorem dL_areJobs_121 : decode cL_areJobs 121 = .ok (.iadd, 1) := by decide +kernel
theorem dL_areJobs_122 : decode cL_areJobs 122 = .ok (.iaload, 1) := by decide +kernel
theorem dL_areJobs_123 : decode cL_areJobs 123 = .ok (.if_icmp .ne 7, 3) := by decide +kernel
theorem dL_areJobs_126 : decode cL_areJobs 126 = .ok (.iconst 1, 1) := by decide +kernel
theorem dL_areJobs_127 : decode cL_areJobs 127 = .ok (.goto 4, 3) := by decide +kernel
theorem dL_areJobs_130 : decode cL_areJobs 130 = .ok (.iconst 0, 1) := by decide +kernel
theorem dL_areJobs_131 : decode cL_areJobs 131 = .ok (.istore 5, 2) := by decide +kernel
theorem dL_areJobs_133 : decode cL_areJobs 133 = .ok (.iload 5, 2) := by decide +kernel
theorem dL_areJobs_135 : decode cL_areJobs 135 = .ok (.ifCond .eq 123, 3) := by decide +kernel
theorem dL_areJobs_138 : decode cL_areJobs 138 = .ok (.aload_n 0, 1) := by decide +kernel
theorem dL_areJobs_139 : decode cL_areJobs 139 = .ok (.iload 4, 2) := by decide +kernel
theorem dL_areJobs_141 : decode cL_areJobs 141 = .ok (.bipush 8, 2) := by decide +kernel
theorem dL_areJobs_143 : decode cL_areJobs 143 = .ok (.invokevirtual 92, 3) := by decide +kernel
theorem dL_areJobs_146 : decode cL_areJobs 146 = .ok (.aload_n 3, 1) := by decide +kernel
theorem dL_areJobs_147 : decode cL_areJobs 147 = .ok (.bipush 6, 2) := by decide +kernel
theorem dL_areJobs_149 : decode cL_areJobs 149 = .ok (.iload 4, 2) := by decide +kernel
theorem dL_areJobs_151 : decode cL_areJobs 151 = .ok (.imul, 1) := by decide +kernel
theorem dL_areJobs_152 : decode cL_areJobs 152 = .ok (.iaload, 1) := by decide +kernel
theorem dL_areJobs_153 : decode cL_areJobs 153 = .ok (.if_icmp .ne 105, 3) := by decide +kernel
theorem dL_areJobs_156 : decode cL_areJobs 156 = .ok (.aload_n 0, 1) := by decide +kernel
theorem dL_areJobs_157 : decode cL_areJobs 157 = .ok (.iload 4, 2) := by decide +kernel
theorem dL_areJobs_159 : decode cL_areJobs 159 = .ok (.bipush 9, 2) := by decide +kernel
theorem dL_areJobs_161 : decode cL_areJobs 161 = .ok (.invokevirtual 92, 3) := by decide +kernel
theorem dL_areJobs_164 : decode cL_areJobs 164 = .ok (.aload_n 3, 1) := by decide +kernel
theorem dL_areJobs_165 : decode cL_areJobs 165 = .ok (.bipush 6, 2) := by decide +kernel
theorem dL_areJobs_167 : decode cL_areJobs 167 = .ok (.iload 4, 2) := by decide +kernel
theorem dL_areJobs_169 : decode cL_areJobs 169 = .ok (.imul, 1) := by decide +kernel
theorem dL_areJobs_170 : decode cL_areJobs 170 = .ok (.iconst 1, 1) := by decide +kernel
theorem dL_areJobs_171 : decode cL_areJobs 171 = .ok (.iadd, 1) := by decide +kernel
theorem dL_areJobs_172 : decode cL_areJobs 172 = .ok (.iaload, 1) := by decide +kernel
theorem dL_areJobs_173 : decode cL_areJobs 173 = .ok (.if_icmp .ne 85, 3) := by decide +kernel
theorem dL_areJobs_176 : decode cL_areJobs 176 = .ok (.aload_n 0, 1) := by decide +kernel
theorem dL_areJobs_177 : decode cL_areJobs 177 = .ok (.iload 4, 2) := by decide +kernel
theorem dL_areJobs_179 : decode cL_areJobs 179 = .ok (.bipush 10, 2) := by decide +kernel
theorem dL_areJobs_181 : decode cL_areJobs 181 = .ok (.invokevirtual 92, 3) := by decide +kernel
theorem dL_areJobs_184 : decode cL_areJobs 184 = .ok (.aload_n 3, 1) := by decide +kernel
theorem dL_areJobs_185 : decode cL_areJobs 185 = .ok (.bipush 6, 2) := by decide +kernel
theorem dL_areJobs_187 : decode cL_areJobs 187 = .ok (.iload 4, 2) := by decide +kernel
theorem dL_areJobs_189 : decode cL_areJobs 189 = .ok (.imul, 1) := by decide +kernel
theorem dL_areJobs_190 : decode cL_areJobs 190 = .ok (.iconst 2, 1) := by decide +kernel
theorem dL_areJobs_191 : decode cL_areJobs 191 = .ok (.iadd, 1) := by decide +kernel
theorem dL_areJobs_192 : decode cL_areJobs 192 = .ok (.iaload, 1) := by decide +kernel
theorem dL_areJobs_193 : decode cL_areJobs 193 = .ok (.if_icmp .ne 65, 3) := by decide +kernel
theorem dL_areJobs_196 : decode cL_areJobs 196 = .ok (.aload_n 0, 1) := by decide +kernel
theorem dL_areJobs_197 : decode cL_areJobs 197 = .ok (.iload 4, 2) := by decide +kernel
theorem dL_areJobs_199 : decode cL_areJobs 199 = .ok (.bipush 11, 2) := by decide +kernel
theorem dL_areJobs_201 : decode cL_areJobs 201 = .ok (.invokevirtual 92, 3) := by decide +kernel
theorem dL_areJobs_204 : decode cL_areJobs 204 = .ok (.aload_n 3, 1) := by decide +kernel
theorem dL_areJobs_205 : decode cL_areJobs 205 = .ok (.bipush 6, 2) := by decide +kernel
theorem dL_areJobs_207 : decode cL_areJobs 207 = .ok (.iload 4, 2) := by decide +kernel
theorem dL_areJobs_209 : decode cL_areJobs 209 = .ok (.imul, 1) := by decide +kernel
theorem dL_areJobs_210 : decode cL_areJobs 210 = .ok (.iconst 3, 1) := by decide +kernel
theorem dL_areJobs_211 : decode cL_areJobs 211 = .ok (.iadd, 1) := by decide +kernel
theorem dL_areJobs_212 : decode cL_areJobs 212 = .ok (.iaload, 1) := by decide +kernel
theorem dL_areJobs_213 : decode cL_areJobs 213 = .ok (.if_icmp .ne 45, 3) := by decide +kernel
theorem dL_areJobs_216 : decode cL_areJobs 216 = .ok (.aload_n 0, 1) := by decide +kernel
theorem dL_areJobs_217 : decode cL_areJobs 217 = .ok (.iload 4, 2) := by decide +kernel
theorem dL_areJobs_219 : decode cL_areJobs 219 = .ok (.iconst 4, 1) := by decide +kernel
theorem dL_areJobs_220 : decode cL_areJobs 220 = .ok (.invokevirtual 92, 3) := by decide +kernel
theorem dL_areJobs_223 : decode cL_areJobs 223 = .ok (.aload_n 3, 1) := by decide +kernel
theorem dL_areJobs_224 : decode cL_areJobs 224 = .ok (.bipush 6, 2) := by decide +kernel
theorem dL_areJobs_226 : decode cL_areJobs 226 = .ok (.iload 4, 2) := by decide +kernel
theorem dL_areJobs_228 : decode cL_areJobs 228 = .ok (.imul, 1) := by decide +kernel
theorem dL_areJobs_229 : decode cL_areJobs 229 = .ok (.iconst 4, 1) := by decide +kernel
theorem dL_areJobs_230 : decode cL_areJobs 230 = .ok (.iadd, 1) := by decide +kernel
theorem dL_areJobs_231 : decode cL_areJobs 231 = .ok (.iaload, 1) := by decide +kernel
theorem dL_areJobs_232 : decode cL_areJobs 232 = .ok (.if_icmp .ne 26, 3) := by decide +kernel
theorem dL_areJobs_235 : decode cL_areJobs 235 = .ok (.aload_n 0, 1) := by decide +kernel
theorem dL_areJobs_236 : decode cL_areJobs 236 = .ok (.iload 4, 2) := by decide +kernel
theorem dL_areJobs_238 : decode cL_areJobs 238 = .ok (.iconst 5, 1) := by decide +kernel
theorem dL_areJobs_239 : decode cL_areJobs 239 = .ok (.invokevirtual 92, 3) := by decide +kernel
theorem dL_areJobs_242 : decode cL_areJobs 242 = .ok (.aload_n 3, 1) := by decide +kernel
theorem dL_areJobs_243 : decode cL_areJobs 243 = .ok (.bipush 6, 2) := by decide +kernel
theorem dL_areJobs_245 : decode cL_areJobs 245 = .ok (.iload 4, 2) := by decide +kernel
theorem dL_areJobs_247 : decode cL_areJobs 247 = .ok (.imul, 1) := by decide +kernel
theorem dL_areJobs_248 : decode cL_areJobs 248 = .ok (.iconst 5, 1) := by decide +kernel
theorem dL_areJobs_249 : decode cL_areJobs 249 = .ok (.iadd, 1) := by decide +kernel
theorem dL_areJobs_250 : decode cL_areJobs 250 = .ok (.iaload, 1) := by decide +kernel
theorem dL_areJobs_251 : decode cL_areJobs 251 = .ok (.if_icmp .ne 7, 3) := by decide +kernel
theorem dL_areJobs_254 : decode cL_areJobs 254 = .ok (.iconst 1, 1) := by decide +kernel
theorem dL_areJobs_255 : decode cL_areJobs 255 = .ok (.goto 4, 3) := by decide +kernel
theorem dL_areJobs_258 : decode cL_areJobs 258 = .ok (.iconst 0, 1) := by decide +kernel
theorem dL_areJobs_259 : decode cL_areJobs 259 = .ok (.istore 5, 2) := by decide +kernel
theorem dL_areJobs_261 : decode cL_areJobs 261 = .ok (.iload 5, 2) := by decide +kernel
theorem dL_areJobs_263 : decode cL_areJobs 263 = .ok (.ifCond .ne 5, 3) := by decide +kernel
theorem dL_areJobs_266 : decode cL_areJobs 266 = .ok (.iconst 0, 1) := by decide +kernel
theorem dL_areJobs_267 : decode cL_areJobs 267 = .ok (.ireturn, 1) := by decide +kernel
theorem dL_areJobs_268 : decode cL_areJobs 268 = .ok (.iinc 4 1, 3) := by decide +kernel
theorem dL_areJobs_271 : decode cL_areJobs 271 = .ok (.goto (-268), 3) := by decide +kernel
theorem dL_areJobs_274 : decode cL_areJobs 274 = .ok (.aload_n 0, 1) := by decide +kernel
theorem dL_areJobs_275 : decode cL_areJobs 275 = .ok (.aload_n 1, 1) := by decide +kernel
theorem dL_areJobs_276 : decode cL_areJobs 276 = .ok (.bipush 11, 2) := by decide +kernel
theorem dL_areJobs_278 : decode cL_areJobs 278 = .ok (.iaload, 1) := by decide +kernel
theorem dL_areJobs_279 : decode cL_areJobs 279 = .ok (.iconst 0, 1) := by decide +kernel
theorem dL_areJobs_280 : decode cL_areJobs 280 = .ok (.invokevirtual 92, 3) := by decide +kernel
theorem dL_areJobs_283 : decode cL_areJobs 283 = .ok (.iconst (-1), 1) := by decide +kernel
theorem dL_areJobs_284 : decode cL_areJobs 284 = .ok (.if_icmp .ne 30, 3) := by decide +kernel
theorem dL_areJobs_287 : decode cL_areJobs 287 = .ok (.aload_n 0, 1) := by decide +kernel
theorem dL_areJobs_288 : decode cL_areJobs 288 = .ok (.iconst 0, 1) := by decide +kernel
theorem dL_areJobs_289 : decode cL_areJobs 289 = .ok (.bipush 12, 2) := by decide +kernel
theorem dL_areJobs_291 : decode cL_areJobs 291 = .ok (.invokevirtual 92, 3) := by decide +kernel
theorem dL_areJobs_294 : decode cL_areJobs 294 = .ok (.aload_n 1, 1) := by decide +kernel
theorem dL_areJobs_295 : decode cL_areJobs 295 = .ok (.bipush 11, 2) := by decide +kernel
theorem dL_areJobs_297 : decode cL_areJobs 297 = .ok (.iaload, 1) := by decide +kernel
theorem dL_areJobs_298 : decode cL_areJobs 298 = .ok (.ifCond .le 8, 3) := by decide +kernel
theorem dL_areJobs_301 : decode cL_areJobs 301 = .ok (.bipush (-2), 2) := by decide +kernel
theorem dL_areJobs_303 : decode cL_areJobs 303 = .ok (.goto 4, 3) := by decide +kernel
theorem dL_areJobs_306 : decode cL_areJobs 306 = .ok (.iconst (-1), 1) := by decide +kernel
theorem dL_areJobs_307 : decode cL_areJobs 307 = .ok (.if_icmp .ne 7, 3) := by decide +kernel
theorem dL_areJobs_310 : decode cL_areJobs 310 = .ok (.iconst 1, 1) := by decide +kernel
theorem dL_areJobs_311 : decode cL_areJobs 311 = .ok (.goto 4, 3) := by decide +kernel
theorem dL_areJobs_314 : decode cL_areJobs 314 = .ok (.iconst 0, 1) := by decide +kernel
theorem dL_areJobs_315 : decode cL_areJobs 315 = .ok (.ireturn, 1) := by decide +kernel
theorem dL_areCounts_0 : decode cL_areCounts 0 = .ok (.iconst 4, 1) := by decide +kernel
theorem dL_areCounts_1 : decode cL_areCounts 1 = .ok (.istore 6, 2) := by decide +kernel
theorem dL_areCounts_3 : decode cL_areCounts 3 = .ok (.iload 6, 2) := by decide +kernel
theorem dL_areCounts_5 : decode cL_areCounts 5 = .ok (.bipush 9, 2) := by decide +kernel
theorem dL_areCounts_7 : decode cL_areCounts 7 = .ok (.if_icmp .ge 70, 3) := by decide +kernel
theorem dL_areCounts_10 : decode cL_areCounts 10 = .ok (.iconst 0, 1) := by decide +kernel
theorem dL_areCounts_11 : decode cL_areCounts 11 = .ok (.istore 7, 2) := by decide +kernel
theorem dL_areCounts_13 : decode cL_areCounts 13 = .ok (.iconst 0, 1) := by decide +kernel
theorem dL_areCounts_14 : decode cL_areCounts 14 = .ok (.istore 8, 2) := by decide +kernel
theorem dL_areCounts_16 : decode cL_areCounts 16 = .ok (.iload 8, 2) := by decide +kernel
theorem dL_areCounts_18 : decode cL_areCounts 18 = .ok (.aload_n 1, 1) := by decide +kernel
theorem dL_areCounts_19 : decode cL_areCounts 19 = .ok (.bipush 11, 2) := by decide +kernel
theorem dL_areCounts_21 : decode cL_areCounts 21 = .ok (.iaload, 1) := by decide +kernel
theorem dL_areCounts_22 : decode cL_areCounts 22 = .ok (.if_icmp .ge 36, 3) := by decide +kernel
theorem dL_areCounts_25 : decode cL_areCounts 25 = .ok (.iload 7, 2) := by decide +kernel
theorem dL_areCounts_27 : decode cL_areCounts 27 = .ok (.aload 4, 2) := by decide +kernel
theorem dL_areCounts_29 : decode cL_areCounts 29 = .ok (.bipush 6, 2) := by decide +kernel
theorem dL_areCounts_31 : decode cL_areCounts 31 = .ok (.iload 8, 2) := by decide +kernel
theorem dL_areCounts_33 : decode cL_areCounts 33 = .ok (.imul, 1) := by decide +kernel
theorem dL_areCounts_34 : decode cL_areCounts 34 = .ok (.iconst 3, 1) := by decide +kernel
theorem dL_areCounts_35 : decode cL_areCounts 35 = .ok (.iadd, 1) := by decide +kernel
theorem dL_areCounts_36 : decode cL_areCounts 36 = .ok (.iaload, 1) := by decide +kernel
theorem dL_areCounts_37 : decode cL_areCounts 37 = .ok (.iload 6, 2) := by decide +kernel
theorem dL_areCounts_39 : decode cL_areCounts 39 = .ok (.iconst 4, 1) := by decide +kernel
theorem dL_areCounts_40 : decode cL_areCounts 40 = .ok (.isub, 1) := by decide +kernel
theorem dL_areCounts_41 : decode cL_areCounts 41 = .ok (.if_icmp .ne 7, 3) := by decide +kernel
theorem dL_areCounts_44 : decode cL_areCounts 44 = .ok (.iconst 1, 1) := by decide +kernel
theorem dL_areCounts_45 : decode cL_areCounts 45 = .ok (.goto 4, 3) := by decide +kernel
theorem dL_areCounts_48 : decode cL_areCounts 48 = .ok (.iconst 0, 1) := by decide +kernel
theorem dL_areCounts_49 : decode cL_areCounts 49 = .ok (.iadd, 1) := by decide +kernel
theorem dL_areCounts_50 : decode cL_areCounts 50 = .ok (.istore 7, 2) := by decide +kernel
theorem dL_areCounts_52 : decode cL_areCounts 52 = .ok (.iinc 8 1, 3) := by decide +kernel
theorem dL_areCounts_55 : decode cL_areCounts 55 = .ok (.goto (-39), 3) := by decide +kernel
theorem dL_areCounts_58 : decode cL_areCounts 58 = .ok (.aload_n 0, 1) := by decide +kernel
theorem dL_areCounts_59 : decode cL_areCounts 59 = .ok (.iload 6, 2) := by decide +kernel
theorem dL_areCounts_61 : decode cL_areCounts 61 = .ok (.invokevirtual 95, 3) := by decide +kernel
theorem dL_areCounts_64 : decode cL_areCounts 64 = .ok (.iload 7, 2) := by decide +kernel
theorem dL_areCounts_66 : decode cL_areCounts 66 = .ok (.if_icmp .eq 5, 3) := by decide +kernel
theorem dL_areCounts_69 : decode cL_areCounts 69 = .ok (.iconst 0, 1) := by decide +kernel
theorem dL_areCounts_70 : decode cL_areCounts 70 = .ok (.ireturn, 1) := by decide +kernel
theorem dL_areCounts_71 : decode cL_areCounts 71 = .ok (.iinc 6 1, 3) := by decide +kernel
theorem dL_areCounts_74 : decode cL_areCounts 74 = .ok (.goto (-71), 3) := by decide +kernel
theorem dL_areCounts_77 : decode cL_areCounts 77 = .ok (.iconst 0, 1) := by decide +kernel
theorem dL_areCounts_78 : decode cL_areCounts 78 = .ok (.istore 6, 2) := by decide +kernel
theorem dL_areCounts_80 : decode cL_areCounts 80 = .ok (.iconst 0, 1) := by decide +kernel
theorem dL_areCounts_81 : decode cL_areCounts 81 = .ok (.istore 7, 2) := by decide +kernel
theorem dL_areCounts_83 : decode cL_areCounts 83 = .ok (.iload 7, 2) := by decide +kernel
theorem dL_areCounts_85 : decode cL_areCounts 85 = .ok (.aload_n 1, 1) := by decide +kernel
theorem dL_areCounts_86 : decode cL_areCounts 86 = .ok (.bipush 9, 2) := by decide +kernel
theorem dL_areCounts_88 : decode cL_areCounts 88 = .ok (.iaload, 1) := by decide +kernel
theorem dL_areCounts_89 : decode cL_areCounts 89 = .ok (.if_icmp .ge 38, 3) := by decide +kernel
theorem dL_areCounts_92 : decode cL_areCounts 92 = .ok (.iload 6, 2) := by decide +kernel
theorem dL_areCounts_94 : decode cL_areCounts 94 = .ok (.aload_n 2, 1) := by decide +kernel
theorem dL_areCounts_95 : decode cL_areCounts 95 = .ok (.bipush 6, 2) := by decide +kernel
theorem dL_areCounts_97 : decode cL_areCounts 97 = .ok (.iload 7, 2) := by decide +kernel
theorem dL_areCounts_99 : decode cL_areCounts 99 = .ok (.imul, 1) := by decide +kernel
theorem dL_areCounts_100 : decode cL_areCounts 100 = .ok (.iaload, 1) := by decide +kernel
theorem dL_areCounts_101 : decode cL_areCounts 101 = .ok (.iconst 1, 1) := by decide +kernel
theorem dL_areCounts_102 : decode cL_areCounts 102 = .ok (.if_icmp .ne 15, 3) := by decide +kernel
theorem dL_areCounts_105 : decode cL_areCounts 105 = .ok (.aload_n 2, 1) := by decide +kernel
theorem dL_areCounts_106 : decode cL_areCounts 106 = .ok (.bipush 6, 2) := by decide +kernel
theorem dL_areCounts_108 : decode cL_areCounts 108 = .ok (.iload 7, 2) := by decide +kernel
theorem dL_areCounts_110 : decode cL_areCounts 110 = .ok (.imul, 1) := by decide +kernel
theorem dL_areCounts_111 : decode cL_areCounts 111 = .ok (.iconst 3, 1) := by decide +kernel
theorem dL_areCounts_112 : decode cL_areCounts 112 = .ok (.iadd, 1) := by decide +kernel
theorem dL_areCounts_113 : decode cL_areCounts 113 = .ok (.iaload, 1) := by decide +kernel
theorem dL_areCounts_114 : decode cL_areCounts 114 = .ok (.goto 4, 3) := by decide +kernel
theorem dL_areCounts_117 : decode cL_areCounts 117 = .ok (.iconst 0, 1) := by decide +kernel
theorem dL_areCounts_118 : decode cL_areCounts 118 = .ok (.iadd, 1) := by decide +kernel
theorem dL_areCounts_119 : decode cL_areCounts 119 = .ok (.istore 6, 2) := by decide +kernel
theorem dL_areCounts_121 : decode cL_areCounts 121 = .ok (.iinc 7 1, 3) := by decide +kernel
theorem dL_areCounts_124 : decode cL_areCounts 124 = .ok (.goto (-41), 3) := by decide +kernel
theorem dL_areCounts_127 : decode cL_areCounts 127 = .ok (.aload_n 0, 1) := by decide +kernel
theorem dL_areCounts_128 : decode cL_areCounts 128 = .ok (.iconst 0, 1) := by decide +kernel
theorem dL_areCounts_129 : decode cL_areCounts 129 = .ok (.invokevirtual 95, 3) := by decide +kernel
theorem dL_areCounts_132 : decode cL_areCounts 132 = .ok (.aload_n 1, 1) := by decide +kernel
theorem dL_areCounts_133 : decode cL_areCounts 133 = .ok (.iconst 0, 1) := by decide +kernel
theorem dL_areCounts_134 : decode cL_areCounts 134 = .ok (.iaload, 1) := by decide +kernel
theorem dL_areCounts_135 : decode cL_areCounts 135 = .ok (.if_icmp .ne 79, 3) := by decide +kernel
theorem dL_areCounts_138 : decode cL_areCounts 138 = .ok (.aload_n 0, 1) := by decide +kernel
theorem dL_areCounts_139 : decode cL_areCounts 139 = .ok (.iconst 1, 1) := by decide +kernel
theorem dL_areCounts_140 : decode cL_areCounts 140 = .ok (.invokevirtual 95, 3) := by decide +kernel
theorem dL_areCounts_143 : decode cL_areCounts 143 = .ok (.aload_n 1, 1) := by decide +kernel
theorem dL_areCounts_144 : decode cL_areCounts 144 = .ok (.iconst 1, 1) := by decide +kernel
theorem dL_areCounts_145 : decode cL_areCounts 145 = .ok (.iaload, 1) := by decide +kernel
theorem dL_areCounts_146 : decode cL_areCounts 146 = .ok (.if_icmp .ne 68, 3) := by decide +kernel
theorem dL_areCounts_149 : decode cL_areCounts 149 = .ok (.aload_n 0, 1) := by decide +kernel
theorem dL_areCounts_150 : decode cL_areCounts 150 = .ok (.iconst 2, 1) := by decide +kernel
theorem dL_areCounts_151 : decode cL_areCounts 151 = .ok (.invokevirtual 95, 3) := by decide +kernel
theorem dL_areCounts_154 : decode cL_areCounts 154 = .ok (.aload_n 1, 1) := by decide +kernel
theorem dL_areCounts_155 : decode cL_areCounts 155 = .ok (.iconst 2, 1) := by decide +kernel
theorem dL_areCounts_156 : decode cL_areCounts 156 = .ok (.iaload, 1) := by decide +kernel
theorem dL_areCounts_157 : decode cL_areCounts 157 = .ok (.if_icmp .ne 57, 3) := by decide +kernel
theorem dL_areCounts_160 : decode cL_areCounts 160 = .ok (.aload_n 0, 1) := by decide +kernel
theorem dL_areCounts_161 : decode cL_areCounts 161 = .ok (.iconst 3, 1) := by decide +kernel
theorem dL_areCounts_162 : decode cL_areCounts 162 = .ok (.invokevirtual 95, 3) := by decide +kernel
theorem dL_areCounts_165 : decode cL_areCounts 165 = .ok (.aload_n 1, 1) := by decide +kernel
theorem dL_areCounts_166 : decode cL_areCounts 166 = .ok (.iconst 3, 1) := by decide +kernel
theorem dL_areCounts_167 : decode cL_areCounts 167 = .ok (.iaload, 1) := by decide +kernel
theorem dL_areCounts_168 : decode cL_areCounts 168 = .ok (.if_icmp .ne 46, 3) := by decide +kernel
theorem dL_areCounts_171 : decode cL_areCounts 171 = .ok (.aload_n 0, 1) := by decide +kernel
theorem dL_areCounts_172 : decode cL_areCounts 172 = .ok (.bipush 9, 2) := by decide +kernel
theorem dL_areCounts_174 : decode cL_areCounts 174 = .ok (.invokevirtual 95, 3) := by decide +kernel
theorem dL_areCounts_177 : decode cL_areCounts 177 = .ok (.aload_n 1, 1) := by decide +kernel
theorem dL_areCounts_178 : decode cL_areCounts 178 = .ok (.bipush 9, 2) := by decide +kernel
theorem dL_areCounts_180 : decode cL_areCounts 180 = .ok (.iaload, 1) := by decide +kernel
theorem dL_areCounts_181 : decode cL_areCounts 181 = .ok (.if_icmp .ne 33, 3) := by decide +kernel
theorem dL_areCounts_184 : decode cL_areCounts 184 = .ok (.aload_n 0, 1) := by decide +kernel
theorem dL_areCounts_185 : decode cL_areCounts 185 = .ok (.bipush 10, 2) := by decide +kernel
theorem dL_areCounts_187 : decode cL_areCounts 187 = .ok (.invokevirtual 95, 3) := by decide +kernel
theorem dL_areCounts_190 : decode cL_areCounts 190 = .ok (.aload_n 1, 1) := by decide +kernel
theorem dL_areCounts_191 : decode cL_areCounts 191 = .ok (.bipush 10, 2) := by decide +kernel
theorem dL_areCounts_193 : decode cL_areCounts 193 = .ok (.iaload, 1) := by decide +kernel
theorem dL_areCounts_194 : decode cL_areCounts 194 = .ok (.if_icmp .ne 20, 3) := by decide +kernel
theorem dL_areCounts_197 : decode cL_areCounts 197 = .ok (.aload_n 0, 1) := by decide +kernel
theorem dL_areCounts_198 : decode cL_areCounts 198 = .ok (.bipush 11, 2) := by decide +kernel
theorem dL_areCounts_200 : decode cL_areCounts 200 = .ok (.invokevirtual 95, 3) := by decide +kernel
theorem dL_areCounts_203 : decode cL_areCounts 203 = .ok (.aload_n 1, 1) := by decide +kernel
theorem dL_areCounts_204 : decode cL_areCounts 204 = .ok (.bipush 12, 2) := by decide +kernel
theorem dL_areCounts_206 : decode cL_areCounts 206 = .ok (.iaload, 1) := by decide +kernel
theorem dL_areCounts_207 : decode cL_areCounts 207 = .ok (.if_icmp .ne 7, 3) := by decide +kernel
theorem dL_areCounts_210 : decode cL_areCounts 210 = .ok (.iconst 1, 1) := by decide +kernel
theorem dL_areCounts_211 : decode cL_areCounts 211 = .ok (.goto 4, 3) := by decide +kernel
theorem dL_areCounts_214 : decode cL_areCounts 214 = .ok (.iconst 0, 1) := by decide +kernel
theorem dL_areCounts_215 : decode cL_areCounts 215 = .ok (.istore 7, 2) := by decide +kernel
theorem dL_areCounts_217 : decode cL_areCounts 217 = .ok (.iload 7, 2) := by decide +kernel
theorem dL_areCounts_219 : decode cL_areCounts 219 = .ok (.ifCond .eq 94, 3) := by decide +kernel
theorem dL_areCounts_222 : decode cL_areCounts 222 = .ok (.aload_n 0, 1) := by decide +kernel
theorem dL_areCounts_223 : decode cL_areCounts 223 = .ok (.bipush 12, 2) := by decide +kernel
theorem dL_areCounts_225 : decode cL_areCounts 225 = .ok (.invokevirtual 95, 3) := by decide +kernel
theorem dL_areCounts_228 : decode cL_areCounts 228 = .ok (.aload_n 1, 1) := by decide +kernel
theorem dL_areCounts_229 : decode cL_areCounts 229 = .ok (.bipush 13, 2) := by decide +kernel
theorem dL_areCounts_231 : decode cL_areCounts 231 = .ok (.iaload, 1) := by decide +kernel
theorem dL_areCounts_232 : decode cL_areCounts 232 = .ok (.if_icmp .ne 81, 3) := by decide +kernel
theorem dL_areCounts_235 : decode cL_areCounts 235 = .ok (.aload_n 0, 1) := by decide +kernel
