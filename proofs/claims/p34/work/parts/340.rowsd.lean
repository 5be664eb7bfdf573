theorem dL_law_0 : decode cL_law 0 = .ok (.new 14, 3) := by decide +kernel
theorem dL_law_3 : decode cL_law 3 = .ok (.dup, 1) := by decide +kernel
theorem dL_law_4 : decode cL_law 4 = .ok (.invokespecial 100, 3) := by decide +kernel
theorem dL_law_7 : decode cL_law 7 = .ok (.astore_n 1, 1) := by decide +kernel
theorem dL_law_8 : decode cL_law 8 = .ok (.aload_n 1, 1) := by decide +kernel
theorem dL_law_9 : decode cL_law 9 = .ok (.iconst 0, 1) := by decide +kernel
theorem dL_law_10 : decode cL_law 10 = .ok (.invokevirtual 85, 3) := by decide +kernel
theorem dL_law_13 : decode cL_law 13 = .ok (.ifCond .ne 10, 3) := by decide +kernel
theorem dL_law_16 : decode cL_law 16 = .ok (.aload_n 1, 1) := by decide +kernel
theorem dL_law_17 : decode cL_law 17 = .ok (.invokestatic 101, 3) := by decide +kernel
theorem dL_law_20 : decode cL_law 20 = .ok (.ifCond .ne 5, 3) := by decide +kernel
theorem dL_law_23 : decode cL_law 23 = .ok (.iconst 0, 1) := by decide +kernel
theorem dL_law_24 : decode cL_law 24 = .ok (.ireturn, 1) := by decide +kernel
theorem dL_law_25 : decode cL_law 25 = .ok (.iconst 0, 1) := by decide +kernel
theorem dL_law_26 : decode cL_law 26 = .ok (.istore_n 2, 1) := by decide +kernel
theorem dL_law_27 : decode cL_law 27 = .ok (.iload_n 2, 1) := by decide +kernel
theorem dL_law_28 : decode cL_law 28 = .ok (.bipush 32, 2) := by decide +kernel
theorem dL_law_30 : decode cL_law 30 = .ok (.if_icmp .ge 347, 3) := by decide +kernel
theorem dL_law_33 : decode cL_law 33 = .ok (.aload_n 0, 1) := by decide +kernel
theorem dL_law_34 : decode cL_law 34 = .ok (.iconst 2, 1) := by decide +kernel
theorem dL_law_35 : decode cL_law 35 = .ok (.iload_n 2, 1) := by decide +kernel
theorem dL_law_36 : decode cL_law 36 = .ok (.imul, 1) := by decide +kernel
theorem dL_law_37 : decode cL_law 37 = .ok (.invokestatic 105, 3) := by decide +kernel
theorem dL_law_40 : decode cL_law 40 = .ok (.istore_n 3, 1) := by decide +kernel
theorem dL_law_41 : decode cL_law 41 = .ok (.aload_n 0, 1) := by decide +kernel
theorem dL_law_42 : decode cL_law 42 = .ok (.iconst 2, 1) := by decide +kernel
theorem dL_law_43 : decode cL_law 43 = .ok (.iload_n 2, 1) := by decide +kernel
theorem dL_law_44 : decode cL_law 44 = .ok (.imul, 1) := by decide +kernel
theorem dL_law_45 : decode cL_law 45 = .ok (.iconst 1, 1) := by decide +kernel
theorem dL_law_46 : decode cL_law 46 = .ok (.iadd, 1) := by decide +kernel
theorem dL_law_47 : decode cL_law 47 = .ok (.invokestatic 105, 3) := by decide +kernel
theorem dL_law_50 : decode cL_law 50 = .ok (.istore 4, 2) := by decide +kernel
theorem dL_law_52 : decode cL_law 52 = .ok (.aload_n 1, 1) := by decide +kernel
theorem dL_law_53 : decode cL_law 53 = .ok (.invokestatic 81, 3) := by decide +kernel
theorem dL_law_56 : decode cL_law 56 = .ok (.lstore 5, 2) := by decide +kernel
theorem dL_law_58 : decode cL_law 58 = .ok (.aload_n 1, 1) := by decide +kernel
theorem dL_law_59 : decode cL_law 59 = .ok (.bipush 9, 2) := by decide +kernel
theorem dL_law_61 : decode cL_law 61 = .ok (.invokevirtual 13, 3) := by decide +kernel
theorem dL_law_64 : decode cL_law 64 = .ok (.istore 7, 2) := by decide +kernel
theorem dL_law_66 : decode cL_law 66 = .ok (.aload_n 1, 1) := by decide +kernel
theorem dL_law_67 : decode cL_law 67 = .ok (.iload_n 3, 1) := by decide +kernel
theorem dL_law_68 : decode cL_law 68 = .ok (.iload 4, 2) := by decide +kernel
theorem dL_law_70 : decode cL_law 70 = .ok (.invokestatic 109, 3) := by decide +kernel
theorem dL_law_73 : decode cL_law 73 = .ok (.istore 8, 2) := by decide +kernel
theorem dL_law_75 : decode cL_law 75 = .ok (.iload 8, 2) := by decide +kernel
theorem dL_law_77 : decode cL_law 77 = .ok (.ifCond .lt 32, 3) := by decide +kernel
theorem dL_law_80 : decode cL_law 80 = .ok (.aload_n 1, 1) := by decide +kernel
theorem dL_law_81 : decode cL_law 81 = .ok (.bipush 9, 2) := by decide +kernel
theorem dL_law_83 : decode cL_law 83 = .ok (.invokevirtual 13, 3) := by decide +kernel
theorem dL_law_86 : decode cL_law 86 = .ok (.iload 7, 2) := by decide +kernel
theorem dL_law_88 : decode cL_law 88 = .ok (.bipush 6, 2) := by decide +kernel
theorem dL_law_90 : decode cL_law 90 = .ok (.if_icmp .ge 10, 3) := by decide +kernel
theorem dL_law_93 : decode cL_law 93 = .ok (.iload 7, 2) := by decide +kernel
theorem dL_law_95 : decode cL_law 95 = .ok (.iconst 1, 1) := by decide +kernel
theorem dL_law_96 : decode cL_law 96 = .ok (.iadd, 1) := by decide +kernel
theorem dL_law_97 : decode cL_law 97 = .ok (.goto 5, 3) := by decide +kernel
theorem dL_law_100 : decode cL_law 100 = .ok (.bipush 6, 2) := by decide +kernel
theorem dL_law_102 : decode cL_law 102 = .ok (.if_icmp .ne 7, 3) := by decide +kernel
theorem dL_law_105 : decode cL_law 105 = .ok (.iconst 1, 1) := by decide +kernel
theorem dL_law_106 : decode cL_law 106 = .ok (.goto 4, 3) := by decide +kernel
theorem dL_law_109 : decode cL_law 109 = .ok (.iconst 0, 1) := by decide +kernel
theorem dL_law_110 : decode cL_law 110 = .ok (.istore 9, 2) := by decide +kernel
theorem dL_law_112 : decode cL_law 112 = .ok (.iload 9, 2) := by decide +kernel
theorem dL_law_114 : decode cL_law 114 = .ok (.ifCond .eq 76, 3) := by decide +kernel
theorem dL_law_117 : decode cL_law 117 = .ok (.iload_n 3, 1) := by decide +kernel
theorem dL_law_118 : decode cL_law 118 = .ok (.bipush 8, 2) := by decide +kernel
theorem dL_law_120 : decode cL_law 120 = .ok (.ishr, 1) := by decide +kernel
theorem dL_law_121 : decode cL_law 121 = .ok (.iconst 3, 1) := by decide +kernel
theorem dL_law_122 : decode cL_law 122 = .ok (.iand, 1) := by decide +kernel
theorem dL_law_123 : decode cL_law 123 = .ok (.ifCond .ne 67, 3) := by decide +kernel
theorem dL_law_126 : decode cL_law 126 = .ok (.aload_n 1, 1) := by decide +kernel
theorem dL_law_127 : decode cL_law 127 = .ok (.invokestatic 81, 3) := by decide +kernel
theorem dL_law_130 : decode cL_law 130 = .ok (.lstore 10, 2) := by decide +kernel
theorem dL_law_132 : decode cL_law 132 = .ok (.aload_n 1, 1) := by decide +kernel
theorem dL_law_133 : decode cL_law 133 = .ok (.bipush 9, 2) := by decide +kernel
theorem dL_law_135 : decode cL_law 135 = .ok (.invokevirtual 13, 3) := by decide +kernel
theorem dL_law_138 : decode cL_law 138 = .ok (.iconst 1, 1) := by decide +kernel
theorem dL_law_139 : decode cL_law 139 = .ok (.isub, 1) := by decide +kernel
theorem dL_law_140 : decode cL_law 140 = .ok (.istore 12, 2) := by decide +kernel
theorem dL_law_142 : decode cL_law 142 = .ok (.aload_n 1, 1) := by decide +kernel
theorem dL_law_143 : decode cL_law 143 = .ok (.invokevirtual 97, 3) := by decide +kernel
theorem dL_law_146 : decode cL_law 146 = .ok (.iload 12, 2) := by decide +kernel
theorem dL_law_148 : decode cL_law 148 = .ok (.if_icmp .ne 39, 3) := by decide +kernel
theorem dL_law_151 : decode cL_law 151 = .ok (.aload_n 1, 1) := by decide +kernel
theorem dL_law_152 : decode cL_law 152 = .ok (.invokestatic 81, 3) := by decide +kernel
theorem dL_law_155 : decode cL_law 155 = .ok (.lload 5, 2) := by decide +kernel
theorem dL_law_157 : decode cL_law 157 = .ok (.lcmp, 1) := by decide +kernel
theorem dL_law_158 : decode cL_law 158 = .ok (.ifCond .ne 29, 3) := by decide +kernel
theorem dL_law_161 : decode cL_law 161 = .ok (.aload_n 1, 1) := by decide +kernel
theorem dL_law_162 : decode cL_law 162 = .ok (.iload_n 3, 1) := by decide +kernel
theorem dL_law_163 : decode cL_law 163 = .ok (.iload 4, 2) := by decide +kernel
theorem dL_law_165 : decode cL_law 165 = .ok (.invokestatic 109, 3) := by decide +kernel
theorem dL_law_168 : decode cL_law 168 = .ok (.iload 8, 2) := by decide +kernel
theorem dL_law_170 : decode cL_law 170 = .ok (.if_icmp .ne 17, 3) := by decide +kernel
theorem dL_law_173 : decode cL_law 173 = .ok (.aload_n 1, 1) := by decide +kernel
theorem dL_law_174 : decode cL_law 174 = .ok (.invokestatic 81, 3) := by decide +kernel
theorem dL_law_177 : decode cL_law 177 = .ok (.lload 10, 2) := by decide +kernel
theorem dL_law_179 : decode cL_law 179 = .ok (.lcmp, 1) := by decide +kernel
theorem dL_law_180 : decode cL_law 180 = .ok (.ifCond .ne 7, 3) := by decide +kernel
theorem dL_law_183 : decode cL_law 183 = .ok (.iconst 1, 1) := by decide +kernel
theorem dL_law_184 : decode cL_law 184 = .ok (.goto 4, 3) := by decide +kernel
theorem dL_law_187 : decode cL_law 187 = .ok (.iconst 0, 1) := by decide +kernel
theorem dL_law_188 : decode cL_law 188 = .ok (.istore 9, 2) := by decide +kernel
theorem dL_law_190 : decode cL_law 190 = .ok (.aload_n 1, 1) := by decide +kernel
theorem dL_law_191 : decode cL_law 191 = .ok (.iload 4, 2) := by decide +kernel
theorem dL_law_193 : decode cL_law 193 = .ok (.bipush 16, 2) := by decide +kernel
theorem dL_law_195 : decode cL_law 195 = .ok (.invokestatic 35, 3) := by decide +kernel
theorem dL_law_198 : decode cL_law 198 = .ok (.iconst 3, 1) := by decide +kernel
theorem dL_law_199 : decode cL_law 199 = .ok (.invokevirtual 22, 3) := by decide +kernel
theorem dL_law_202 : decode cL_law 202 = .ok (.istore 10, 2) := by decide +kernel
theorem dL_law_204 : decode cL_law 204 = .ok (.iload 9, 2) := by decide +kernel
theorem dL_law_206 : decode cL_law 206 = .ok (.ifCond .eq 72, 3) := by decide +kernel
theorem dL_law_209 : decode cL_law 209 = .ok (.aload_n 1, 1) := by decide +kernel
theorem dL_law_210 : decode cL_law 210 = .ok (.iload 4, 2) := by decide +kernel
theorem dL_law_212 : decode cL_law 212 = .ok (.iconst 5, 1) := by decide +kernel
theorem dL_law_213 : decode cL_law 213 = .ok (.ishr, 1) := by decide +kernel
theorem dL_law_214 : decode cL_law 214 = .ok (.bipush 16, 2) := by decide +kernel
theorem dL_law_216 : decode cL_law 216 = .ok (.invokestatic 35, 3) := by decide +kernel
theorem dL_law_219 : decode cL_law 219 = .ok (.invokestatic 113, 3) := by decide +kernel
theorem dL_law_222 : decode cL_law 222 = .ok (.ifCond .eq 56, 3) := by decide +kernel
theorem dL_law_225 : decode cL_law 225 = .ok (.iload_n 2, 1) := by decide +kernel
theorem dL_law_226 : decode cL_law 226 = .ok (.iconst 4, 1) := by decide +kernel
theorem dL_law_227 : decode cL_law 227 = .ok (.irem, 1) := by decide +kernel
theorem dL_law_228 : decode cL_law 228 = .ok (.iconst 1, 1) := by decide +kernel
theorem dL_law_229 : decode cL_law 229 = .ok (.if_icmp .ne 10, 3) := by decide +kernel
theorem dL_law_232 : decode cL_law 232 = .ok (.aload_n 1, 1) := by decide +kernel
theorem dL_law_233 : decode cL_law 233 = .ok (.invokestatic 101, 3) := by decide +kernel
theorem dL_law_236 : decode cL_law 236 = .ok (.ifCond .eq 42, 3) := by decide +kernel
theorem dL_law_239 : decode cL_law 239 = .ok (.iload_n 2, 1) := by decide +kernel
theorem dL_law_240 : decode cL_law 240 = .ok (.bipush 8, 2) := by decide +kernel
theorem dL_law_242 : decode cL_law 242 = .ok (.irem, 1) := by decide +kernel
theorem dL_law_243 : decode cL_law 243 = .ok (.iconst 5, 1) := by decide +kernel
theorem dL_law_244 : decode cL_law 244 = .ok (.if_icmp .ne 30, 3) := by decide +kernel
theorem dL_law_247 : decode cL_law 247 = .ok (.aload_n 1, 1) := by decide +kernel
theorem dL_law_248 : decode cL_law 248 = .ok (.iload_n 3, 1) := by decide +kernel
theorem dL_law_249 : decode cL_law 249 = .ok (.bipush 9, 2) := by decide +kernel
theorem dL_law_251 : decode cL_law 251 = .ok (.ishr, 1) := by decide +kernel
theorem dL_law_252 : decode cL_law 252 = .ok (.bipush 16, 2) := by decide +kernel
theorem dL_law_254 : decode cL_law 254 = .ok (.invokestatic 35, 3) := by decide +kernel
theorem dL_law_257 : decode cL_law 257 = .ok (.iconst 1, 1) := by decide +kernel
theorem dL_law_258 : decode cL_law 258 = .ok (.iload_n 3, 1) := by decide +kernel
theorem dL_law_259 : decode cL_law 259 = .ok (.bipush 13, 2) := by decide +kernel
theorem dL_law_261 : decode cL_law 261 = .ok (.ishr, 1) := by decide +kernel
theorem dL_law_262 : decode cL_law 262 = .ok (.bipush 20, 2) := by decide +kernel
theorem dL_law_264 : decode cL_law 264 = .ok (.invokestatic 35, 3) := by decide +kernel
theorem dL_law_267 : decode cL_law 267 = .ok (.iadd, 1) := by decide +kernel
theorem dL_law_268 : decode cL_law 268 = .ok (.invokestatic 117, 3) := by decide +kernel
theorem dL_law_271 : decode cL_law 271 = .ok (.ifCond .eq 7, 3) := by decide +kernel
theorem dL_law_274 : decode cL_law 274 = .ok (.iconst 1, 1) := by decide +kernel
theorem dL_law_275 : decode cL_law 275 = .ok (.goto 4, 3) := by decide +kernel
theorem dL_law_278 : decode cL_law 278 = .ok (.iconst 0, 1) := by decide +kernel
theorem dL_law_279 : decode cL_law 279 = .ok (.istore 9, 2) := by decide +kernel
theorem dL_law_281 : decode cL_law 281 = .ok (.iload 9, 2) := by decide +kernel
theorem dL_law_283 : decode cL_law 283 = .ok (.ifCond .eq 45, 3) := by decide +kernel
theorem dL_law_286 : decode cL_law 286 = .ok (.aload_n 1, 1) := by decide +kernel
theorem dL_law_287 : decode cL_law 287 = .ok (.iload 4, 2) := by decide +kernel
theorem dL_law_289 : decode cL_law 289 = .ok (.bipush 16, 2) := by decide +kernel
theorem dL_law_291 : decode cL_law 291 = .ok (.invokestatic 35, 3) := by decide +kernel
theorem dL_law_294 : decode cL_law 294 = .ok (.invokevirtual 46, 3) := by decide +kernel
theorem dL_law_297 : decode cL_law 297 = .ok (.ifCond .lt 31, 3) := by decide +kernel
theorem dL_law_300 : decode cL_law 300 = .ok (.aload_n 1, 1) := by decide +kernel
theorem dL_law_301 : decode cL_law 301 = .ok (.iload 4, 2) := by decide +kernel
theorem dL_law_303 : decode cL_law 303 = .ok (.bipush 16, 2) := by decide +kernel
theorem dL_law_305 : decode cL_law 305 = .ok (.invokestatic 35, 3) := by decide +kernel
theorem dL_law_308 : decode cL_law 308 = .ok (.iconst 3, 1) := by decide +kernel
theorem dL_law_309 : decode cL_law 309 = .ok (.invokevirtual 22, 3) := by decide +kernel
theorem dL_law_312 : decode cL_law 312 = .ok (.iload 10, 2) := by decide +kernel
theorem dL_law_314 : decode cL_law 314 = .ok (.if_icmp .ne 14, 3) := by decide +kernel
theorem dL_law_317 : decode cL_law 317 = .ok (.aload_n 1, 1) := by decide +kernel
theorem dL_law_318 : decode cL_law 318 = .ok (.invokevirtual 97, 3) := by decide +kernel
theorem dL_law_321 : decode cL_law 321 = .ok (.ifCond .lt 7, 3) := by decide +kernel
theorem dL_law_324 : decode cL_law 324 = .ok (.iconst 1, 1) := by decide +kernel
theorem dL_law_325 : decode cL_law 325 = .ok (.goto 4, 3) := by decide +kernel
theorem dL_law_328 : decode cL_law 328 = .ok (.iconst 0, 1) := by decide +kernel
theorem dL_law_329 : decode cL_law 329 = .ok (.istore 9, 2) := by decide +kernel
theorem dL_law_331 : decode cL_law 331 = .ok (.iload 9, 2) := by decide +kernel
theorem dL_law_333 : decode cL_law 333 = .ok (.ifCond .eq 28, 3) := by decide +kernel
theorem dL_law_336 : decode cL_law 336 = .ok (.iload_n 2, 1) := by decide +kernel
theorem dL_law_337 : decode cL_law 337 = .ok (.bipush 9, 2) := by decide +kernel
theorem dL_law_339 : decode cL_law 339 = .ok (.irem, 1) := by decide +kernel
theorem dL_law_340 : decode cL_law 340 = .ok (.iconst 4, 1) := by decide +kernel
theorem dL_law_341 : decode cL_law 341 = .ok (.if_icmp .ne 16, 3) := by decide +kernel
theorem dL_law_344 : decode cL_law 344 = .ok (.aload_n 1, 1) := by decide +kernel
theorem dL_law_345 : decode cL_law 345 = .ok (.iconst 0, 1) := by decide +kernel
theorem dL_law_346 : decode cL_law 346 = .ok (.invokevirtual 85, 3) := by decide +kernel
theorem dL_law_349 : decode cL_law 349 = .ok (.aload_n 1, 1) := by decide +kernel
theorem dL_law_350 : decode cL_law 350 = .ok (.iconst 0, 1) := by decide +kernel
theorem dL_law_351 : decode cL_law 351 = .ok (.invokevirtual 13, 3) := by decide +kernel
theorem dL_law_354 : decode cL_law 354 = .ok (.if_icmp .ne 7, 3) := by decide +kernel
theorem dL_law_357 : decode cL_law 357 = .ok (.iconst 1, 1) := by decide +kernel
theorem dL_law_358 : decode cL_law 358 = .ok (.goto 4, 3) := by decide +kernel
theorem dL_law_361 : decode cL_law 361 = .ok (.iconst 0, 1) := by decide +kernel
theorem dL_law_362 : decode cL_law 362 = .ok (.istore 9, 2) := by decide +kernel
theorem dL_law_364 : decode cL_law 364 = .ok (.iload 9, 2) := by decide +kernel
theorem dL_law_366 : decode cL_law 366 = .ok (.ifCond .ne 5, 3) := by decide +kernel
theorem dL_law_369 : decode cL_law 369 = .ok (.iconst 0, 1) := by decide +kernel
theorem dL_law_370 : decode cL_law 370 = .ok (.ireturn, 1) := by decide +kernel
theorem dL_law_371 : decode cL_law 371 = .ok (.iinc 2 1, 3) := by decide +kernel
theorem dL_law_374 : decode cL_law 374 = .ok (.goto (-347), 3) := by decide +kernel
theorem dL_law_377 : decode cL_law 377 = .ok (.aload_n 1, 1) := by decide +kernel
theorem dL_law_378 : decode cL_law 378 = .ok (.invokestatic 101, 3) := by decide +kernel
theorem dL_law_381 : decode cL_law 381 = .ok (.ireturn, 1) := by decide +kernel
