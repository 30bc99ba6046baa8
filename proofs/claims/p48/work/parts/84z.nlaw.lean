theorem dL_law_0 : decode cL_law 0 = .ok (.new 43, 3) := by decide +kernel
theorem dL_law_3 : decode cL_law 3 = .ok (.dup, 1) := by decide +kernel
theorem dL_law_4 : decode cL_law 4 = .ok (.invokespecial 179, 3) := by decide +kernel
theorem dL_law_7 : decode cL_law 7 = .ok (.astore_n 1, 1) := by decide +kernel
theorem dL_law_8 : decode cL_law 8 = .ok (.bipush 14, 2) := by decide +kernel
theorem dL_law_10 : decode cL_law 10 = .ok (.newarray .int, 2) := by decide +kernel
theorem dL_law_12 : decode cL_law 12 = .ok (.astore_n 2, 1) := by decide +kernel
theorem dL_law_13 : decode cL_law 13 = .ok (.bipush 40, 2) := by decide +kernel
theorem dL_law_15 : decode cL_law 15 = .ok (.newarray .int, 2) := by decide +kernel
theorem dL_law_17 : decode cL_law 17 = .ok (.astore_n 3, 1) := by decide +kernel
theorem dL_law_18 : decode cL_law 18 = .ok (.bipush 8, 2) := by decide +kernel
theorem dL_law_20 : decode cL_law 20 = .ok (.newarray .int, 2) := by decide +kernel
theorem dL_law_22 : decode cL_law 22 = .ok (.astore 4, 2) := by decide +kernel
theorem dL_law_24 : decode cL_law 24 = .ok (.aload 4, 2) := by decide +kernel
theorem dL_law_26 : decode cL_law 26 = .ok (.iconst 0, 1) := by decide +kernel
theorem dL_law_27 : decode cL_law 27 = .ok (.iconst 1, 1) := by decide +kernel
theorem dL_law_28 : decode cL_law 28 = .ok (.iastore, 1) := by decide +kernel
theorem dL_law_29 : decode cL_law 29 = .ok (.aload 4, 2) := by decide +kernel
theorem dL_law_31 : decode cL_law 31 = .ok (.iconst 1, 1) := by decide +kernel
theorem dL_law_32 : decode cL_law 32 = .ok (.iconst 2, 1) := by decide +kernel
theorem dL_law_33 : decode cL_law 33 = .ok (.iastore, 1) := by decide +kernel
theorem dL_law_34 : decode cL_law 34 = .ok (.aload_n 1, 1) := by decide +kernel
theorem dL_law_35 : decode cL_law 35 = .ok (.aload_n 2, 1) := by decide +kernel
theorem dL_law_36 : decode cL_law 36 = .ok (.aload_n 3, 1) := by decide +kernel
theorem dL_law_37 : decode cL_law 37 = .ok (.aload 4, 2) := by decide +kernel
theorem dL_law_39 : decode cL_law 39 = .ok (.invokestatic 180, 3) := by decide +kernel
theorem dL_law_42 : decode cL_law 42 = .ok (.istore 5, 2) := by decide +kernel
theorem dL_law_44 : decode cL_law 44 = .ok (.iconst 0, 1) := by decide +kernel
theorem dL_law_45 : decode cL_law 45 = .ok (.istore 6, 2) := by decide +kernel
theorem dL_law_47 : decode cL_law 47 = .ok (.iload 6, 2) := by decide +kernel
theorem dL_law_49 : decode cL_law 49 = .ok (.bipush 28, 2) := by decide +kernel
theorem dL_law_51 : decode cL_law 51 = .ok (.if_icmp .ge 337, 3) := by decide +kernel
theorem dL_law_54 : decode cL_law 54 = .ok (.iload 5, 2) := by decide +kernel
theorem dL_law_56 : decode cL_law 56 = .ok (.ifCond .eq 332, 3) := by decide +kernel
theorem dL_law_59 : decode cL_law 59 = .ok (.aload_n 0, 1) := by decide +kernel
theorem dL_law_60 : decode cL_law 60 = .ok (.iload 6, 2) := by decide +kernel
theorem dL_law_62 : decode cL_law 62 = .ok (.invokestatic 184, 3) := by decide +kernel
theorem dL_law_65 : decode cL_law 65 = .ok (.istore 7, 2) := by decide +kernel
theorem dL_law_67 : decode cL_law 67 = .ok (.aload_n 1, 1) := by decide +kernel
theorem dL_law_68 : decode cL_law 68 = .ok (.aload_n 2, 1) := by decide +kernel
theorem dL_law_69 : decode cL_law 69 = .ok (.aload_n 3, 1) := by decide +kernel
theorem dL_law_70 : decode cL_law 70 = .ok (.aload 4, 2) := by decide +kernel
theorem dL_law_72 : decode cL_law 72 = .ok (.iload 6, 2) := by decide +kernel
theorem dL_law_74 : decode cL_law 74 = .ok (.iconst 4, 1) := by decide +kernel
theorem dL_law_75 : decode cL_law 75 = .ok (.if_icmp .ge 7, 3) := by decide +kernel
theorem dL_law_78 : decode cL_law 78 = .ok (.iconst 0, 1) := by decide +kernel
theorem dL_law_79 : decode cL_law 79 = .ok (.goto 13, 3) := by decide +kernel
theorem dL_law_82 : decode cL_law 82 = .ok (.iload 7, 2) := by decide +kernel
theorem dL_law_84 : decode cL_law 84 = .ok (.bipush 18, 2) := by decide +kernel
theorem dL_law_86 : decode cL_law 86 = .ok (.ishr, 1) := by decide +kernel
theorem dL_law_87 : decode cL_law 87 = .ok (.bipush 16, 2) := by decide +kernel
theorem dL_law_89 : decode cL_law 89 = .ok (.invokestatic 151, 3) := by decide +kernel
theorem dL_law_92 : decode cL_law 92 = .ok (.iload 7, 2) := by decide +kernel
theorem dL_law_94 : decode cL_law 94 = .ok (.invokestatic 188, 3) := by decide +kernel
theorem dL_law_97 : decode cL_law 97 = .ok (.ifCond .eq 60, 3) := by decide +kernel
theorem dL_law_100 : decode cL_law 100 = .ok (.aload_n 1, 1) := by decide +kernel
theorem dL_law_101 : decode cL_law 101 = .ok (.aload_n 2, 1) := by decide +kernel
theorem dL_law_102 : decode cL_law 102 = .ok (.aload_n 3, 1) := by decide +kernel
theorem dL_law_103 : decode cL_law 103 = .ok (.aload 4, 2) := by decide +kernel
theorem dL_law_105 : decode cL_law 105 = .ok (.invokestatic 180, 3) := by decide +kernel
theorem dL_law_108 : decode cL_law 108 = .ok (.ifCond .eq 49, 3) := by decide +kernel
theorem dL_law_111 : decode cL_law 111 = .ok (.aload_n 1, 1) := by decide +kernel
theorem dL_law_112 : decode cL_law 112 = .ok (.aload_n 2, 1) := by decide +kernel
theorem dL_law_113 : decode cL_law 113 = .ok (.iload 7, 2) := by decide +kernel
theorem dL_law_115 : decode cL_law 115 = .ok (.iconst 2, 1) := by decide +kernel
theorem dL_law_116 : decode cL_law 116 = .ok (.invokestatic 151, 3) := by decide +kernel
theorem dL_law_119 : decode cL_law 119 = .ok (.iload 7, 2) := by decide +kernel
theorem dL_law_121 : decode cL_law 121 = .ok (.iconst 3, 1) := by decide +kernel
theorem dL_law_122 : decode cL_law 122 = .ok (.ishr, 1) := by decide +kernel
theorem dL_law_123 : decode cL_law 123 = .ok (.iload 7, 2) := by decide +kernel
theorem dL_law_125 : decode cL_law 125 = .ok (.bipush 12, 2) := by decide +kernel
theorem dL_law_127 : decode cL_law 127 = .ok (.ishr, 1) := by decide +kernel
theorem dL_law_128 : decode cL_law 128 = .ok (.iconst 2, 1) := by decide +kernel
theorem dL_law_129 : decode cL_law 129 = .ok (.invokestatic 151, 3) := by decide +kernel
theorem dL_law_132 : decode cL_law 132 = .ok (.ifCond .ne 9, 3) := by decide +kernel
theorem dL_law_135 : decode cL_law 135 = .ok (.sipush 20001, 3) := by decide +kernel
theorem dL_law_138 : decode cL_law 138 = .ok (.goto 6, 3) := by decide +kernel
theorem dL_law_141 : decode cL_law 141 = .ok (.sipush 900, 3) := by decide +kernel
theorem dL_law_144 : decode cL_law 144 = .ok (.invokestatic 151, 3) := by decide +kernel
theorem dL_law_147 : decode cL_law 147 = .ok (.invokestatic 192, 3) := by decide +kernel
theorem dL_law_150 : decode cL_law 150 = .ok (.ifCond .eq 7, 3) := by decide +kernel
theorem dL_law_153 : decode cL_law 153 = .ok (.iconst 1, 1) := by decide +kernel
theorem dL_law_154 : decode cL_law 154 = .ok (.goto 4, 3) := by decide +kernel
theorem dL_law_157 : decode cL_law 157 = .ok (.iconst 0, 1) := by decide +kernel
theorem dL_law_158 : decode cL_law 158 = .ok (.istore 5, 2) := by decide +kernel
theorem dL_law_160 : decode cL_law 160 = .ok (.iload 7, 2) := by decide +kernel
theorem dL_law_162 : decode cL_law 162 = .ok (.iconst 4, 1) := by decide +kernel
theorem dL_law_163 : decode cL_law 163 = .ok (.ishr, 1) := by decide +kernel
theorem dL_law_164 : decode cL_law 164 = .ok (.aload 4, 2) := by decide +kernel
theorem dL_law_166 : decode cL_law 166 = .ok (.bipush 7, 2) := by decide +kernel
theorem dL_law_168 : decode cL_law 168 = .ok (.iaload, 1) := by decide +kernel
theorem dL_law_169 : decode cL_law 169 = .ok (.invokestatic 151, 3) := by decide +kernel
theorem dL_law_172 : decode cL_law 172 = .ok (.istore 8, 2) := by decide +kernel
theorem dL_law_174 : decode cL_law 174 = .ok (.iload 5, 2) := by decide +kernel
theorem dL_law_176 : decode cL_law 176 = .ok (.ifCond .eq 53, 3) := by decide +kernel
theorem dL_law_179 : decode cL_law 179 = .ok (.aload_n 1, 1) := by decide +kernel
theorem dL_law_180 : decode cL_law 180 = .ok (.aload_n 2, 1) := by decide +kernel
theorem dL_law_181 : decode cL_law 181 = .ok (.aload_n 3, 1) := by decide +kernel
theorem dL_law_182 : decode cL_law 182 = .ok (.aload 4, 2) := by decide +kernel
theorem dL_law_184 : decode cL_law 184 = .ok (.iload 8, 2) := by decide +kernel
theorem dL_law_186 : decode cL_law 186 = .ok (.iconst 1, 1) := by decide +kernel
theorem dL_law_187 : decode cL_law 187 = .ok (.iload 7, 2) := by decide +kernel
theorem dL_law_189 : decode cL_law 189 = .ok (.bipush 7, 2) := by decide +kernel
theorem dL_law_191 : decode cL_law 191 = .ok (.ishr, 1) := by decide +kernel
theorem dL_law_192 : decode cL_law 192 = .ok (.bipush 60, 2) := by decide +kernel
theorem dL_law_194 : decode cL_law 194 = .ok (.invokestatic 151, 3) := by decide +kernel
theorem dL_law_197 : decode cL_law 197 = .ok (.iadd, 1) := by decide +kernel
theorem dL_law_198 : decode cL_law 198 = .ok (.invokestatic 196, 3) := by decide +kernel
theorem dL_law_201 : decode cL_law 201 = .ok (.ifCond .eq 28, 3) := by decide +kernel
theorem dL_law_204 : decode cL_law 204 = .ok (.aload_n 1, 1) := by decide +kernel
theorem dL_law_205 : decode cL_law 205 = .ok (.aload_n 2, 1) := by decide +kernel
theorem dL_law_206 : decode cL_law 206 = .ok (.aload_n 3, 1) := by decide +kernel
theorem dL_law_207 : decode cL_law 207 = .ok (.aload 4, 2) := by decide +kernel
theorem dL_law_209 : decode cL_law 209 = .ok (.iload 7, 2) := by decide +kernel
theorem dL_law_211 : decode cL_law 211 = .ok (.iconst 2, 1) := by decide +kernel
theorem dL_law_212 : decode cL_law 212 = .ok (.ishr, 1) := by decide +kernel
theorem dL_law_213 : decode cL_law 213 = .ok (.sipush 20001, 3) := by decide +kernel
theorem dL_law_216 : decode cL_law 216 = .ok (.invokestatic 151, 3) := by decide +kernel
theorem dL_law_219 : decode cL_law 219 = .ok (.invokestatic 199, 3) := by decide +kernel
theorem dL_law_222 : decode cL_law 222 = .ok (.ifCond .eq 7, 3) := by decide +kernel
theorem dL_law_225 : decode cL_law 225 = .ok (.iconst 1, 1) := by decide +kernel
theorem dL_law_226 : decode cL_law 226 = .ok (.goto 4, 3) := by decide +kernel
theorem dL_law_229 : decode cL_law 229 = .ok (.iconst 0, 1) := by decide +kernel
theorem dL_law_230 : decode cL_law 230 = .ok (.istore 5, 2) := by decide +kernel
theorem dL_law_232 : decode cL_law 232 = .ok (.iconst 0, 1) := by decide +kernel
theorem dL_law_233 : decode cL_law 233 = .ok (.istore 9, 2) := by decide +kernel
theorem dL_law_235 : decode cL_law 235 = .ok (.iload 9, 2) := by decide +kernel
theorem dL_law_237 : decode cL_law 237 = .ok (.bipush 9, 2) := by decide +kernel
theorem dL_law_239 : decode cL_law 239 = .ok (.if_icmp .ge 70, 3) := by decide +kernel
theorem dL_law_242 : decode cL_law 242 = .ok (.iload 5, 2) := by decide +kernel
theorem dL_law_244 : decode cL_law 244 = .ok (.ifCond .eq 65, 3) := by decide +kernel
theorem dL_law_247 : decode cL_law 247 = .ok (.aload_n 1, 1) := by decide +kernel
theorem dL_law_248 : decode cL_law 248 = .ok (.iload 8, 2) := by decide +kernel
theorem dL_law_250 : decode cL_law 250 = .ok (.iconst 1, 1) := by decide +kernel
theorem dL_law_251 : decode cL_law 251 = .ok (.iload 7, 2) := by decide +kernel
theorem dL_law_253 : decode cL_law 253 = .ok (.iload 9, 2) := by decide +kernel
theorem dL_law_255 : decode cL_law 255 = .ok (.ishr, 1) := by decide +kernel
theorem dL_law_256 : decode cL_law 256 = .ok (.bipush 20, 2) := by decide +kernel
theorem dL_law_258 : decode cL_law 258 = .ok (.invokestatic 151, 3) := by decide +kernel
theorem dL_law_261 : decode cL_law 261 = .ok (.iadd, 1) := by decide +kernel
theorem dL_law_262 : decode cL_law 262 = .ok (.invokevirtual 122, 3) := by decide +kernel
theorem dL_law_265 : decode cL_law 265 = .ok (.istore 10, 2) := by decide +kernel
theorem dL_law_267 : decode cL_law 267 = .ok (.iload 10, 2) := by decide +kernel
theorem dL_law_269 : decode cL_law 269 = .ok (.ifCond .lt 27, 3) := by decide +kernel
theorem dL_law_272 : decode cL_law 272 = .ok (.aload_n 1, 1) := by decide +kernel
theorem dL_law_273 : decode cL_law 273 = .ok (.aload_n 2, 1) := by decide +kernel
theorem dL_law_274 : decode cL_law 274 = .ok (.aload_n 3, 1) := by decide +kernel
theorem dL_law_275 : decode cL_law 275 = .ok (.aload 4, 2) := by decide +kernel
theorem dL_law_277 : decode cL_law 277 = .ok (.iload 10, 2) := by decide +kernel
theorem dL_law_279 : decode cL_law 279 = .ok (.invokestatic 199, 3) := by decide +kernel
theorem dL_law_282 : decode cL_law 282 = .ok (.ifCond .eq 18, 3) := by decide +kernel
theorem dL_law_285 : decode cL_law 285 = .ok (.aload_n 1, 1) := by decide +kernel
theorem dL_law_286 : decode cL_law 286 = .ok (.iload 8, 2) := by decide +kernel
theorem dL_law_288 : decode cL_law 288 = .ok (.iload 10, 2) := by decide +kernel
theorem dL_law_290 : decode cL_law 290 = .ok (.invokevirtual 132, 3) := by decide +kernel
theorem dL_law_293 : decode cL_law 293 = .ok (.ifCond .eq 7, 3) := by decide +kernel
theorem dL_law_296 : decode cL_law 296 = .ok (.iconst 1, 1) := by decide +kernel
theorem dL_law_297 : decode cL_law 297 = .ok (.goto 4, 3) := by decide +kernel
theorem dL_law_300 : decode cL_law 300 = .ok (.iconst 0, 1) := by decide +kernel
theorem dL_law_301 : decode cL_law 301 = .ok (.istore 5, 2) := by decide +kernel
theorem dL_law_303 : decode cL_law 303 = .ok (.iinc 9 1, 3) := by decide +kernel
theorem dL_law_306 : decode cL_law 306 = .ok (.goto (-71), 3) := by decide +kernel
theorem dL_law_309 : decode cL_law 309 = .ok (.iload 5, 2) := by decide +kernel
theorem dL_law_311 : decode cL_law 311 = .ok (.ifCond .eq 68, 3) := by decide +kernel
theorem dL_law_314 : decode cL_law 314 = .ok (.iload 6, 2) := by decide +kernel
theorem dL_law_316 : decode cL_law 316 = .ok (.bipush 7, 2) := by decide +kernel
theorem dL_law_318 : decode cL_law 318 = .ok (.irem, 1) := by decide +kernel
theorem dL_law_319 : decode cL_law 319 = .ok (.iconst 5, 1) := by decide +kernel
theorem dL_law_320 : decode cL_law 320 = .ok (.if_icmp .ne 55, 3) := by decide +kernel
theorem dL_law_323 : decode cL_law 323 = .ok (.aload_n 1, 1) := by decide +kernel
theorem dL_law_324 : decode cL_law 324 = .ok (.aload_n 2, 1) := by decide +kernel
theorem dL_law_325 : decode cL_law 325 = .ok (.aload_n 3, 1) := by decide +kernel
theorem dL_law_326 : decode cL_law 326 = .ok (.aload 4, 2) := by decide +kernel
theorem dL_law_328 : decode cL_law 328 = .ok (.iload 8, 2) := by decide +kernel
theorem dL_law_330 : decode cL_law 330 = .ok (.iload 7, 2) := by decide +kernel
theorem dL_law_332 : decode cL_law 332 = .ok (.bipush 8, 2) := by decide +kernel
theorem dL_law_334 : decode cL_law 334 = .ok (.ishr, 1) := by decide +kernel
theorem dL_law_335 : decode cL_law 335 = .ok (.aload 4, 2) := by decide +kernel
theorem dL_law_337 : decode cL_law 337 = .ok (.bipush 7, 2) := by decide +kernel
theorem dL_law_339 : decode cL_law 339 = .ok (.iaload, 1) := by decide +kernel
theorem dL_law_340 : decode cL_law 340 = .ok (.invokestatic 151, 3) := by decide +kernel
theorem dL_law_343 : decode cL_law 343 = .ok (.iconst 1, 1) := by decide +kernel
theorem dL_law_344 : decode cL_law 344 = .ok (.iload 7, 2) := by decide +kernel
theorem dL_law_346 : decode cL_law 346 = .ok (.bipush 6, 2) := by decide +kernel
theorem dL_law_348 : decode cL_law 348 = .ok (.ishr, 1) := by decide +kernel
theorem dL_law_349 : decode cL_law 349 = .ok (.sipush 400, 3) := by decide +kernel
theorem dL_law_352 : decode cL_law 352 = .ok (.invokestatic 151, 3) := by decide +kernel
theorem dL_law_355 : decode cL_law 355 = .ok (.iadd, 1) := by decide +kernel
theorem dL_law_356 : decode cL_law 356 = .ok (.invokestatic 203, 3) := by decide +kernel
theorem dL_law_359 : decode cL_law 359 = .ok (.ifCond .eq 20, 3) := by decide +kernel
theorem dL_law_362 : decode cL_law 362 = .ok (.aload_n 1, 1) := by decide +kernel
theorem dL_law_363 : decode cL_law 363 = .ok (.aload_n 2, 1) := by decide +kernel
theorem dL_law_364 : decode cL_law 364 = .ok (.aload_n 3, 1) := by decide +kernel
theorem dL_law_365 : decode cL_law 365 = .ok (.aload 4, 2) := by decide +kernel
theorem dL_law_367 : decode cL_law 367 = .ok (.iload 8, 2) := by decide +kernel
theorem dL_law_369 : decode cL_law 369 = .ok (.invokestatic 207, 3) := by decide +kernel
theorem dL_law_372 : decode cL_law 372 = .ok (.ifCond .eq 7, 3) := by decide +kernel
theorem dL_law_375 : decode cL_law 375 = .ok (.iconst 1, 1) := by decide +kernel
theorem dL_law_376 : decode cL_law 376 = .ok (.goto 4, 3) := by decide +kernel
theorem dL_law_379 : decode cL_law 379 = .ok (.iconst 0, 1) := by decide +kernel
theorem dL_law_380 : decode cL_law 380 = .ok (.istore 5, 2) := by decide +kernel
theorem dL_law_382 : decode cL_law 382 = .ok (.iinc 6 1, 3) := by decide +kernel
theorem dL_law_385 : decode cL_law 385 = .ok (.goto (-338), 3) := by decide +kernel
theorem dL_law_388 : decode cL_law 388 = .ok (.iload 5, 2) := by decide +kernel
theorem dL_law_390 : decode cL_law 390 = .ok (.ireturn, 1) := by decide +kernel
