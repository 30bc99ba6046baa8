theorem dL_acts_30 : decode cL_acts 30 = .ok (.istore 7, 2) := by decide +kernel
theorem dL_acts_32 : decode cL_acts 32 = .ok (.aload_n 3, 1) := by decide +kernel
theorem dL_acts_33 : decode cL_acts 33 = .ok (.bipush 7, 2) := by decide +kernel
theorem dL_acts_35 : decode cL_acts 35 = .ok (.iaload, 1) := by decide +kernel
theorem dL_acts_36 : decode cL_acts 36 = .ok (.iconst 2, 1) := by decide +kernel
theorem dL_acts_37 : decode cL_acts 37 = .ok (.if_icmp .ge 7, 3) := by decide +kernel
theorem dL_acts_40 : decode cL_acts 40 = .ok (.iconst 0, 1) := by decide +kernel
theorem dL_acts_41 : decode cL_acts 41 = .ok (.goto 5, 3) := by decide +kernel
theorem dL_acts_44 : decode cL_acts 44 = .ok (.iload 4, 2) := by decide +kernel
theorem dL_acts_46 : decode cL_acts 46 = .ok (.tableswitch 555 0 10 #[58, 58, 58, 235, 235, 402, 402, 402, 438, 487, 522], 58) := by decide +kernel
theorem dL_acts_104 : decode cL_acts 104 = .ok (.aload_n 3, 1) := by decide +kernel
theorem dL_acts_105 : decode cL_acts 105 = .ok (.bipush 7, 2) := by decide +kernel
theorem dL_acts_107 : decode cL_acts 107 = .ok (.iaload, 1) := by decide +kernel
theorem dL_acts_108 : decode cL_acts 108 = .ok (.bipush 10, 2) := by decide +kernel
theorem dL_acts_110 : decode cL_acts 110 = .ok (.if_icmp .ne 42, 3) := by decide +kernel
theorem dL_acts_113 : decode cL_acts 113 = .ok (.aload_n 0, 1) := by decide +kernel
theorem dL_acts_114 : decode cL_acts 114 = .ok (.iload 7, 2) := by decide +kernel
theorem dL_acts_116 : decode cL_acts 116 = .ok (.iload 5, 2) := by decide +kernel
theorem dL_acts_118 : decode cL_acts 118 = .ok (.iconst 5, 1) := by decide +kernel
theorem dL_acts_119 : decode cL_acts 119 = .ok (.ishr, 1) := by decide +kernel
theorem dL_acts_120 : decode cL_acts 120 = .ok (.bipush 7, 2) := by decide +kernel
theorem dL_acts_122 : decode cL_acts 122 = .ok (.invokestatic 151, 3) := by decide +kernel
theorem dL_acts_125 : decode cL_acts 125 = .ok (.invokevirtual 154, 3) := by decide +kernel
theorem dL_acts_128 : decode cL_acts 128 = .ok (.aload_n 2, 1) := by decide +kernel
theorem dL_acts_129 : decode cL_acts 129 = .ok (.iload 7, 2) := by decide +kernel
theorem dL_acts_131 : decode cL_acts 131 = .ok (.iload 5, 2) := by decide +kernel
theorem dL_acts_133 : decode cL_acts 133 = .ok (.iconst 5, 1) := by decide +kernel
theorem dL_acts_134 : decode cL_acts 134 = .ok (.ishr, 1) := by decide +kernel
theorem dL_acts_135 : decode cL_acts 135 = .ok (.bipush 7, 2) := by decide +kernel
theorem dL_acts_137 : decode cL_acts 137 = .ok (.invokestatic 151, 3) := by decide +kernel
theorem dL_acts_140 : decode cL_acts 140 = .ok (.invokestatic 157, 3) := by decide +kernel
theorem dL_acts_143 : decode cL_acts 143 = .ok (.if_icmp .ne 7, 3) := by decide +kernel
theorem dL_acts_146 : decode cL_acts 146 = .ok (.iconst 1, 1) := by decide +kernel
theorem dL_acts_147 : decode cL_acts 147 = .ok (.goto 4, 3) := by decide +kernel
theorem dL_acts_150 : decode cL_acts 150 = .ok (.iconst 0, 1) := by decide +kernel
theorem dL_acts_151 : decode cL_acts 151 = .ok (.ireturn, 1) := by decide +kernel
theorem dL_acts_152 : decode cL_acts 152 = .ok (.iconst 4, 1) := by decide +kernel
theorem dL_acts_153 : decode cL_acts 153 = .ok (.aload_n 3, 1) := by decide +kernel
theorem dL_acts_154 : decode cL_acts 154 = .ok (.bipush 7, 2) := by decide +kernel
theorem dL_acts_156 : decode cL_acts 156 = .ok (.iaload, 1) := by decide +kernel
theorem dL_acts_157 : decode cL_acts 157 = .ok (.imul, 1) := by decide +kernel
theorem dL_acts_158 : decode cL_acts 158 = .ok (.istore 8, 2) := by decide +kernel
theorem dL_acts_160 : decode cL_acts 160 = .ok (.aload_n 2, 1) := by decide +kernel
theorem dL_acts_161 : decode cL_acts 161 = .ok (.iload 8, 2) := by decide +kernel
theorem dL_acts_163 : decode cL_acts 163 = .ok (.iload 6, 2) := by decide +kernel
theorem dL_acts_165 : decode cL_acts 165 = .ok (.iastore, 1) := by decide +kernel
theorem dL_acts_166 : decode cL_acts 166 = .ok (.aload_n 2, 1) := by decide +kernel
theorem dL_acts_167 : decode cL_acts 167 = .ok (.iload 8, 2) := by decide +kernel
theorem dL_acts_169 : decode cL_acts 169 = .ok (.iconst 1, 1) := by decide +kernel
theorem dL_acts_170 : decode cL_acts 170 = .ok (.iadd, 1) := by decide +kernel
theorem dL_acts_171 : decode cL_acts 171 = .ok (.iconst 1, 1) := by decide +kernel
theorem dL_acts_172 : decode cL_acts 172 = .ok (.iload 5, 2) := by decide +kernel
theorem dL_acts_174 : decode cL_acts 174 = .ok (.iconst 1, 1) := by decide +kernel
theorem dL_acts_175 : decode cL_acts 175 = .ok (.ishr, 1) := by decide +kernel
theorem dL_acts_176 : decode cL_acts 176 = .ok (.iload 5, 2) := by decide +kernel
theorem dL_acts_178 : decode cL_acts 178 = .ok (.bipush 9, 2) := by decide +kernel
theorem dL_acts_180 : decode cL_acts 180 = .ok (.ishr, 1) := by decide +kernel
theorem dL_acts_181 : decode cL_acts 181 = .ok (.iconst 2, 1) := by decide +kernel
theorem dL_acts_182 : decode cL_acts 182 = .ok (.invokestatic 151, 3) := by decide +kernel
theorem dL_acts_185 : decode cL_acts 185 = .ok (.ifCond .ne 8, 3) := by decide +kernel
theorem dL_acts_188 : decode cL_acts 188 = .ok (.bipush 12, 2) := by decide +kernel
theorem dL_acts_190 : decode cL_acts 190 = .ok (.goto 4, 3) := by decide +kernel
theorem dL_acts_193 : decode cL_acts 193 = .ok (.iconst 3, 1) := by decide +kernel
theorem dL_acts_194 : decode cL_acts 194 = .ok (.invokestatic 151, 3) := by decide +kernel
theorem dL_acts_197 : decode cL_acts 197 = .ok (.iadd, 1) := by decide +kernel
theorem dL_acts_198 : decode cL_acts 198 = .ok (.iastore, 1) := by decide +kernel
theorem dL_acts_199 : decode cL_acts 199 = .ok (.aload_n 2, 1) := by decide +kernel
theorem dL_acts_200 : decode cL_acts 200 = .ok (.iload 8, 2) := by decide +kernel
theorem dL_acts_202 : decode cL_acts 202 = .ok (.iconst 2, 1) := by decide +kernel
theorem dL_acts_203 : decode cL_acts 203 = .ok (.iadd, 1) := by decide +kernel
theorem dL_acts_204 : decode cL_acts 204 = .ok (.iconst 1, 1) := by decide +kernel
theorem dL_acts_205 : decode cL_acts 205 = .ok (.iload 5, 2) := by decide +kernel
theorem dL_acts_207 : decode cL_acts 207 = .ok (.iconst 5, 1) := by decide +kernel
theorem dL_acts_208 : decode cL_acts 208 = .ok (.ishr, 1) := by decide +kernel
theorem dL_acts_209 : decode cL_acts 209 = .ok (.iload 5, 2) := by decide +kernel
theorem dL_acts_211 : decode cL_acts 211 = .ok (.bipush 10, 2) := by decide +kernel
theorem dL_acts_213 : decode cL_acts 213 = .ok (.ishr, 1) := by decide +kernel
theorem dL_acts_214 : decode cL_acts 214 = .ok (.iconst 2, 1) := by decide +kernel
theorem dL_acts_215 : decode cL_acts 215 = .ok (.invokestatic 151, 3) := by decide +kernel
theorem dL_acts_218 : decode cL_acts 218 = .ok (.ifCond .ne 8, 3) := by decide +kernel
theorem dL_acts_221 : decode cL_acts 221 = .ok (.bipush 31, 2) := by decide +kernel
theorem dL_acts_223 : decode cL_acts 223 = .ok (.goto 5, 3) := by decide +kernel
theorem dL_acts_226 : decode cL_acts 226 = .ok (.bipush 8, 2) := by decide +kernel
theorem dL_acts_228 : decode cL_acts 228 = .ok (.invokestatic 151, 3) := by decide +kernel
theorem dL_acts_231 : decode cL_acts 231 = .ok (.iadd, 1) := by decide +kernel
theorem dL_acts_232 : decode cL_acts 232 = .ok (.iastore, 1) := by decide +kernel
theorem dL_acts_233 : decode cL_acts 233 = .ok (.aload_n 2, 1) := by decide +kernel
theorem dL_acts_234 : decode cL_acts 234 = .ok (.iload 8, 2) := by decide +kernel
theorem dL_acts_236 : decode cL_acts 236 = .ok (.iconst 3, 1) := by decide +kernel
theorem dL_acts_237 : decode cL_acts 237 = .ok (.iadd, 1) := by decide +kernel
theorem dL_acts_238 : decode cL_acts 238 = .ok (.iconst (-1), 1) := by decide +kernel
theorem dL_acts_239 : decode cL_acts 239 = .ok (.iastore, 1) := by decide +kernel
theorem dL_acts_240 : decode cL_acts 240 = .ok (.aload_n 3, 1) := by decide +kernel
theorem dL_acts_241 : decode cL_acts 241 = .ok (.bipush 7, 2) := by decide +kernel
theorem dL_acts_243 : decode cL_acts 243 = .ok (.dup2, 1) := by decide +kernel
theorem dL_acts_244 : decode cL_acts 244 = .ok (.iaload, 1) := by decide +kernel
theorem dL_acts_245 : decode cL_acts 245 = .ok (.iconst 1, 1) := by decide +kernel
theorem dL_acts_246 : decode cL_acts 246 = .ok (.iadd, 1) := by decide +kernel
theorem dL_acts_247 : decode cL_acts 247 = .ok (.iastore, 1) := by decide +kernel
theorem dL_acts_248 : decode cL_acts 248 = .ok (.aload_n 0, 1) := by decide +kernel
theorem dL_acts_249 : decode cL_acts 249 = .ok (.iload 6, 2) := by decide +kernel
theorem dL_acts_251 : decode cL_acts 251 = .ok (.aload_n 2, 1) := by decide +kernel
theorem dL_acts_252 : decode cL_acts 252 = .ok (.iload 8, 2) := by decide +kernel
theorem dL_acts_254 : decode cL_acts 254 = .ok (.iconst 1, 1) := by decide +kernel
theorem dL_acts_255 : decode cL_acts 255 = .ok (.iadd, 1) := by decide +kernel
theorem dL_acts_256 : decode cL_acts 256 = .ok (.iaload, 1) := by decide +kernel
theorem dL_acts_257 : decode cL_acts 257 = .ok (.aload_n 2, 1) := by decide +kernel
theorem dL_acts_258 : decode cL_acts 258 = .ok (.iload 8, 2) := by decide +kernel
theorem dL_acts_260 : decode cL_acts 260 = .ok (.iconst 2, 1) := by decide +kernel
theorem dL_acts_261 : decode cL_acts 261 = .ok (.iadd, 1) := by decide +kernel
theorem dL_acts_262 : decode cL_acts 262 = .ok (.iaload, 1) := by decide +kernel
theorem dL_acts_263 : decode cL_acts 263 = .ok (.invokevirtual 160, 3) := by decide +kernel
theorem dL_acts_266 : decode cL_acts 266 = .ok (.aload_n 3, 1) := by decide +kernel
theorem dL_acts_267 : decode cL_acts 267 = .ok (.bipush 7, 2) := by decide +kernel
theorem dL_acts_269 : decode cL_acts 269 = .ok (.iaload, 1) := by decide +kernel
theorem dL_acts_270 : decode cL_acts 270 = .ok (.iconst 1, 1) := by decide +kernel
theorem dL_acts_271 : decode cL_acts 271 = .ok (.isub, 1) := by decide +kernel
theorem dL_acts_272 : decode cL_acts 272 = .ok (.if_icmp .ne 7, 3) := by decide +kernel
theorem dL_acts_275 : decode cL_acts 275 = .ok (.iconst 1, 1) := by decide +kernel
theorem dL_acts_276 : decode cL_acts 276 = .ok (.goto 4, 3) := by decide +kernel
theorem dL_acts_279 : decode cL_acts 279 = .ok (.iconst 0, 1) := by decide +kernel
theorem dL_acts_280 : decode cL_acts 280 = .ok (.ireturn, 1) := by decide +kernel
theorem dL_acts_281 : decode cL_acts 281 = .ok (.aload_n 1, 1) := by decide +kernel
theorem dL_acts_282 : decode cL_acts 282 = .ok (.bipush 7, 2) := by decide +kernel
theorem dL_acts_284 : decode cL_acts 284 = .ok (.iload 6, 2) := by decide +kernel
theorem dL_acts_286 : decode cL_acts 286 = .ok (.imul, 1) := by decide +kernel
theorem dL_acts_287 : decode cL_acts 287 = .ok (.iaload, 1) := by decide +kernel
theorem dL_acts_288 : decode cL_acts 288 = .ok (.istore 9, 2) := by decide +kernel
theorem dL_acts_290 : decode cL_acts 290 = .ok (.iload 9, 2) := by decide +kernel
theorem dL_acts_292 : decode cL_acts 292 = .ok (.ifCond .ne 7, 3) := by decide +kernel
theorem dL_acts_295 : decode cL_acts 295 = .ok (.iconst 0, 1) := by decide +kernel
theorem dL_acts_296 : decode cL_acts 296 = .ok (.goto 19, 3) := by decide +kernel
theorem dL_acts_299 : decode cL_acts 299 = .ok (.aload_n 1, 1) := by decide +kernel
theorem dL_acts_300 : decode cL_acts 300 = .ok (.bipush 7, 2) := by decide +kernel
theorem dL_acts_302 : decode cL_acts 302 = .ok (.iload 6, 2) := by decide +kernel
theorem dL_acts_304 : decode cL_acts 304 = .ok (.imul, 1) := by decide +kernel
theorem dL_acts_305 : decode cL_acts 305 = .ok (.iconst 2, 1) := by decide +kernel
theorem dL_acts_306 : decode cL_acts 306 = .ok (.iload 9, 2) := by decide +kernel
theorem dL_acts_308 : decode cL_acts 308 = .ok (.imul, 1) := by decide +kernel
theorem dL_acts_309 : decode cL_acts 309 = .ok (.iadd, 1) := by decide +kernel
theorem dL_acts_310 : decode cL_acts 310 = .ok (.iconst 1, 1) := by decide +kernel
theorem dL_acts_311 : decode cL_acts 311 = .ok (.isub, 1) := by decide +kernel
theorem dL_acts_312 : decode cL_acts 312 = .ok (.iaload, 1) := by decide +kernel
theorem dL_acts_313 : decode cL_acts 313 = .ok (.iconst 1, 1) := by decide +kernel
theorem dL_acts_314 : decode cL_acts 314 = .ok (.iadd, 1) := by decide +kernel
theorem dL_acts_315 : decode cL_acts 315 = .ok (.iload 5, 2) := by decide +kernel
theorem dL_acts_317 : decode cL_acts 317 = .ok (.iconst 1, 1) := by decide +kernel
theorem dL_acts_318 : decode cL_acts 318 = .ok (.ishr, 1) := by decide +kernel
theorem dL_acts_319 : decode cL_acts 319 = .ok (.sipush 500, 3) := by decide +kernel
theorem dL_acts_322 : decode cL_acts 322 = .ok (.invokestatic 151, 3) := by decide +kernel
theorem dL_acts_325 : decode cL_acts 325 = .ok (.iadd, 1) := by decide +kernel
theorem dL_acts_326 : decode cL_acts 326 = .ok (.istore 10, 2) := by decide +kernel
theorem dL_acts_328 : decode cL_acts 328 = .ok (.iload 9, 2) := by decide +kernel
theorem dL_acts_330 : decode cL_acts 330 = .ok (.iconst 3, 1) := by decide +kernel
theorem dL_acts_331 : decode cL_acts 331 = .ok (.if_icmp .eq 11, 3) := by decide +kernel
theorem dL_acts_334 : decode cL_acts 334 = .ok (.iload 10, 2) := by decide +kernel
theorem dL_acts_336 : decode cL_acts 336 = .ok (.sipush 9999, 3) := by decide +kernel
theorem dL_acts_339 : decode cL_acts 339 = .ok (.if_icmp .le 22, 3) := by decide +kernel
theorem dL_acts_342 : decode cL_acts 342 = .ok (.aload_n 0, 1) := by decide +kernel
theorem dL_acts_343 : decode cL_acts 343 = .ok (.aload_n 3, 1) := by decide +kernel
theorem dL_acts_344 : decode cL_acts 344 = .ok (.iconst 0, 1) := by decide +kernel
theorem dL_acts_345 : decode cL_acts 345 = .ok (.iaload, 1) := by decide +kernel
theorem dL_acts_346 : decode cL_acts 346 = .ok (.invokevirtual 164, 3) := by decide +kernel
theorem dL_acts_349 : decode cL_acts 349 = .ok (.aload_n 3, 1) := by decide +kernel
theorem dL_acts_350 : decode cL_acts 350 = .ok (.iconst 0, 1) := by decide +kernel
theorem dL_acts_351 : decode cL_acts 351 = .ok (.iaload, 1) := by decide +kernel
theorem dL_acts_352 : decode cL_acts 352 = .ok (.if_icmp .ne 7, 3) := by decide +kernel
theorem dL_acts_355 : decode cL_acts 355 = .ok (.iconst 1, 1) := by decide +kernel
theorem dL_acts_356 : decode cL_acts 356 = .ok (.goto 4, 3) := by decide +kernel
theorem dL_acts_359 : decode cL_acts 359 = .ok (.iconst 0, 1) := by decide +kernel
theorem dL_acts_360 : decode cL_acts 360 = .ok (.ireturn, 1) := by decide +kernel
theorem dL_acts_361 : decode cL_acts 361 = .ok (.aload_n 1, 1) := by decide +kernel
theorem dL_acts_362 : decode cL_acts 362 = .ok (.bipush 7, 2) := by decide +kernel
theorem dL_acts_364 : decode cL_acts 364 = .ok (.iload 6, 2) := by decide +kernel
theorem dL_acts_366 : decode cL_acts 366 = .ok (.imul, 1) := by decide +kernel
theorem dL_acts_367 : decode cL_acts 367 = .ok (.iconst 1, 1) := by decide +kernel
theorem dL_acts_368 : decode cL_acts 368 = .ok (.iadd, 1) := by decide +kernel
theorem dL_acts_369 : decode cL_acts 369 = .ok (.iconst 2, 1) := by decide +kernel
theorem dL_acts_370 : decode cL_acts 370 = .ok (.iload 9, 2) := by decide +kernel
theorem dL_acts_372 : decode cL_acts 372 = .ok (.imul, 1) := by decide +kernel
theorem dL_acts_373 : decode cL_acts 373 = .ok (.iadd, 1) := by decide +kernel
theorem dL_acts_374 : decode cL_acts 374 = .ok (.iload 10, 2) := by decide +kernel
theorem dL_acts_376 : decode cL_acts 376 = .ok (.iastore, 1) := by decide +kernel
theorem dL_acts_377 : decode cL_acts 377 = .ok (.aload_n 1, 1) := by decide +kernel
theorem dL_acts_378 : decode cL_acts 378 = .ok (.bipush 7, 2) := by decide +kernel
theorem dL_acts_380 : decode cL_acts 380 = .ok (.iload 6, 2) := by decide +kernel
theorem dL_acts_382 : decode cL_acts 382 = .ok (.imul, 1) := by decide +kernel
theorem dL_acts_383 : decode cL_acts 383 = .ok (.iconst 2, 1) := by decide +kernel
theorem dL_acts_384 : decode cL_acts 384 = .ok (.iadd, 1) := by decide +kernel
theorem dL_acts_385 : decode cL_acts 385 = .ok (.iconst 2, 1) := by decide +kernel
theorem dL_acts_386 : decode cL_acts 386 = .ok (.iload 9, 2) := by decide +kernel
theorem dL_acts_388 : decode cL_acts 388 = .ok (.imul, 1) := by decide +kernel
theorem dL_acts_389 : decode cL_acts 389 = .ok (.iadd, 1) := by decide +kernel
theorem dL_acts_390 : decode cL_acts 390 = .ok (.iconst 1, 1) := by decide +kernel
theorem dL_acts_391 : decode cL_acts 391 = .ok (.iload 5, 2) := by decide +kernel
theorem dL_acts_393 : decode cL_acts 393 = .ok (.iconst 5, 1) := by decide +kernel
theorem dL_acts_394 : decode cL_acts 394 = .ok (.ishr, 1) := by decide +kernel
theorem dL_acts_395 : decode cL_acts 395 = .ok (.bipush 40, 2) := by decide +kernel
theorem dL_acts_397 : decode cL_acts 397 = .ok (.invokestatic 151, 3) := by decide +kernel
theorem dL_acts_400 : decode cL_acts 400 = .ok (.iadd, 1) := by decide +kernel
theorem dL_acts_401 : decode cL_acts 401 = .ok (.iastore, 1) := by decide +kernel
theorem dL_acts_402 : decode cL_acts 402 = .ok (.aload_n 1, 1) := by decide +kernel
theorem dL_acts_403 : decode cL_acts 403 = .ok (.bipush 7, 2) := by decide +kernel
theorem dL_acts_405 : decode cL_acts 405 = .ok (.iload 6, 2) := by decide +kernel
theorem dL_acts_407 : decode cL_acts 407 = .ok (.imul, 1) := by decide +kernel
theorem dL_acts_408 : decode cL_acts 408 = .ok (.iload 9, 2) := by decide +kernel
theorem dL_acts_410 : decode cL_acts 410 = .ok (.iconst 1, 1) := by decide +kernel
theorem dL_acts_411 : decode cL_acts 411 = .ok (.iadd, 1) := by decide +kernel
theorem dL_acts_412 : decode cL_acts 412 = .ok (.iastore, 1) := by decide +kernel
theorem dL_acts_413 : decode cL_acts 413 = .ok (.aload_n 0, 1) := by decide +kernel
theorem dL_acts_414 : decode cL_acts 414 = .ok (.iload 6, 2) := by decide +kernel
theorem dL_acts_416 : decode cL_acts 416 = .ok (.iload 10, 2) := by decide +kernel
theorem dL_acts_418 : decode cL_acts 418 = .ok (.aload_n 1, 1) := by decide +kernel
theorem dL_acts_419 : decode cL_acts 419 = .ok (.bipush 7, 2) := by decide +kernel
theorem dL_acts_421 : decode cL_acts 421 = .ok (.iload 6, 2) := by decide +kernel
theorem dL_acts_423 : decode cL_acts 423 = .ok (.imul, 1) := by decide +kernel
theorem dL_acts_424 : decode cL_acts 424 = .ok (.iconst 2, 1) := by decide +kernel
theorem dL_acts_425 : decode cL_acts 425 = .ok (.iadd, 1) := by decide +kernel
theorem dL_acts_426 : decode cL_acts 426 = .ok (.iconst 2, 1) := by decide +kernel
theorem dL_acts_427 : decode cL_acts 427 = .ok (.iload 9, 2) := by decide +kernel
theorem dL_acts_429 : decode cL_acts 429 = .ok (.imul, 1) := by decide +kernel
theorem dL_acts_430 : decode cL_acts 430 = .ok (.iadd, 1) := by decide +kernel
theorem dL_acts_431 : decode cL_acts 431 = .ok (.iaload, 1) := by decide +kernel
theorem dL_acts_432 : decode cL_acts 432 = .ok (.invokevirtual 167, 3) := by decide +kernel
theorem dL_acts_435 : decode cL_acts 435 = .ok (.iload 9, 2) := by decide +kernel
theorem dL_acts_437 : decode cL_acts 437 = .ok (.iconst 1, 1) := by decide +kernel
theorem dL_acts_438 : decode cL_acts 438 = .ok (.iadd, 1) := by decide +kernel
theorem dL_acts_439 : decode cL_acts 439 = .ok (.if_icmp .ne 7, 3) := by decide +kernel
theorem dL_acts_442 : decode cL_acts 442 = .ok (.iconst 1, 1) := by decide +kernel
theorem dL_acts_443 : decode cL_acts 443 = .ok (.goto 4, 3) := by decide +kernel
theorem dL_acts_446 : decode cL_acts 446 = .ok (.iconst 0, 1) := by decide +kernel
theorem dL_acts_447 : decode cL_acts 447 = .ok (.ireturn, 1) := by decide +kernel
theorem dL_acts_448 : decode cL_acts 448 = .ok (.iload 5, 2) := by decide +kernel
theorem dL_acts_450 : decode cL_acts 450 = .ok (.iconst 5, 1) := by decide +kernel
theorem dL_acts_451 : decode cL_acts 451 = .ok (.ishr, 1) := by decide +kernel
theorem dL_acts_452 : decode cL_acts 452 = .ok (.bipush 7, 2) := by decide +kernel
theorem dL_acts_454 : decode cL_acts 454 = .ok (.invokestatic 151, 3) := by decide +kernel
theorem dL_acts_457 : decode cL_acts 457 = .ok (.istore 11, 2) := by decide +kernel
theorem dL_acts_459 : decode cL_acts 459 = .ok (.aload_n 0, 1) := by decide +kernel
theorem dL_acts_460 : decode cL_acts 460 = .ok (.iload 7, 2) := by decide +kernel
theorem dL_acts_462 : decode cL_acts 462 = .ok (.iload 11, 2) := by decide +kernel
theorem dL_acts_464 : decode cL_acts 464 = .ok (.invokevirtual 154, 3) := by decide +kernel
theorem dL_acts_467 : decode cL_acts 467 = .ok (.aload_n 2, 1) := by decide +kernel
theorem dL_acts_468 : decode cL_acts 468 = .ok (.iload 7, 2) := by decide +kernel
theorem dL_acts_470 : decode cL_acts 470 = .ok (.iload 11, 2) := by decide +kernel
theorem dL_acts_472 : decode cL_acts 472 = .ok (.invokestatic 157, 3) := by decide +kernel
theorem dL_acts_475 : decode cL_acts 475 = .ok (.if_icmp .ne 7, 3) := by decide +kernel
theorem dL_acts_478 : decode cL_acts 478 = .ok (.iconst 1, 1) := by decide +kernel
theorem dL_acts_479 : decode cL_acts 479 = .ok (.goto 4, 3) := by decide +kernel
theorem dL_acts_482 : decode cL_acts 482 = .ok (.iconst 0, 1) := by decide +kernel
theorem dL_acts_483 : decode cL_acts 483 = .ok (.ireturn, 1) := by decide +kernel
theorem dL_acts_484 : decode cL_acts 484 = .ok (.aload_n 2, 1) := by decide +kernel
theorem dL_acts_485 : decode cL_acts 485 = .ok (.iconst 4, 1) := by decide +kernel
theorem dL_acts_486 : decode cL_acts 486 = .ok (.iload 7, 2) := by decide +kernel
theorem dL_acts_488 : decode cL_acts 488 = .ok (.imul, 1) := by decide +kernel
theorem dL_acts_489 : decode cL_acts 489 = .ok (.iconst 3, 1) := by decide +kernel
theorem dL_acts_490 : decode cL_acts 490 = .ok (.iadd, 1) := by decide +kernel
theorem dL_acts_491 : decode cL_acts 491 = .ok (.iaload, 1) := by decide +kernel
theorem dL_acts_492 : decode cL_acts 492 = .ok (.ifCond .ge 19, 3) := by decide +kernel
theorem dL_acts_495 : decode cL_acts 495 = .ok (.aload_n 0, 1) := by decide +kernel
theorem dL_acts_496 : decode cL_acts 496 = .ok (.iload 7, 2) := by decide +kernel
theorem dL_acts_498 : decode cL_acts 498 = .ok (.invokevirtual 79, 3) := by decide +kernel
theorem dL_acts_501 : decode cL_acts 501 = .ok (.iconst (-1), 1) := by decide +kernel
theorem dL_acts_502 : decode cL_acts 502 = .ok (.if_icmp .ne 7, 3) := by decide +kernel
theorem dL_acts_505 : decode cL_acts 505 = .ok (.iconst 1, 1) := by decide +kernel
theorem dL_acts_506 : decode cL_acts 506 = .ok (.goto 4, 3) := by decide +kernel
theorem dL_acts_509 : decode cL_acts 509 = .ok (.iconst 0, 1) := by decide +kernel
theorem dL_acts_510 : decode cL_acts 510 = .ok (.ireturn, 1) := by decide +kernel
theorem dL_acts_511 : decode cL_acts 511 = .ok (.aload_n 0, 1) := by decide +kernel
theorem dL_acts_512 : decode cL_acts 512 = .ok (.iload 7, 2) := by decide +kernel
theorem dL_acts_514 : decode cL_acts 514 = .ok (.invokevirtual 170, 3) := by decide +kernel
theorem dL_acts_517 : decode cL_acts 517 = .ok (.aload_n 2, 1) := by decide +kernel
theorem dL_acts_518 : decode cL_acts 518 = .ok (.iload 7, 2) := by decide +kernel
theorem dL_acts_520 : decode cL_acts 520 = .ok (.iconst (-1), 1) := by decide +kernel
theorem dL_acts_521 : decode cL_acts 521 = .ok (.invokestatic 157, 3) := by decide +kernel
theorem dL_acts_524 : decode cL_acts 524 = .ok (.if_icmp .ne 7, 3) := by decide +kernel
theorem dL_acts_527 : decode cL_acts 527 = .ok (.iconst 1, 1) := by decide +kernel
theorem dL_acts_528 : decode cL_acts 528 = .ok (.goto 4, 3) := by decide +kernel
theorem dL_acts_531 : decode cL_acts 531 = .ok (.iconst 0, 1) := by decide +kernel
theorem dL_acts_532 : decode cL_acts 532 = .ok (.ireturn, 1) := by decide +kernel
theorem dL_acts_533 : decode cL_acts 533 = .ok (.aload_n 3, 1) := by decide +kernel
theorem dL_acts_534 : decode cL_acts 534 = .ok (.iconst 0, 1) := by decide +kernel
theorem dL_acts_535 : decode cL_acts 535 = .ok (.iaload, 1) := by decide +kernel
theorem dL_acts_536 : decode cL_acts 536 = .ok (.istore 12, 2) := by decide +kernel
theorem dL_acts_538 : decode cL_acts 538 = .ok (.aload_n 3, 1) := by decide +kernel
theorem dL_acts_539 : decode cL_acts 539 = .ok (.iconst 0, 1) := by decide +kernel
theorem dL_acts_540 : decode cL_acts 540 = .ok (.iconst 1, 1) := by decide +kernel
theorem dL_acts_541 : decode cL_acts 541 = .ok (.iload 5, 2) := by decide +kernel
theorem dL_acts_543 : decode cL_acts 543 = .ok (.bipush 9, 2) := by decide +kernel
theorem dL_acts_545 : decode cL_acts 545 = .ok (.invokestatic 151, 3) := by decide +kernel
theorem dL_acts_548 : decode cL_acts 548 = .ok (.iadd, 1) := by decide +kernel
theorem dL_acts_549 : decode cL_acts 549 = .ok (.iastore, 1) := by decide +kernel
theorem dL_acts_550 : decode cL_acts 550 = .ok (.aload_n 0, 1) := by decide +kernel
theorem dL_acts_551 : decode cL_acts 551 = .ok (.aload_n 3, 1) := by decide +kernel
theorem dL_acts_552 : decode cL_acts 552 = .ok (.iconst 0, 1) := by decide +kernel
theorem dL_acts_553 : decode cL_acts 553 = .ok (.iaload, 1) := by decide +kernel
theorem dL_acts_554 : decode cL_acts 554 = .ok (.invokevirtual 164, 3) := by decide +kernel
theorem dL_acts_557 : decode cL_acts 557 = .ok (.iload 12, 2) := by decide +kernel
theorem dL_acts_559 : decode cL_acts 559 = .ok (.if_icmp .ne 7, 3) := by decide +kernel
theorem dL_acts_562 : decode cL_acts 562 = .ok (.iconst 1, 1) := by decide +kernel
theorem dL_acts_563 : decode cL_acts 563 = .ok (.goto 4, 3) := by decide +kernel
theorem dL_acts_566 : decode cL_acts 566 = .ok (.iconst 0, 1) := by decide +kernel
theorem dL_acts_567 : decode cL_acts 567 = .ok (.ireturn, 1) := by decide +kernel
theorem dL_acts_568 : decode cL_acts 568 = .ok (.aload_n 3, 1) := by decide +kernel
theorem dL_acts_569 : decode cL_acts 569 = .ok (.iconst 1, 1) := by decide +kernel
theorem dL_acts_570 : decode cL_acts 570 = .ok (.iaload, 1) := by decide +kernel
theorem dL_acts_571 : decode cL_acts 571 = .ok (.istore 13, 2) := by decide +kernel
theorem dL_acts_573 : decode cL_acts 573 = .ok (.aload_n 3, 1) := by decide +kernel
theorem dL_acts_574 : decode cL_acts 574 = .ok (.iconst 1, 1) := by decide +kernel
theorem dL_acts_575 : decode cL_acts 575 = .ok (.iload 5, 2) := by decide +kernel
theorem dL_acts_577 : decode cL_acts 577 = .ok (.bipush 10, 2) := by decide +kernel
theorem dL_acts_579 : decode cL_acts 579 = .ok (.invokestatic 151, 3) := by decide +kernel
theorem dL_acts_582 : decode cL_acts 582 = .ok (.iastore, 1) := by decide +kernel
theorem dL_acts_583 : decode cL_acts 583 = .ok (.aload_n 0, 1) := by decide +kernel
theorem dL_acts_584 : decode cL_acts 584 = .ok (.aload_n 3, 1) := by decide +kernel
theorem dL_acts_585 : decode cL_acts 585 = .ok (.iconst 1, 1) := by decide +kernel
theorem dL_acts_586 : decode cL_acts 586 = .ok (.iaload, 1) := by decide +kernel
theorem dL_acts_587 : decode cL_acts 587 = .ok (.invokevirtual 173, 3) := by decide +kernel
theorem dL_acts_590 : decode cL_acts 590 = .ok (.iload 13, 2) := by decide +kernel
theorem dL_acts_592 : decode cL_acts 592 = .ok (.if_icmp .ne 7, 3) := by decide +kernel
theorem dL_acts_595 : decode cL_acts 595 = .ok (.iconst 1, 1) := by decide +kernel
theorem dL_acts_596 : decode cL_acts 596 = .ok (.goto 4, 3) := by decide +kernel
theorem dL_acts_599 : decode cL_acts 599 = .ok (.iconst 0, 1) := by decide +kernel
theorem dL_acts_600 : decode cL_acts 600 = .ok (.ireturn, 1) := by decide +kernel
theorem dL_acts_601 : decode cL_acts 601 = .ok (.iconst 1, 1) := by decide +kernel
theorem dL_acts_602 : decode cL_acts 602 = .ok (.iload 5, 2) := by decide +kernel
theorem dL_acts_604 : decode cL_acts 604 = .ok (.iload 5, 2) := by decide +kernel
theorem dL_acts_606 : decode cL_acts 606 = .ok (.bipush 9, 2) := by decide +kernel
theorem dL_acts_608 : decode cL_acts 608 = .ok (.ishr, 1) := by decide +kernel
theorem dL_acts_609 : decode cL_acts 609 = .ok (.iconst 3, 1) := by decide +kernel
theorem dL_acts_610 : decode cL_acts 610 = .ok (.invokestatic 151, 3) := by decide +kernel
theorem dL_acts_613 : decode cL_acts 613 = .ok (.ifCond .ne 9, 3) := by decide +kernel
theorem dL_acts_616 : decode cL_acts 616 = .ok (.sipush 400, 3) := by decide +kernel
theorem dL_acts_619 : decode cL_acts 619 = .ok (.goto 5, 3) := by decide +kernel
theorem dL_acts_622 : decode cL_acts 622 = .ok (.bipush 60, 2) := by decide +kernel
theorem dL_acts_624 : decode cL_acts 624 = .ok (.invokestatic 151, 3) := by decide +kernel
theorem dL_acts_627 : decode cL_acts 627 = .ok (.iadd, 1) := by decide +kernel
theorem dL_acts_628 : decode cL_acts 628 = .ok (.istore 14, 2) := by decide +kernel
theorem dL_acts_630 : decode cL_acts 630 = .ok (.aload_n 3, 1) := by decide +kernel
theorem dL_acts_631 : decode cL_acts 631 = .ok (.iconst 2, 1) := by decide +kernel
theorem dL_acts_632 : decode cL_acts 632 = .ok (.iaload, 1) := by decide +kernel
theorem dL_acts_633 : decode cL_acts 633 = .ok (.iload 14, 2) := by decide +kernel
theorem dL_acts_635 : decode cL_acts 635 = .ok (.iadd, 1) := by decide +kernel
theorem dL_acts_636 : decode cL_acts 636 = .ok (.sipush 9999, 3) := by decide +kernel
theorem dL_acts_639 : decode cL_acts 639 = .ok (.if_icmp .le 19, 3) := by decide +kernel
theorem dL_acts_642 : decode cL_acts 642 = .ok (.aload_n 0, 1) := by decide +kernel
theorem dL_acts_643 : decode cL_acts 643 = .ok (.invokevirtual 51, 3) := by decide +kernel
theorem dL_acts_646 : decode cL_acts 646 = .ok (.aload_n 3, 1) := by decide +kernel
theorem dL_acts_647 : decode cL_acts 647 = .ok (.iconst 2, 1) := by decide +kernel
theorem dL_acts_648 : decode cL_acts 648 = .ok (.iaload, 1) := by decide +kernel
theorem dL_acts_649 : decode cL_acts 649 = .ok (.if_icmp .ne 7, 3) := by decide +kernel
theorem dL_acts_652 : decode cL_acts 652 = .ok (.iconst 1, 1) := by decide +kernel
theorem dL_acts_653 : decode cL_acts 653 = .ok (.goto 4, 3) := by decide +kernel
theorem dL_acts_656 : decode cL_acts 656 = .ok (.iconst 0, 1) := by decide +kernel
theorem dL_acts_657 : decode cL_acts 657 = .ok (.ireturn, 1) := by decide +kernel
theorem dL_acts_658 : decode cL_acts 658 = .ok (.aload_n 3, 1) := by decide +kernel
theorem dL_acts_659 : decode cL_acts 659 = .ok (.iconst 5, 1) := by decide +kernel
theorem dL_acts_660 : decode cL_acts 660 = .ok (.iaload, 1) := by decide +kernel
theorem dL_acts_661 : decode cL_acts 661 = .ok (.istore 15, 2) := by decide +kernel
theorem dL_acts_663 : decode cL_acts 663 = .ok (.iconst 0, 1) := by decide +kernel
theorem dL_acts_664 : decode cL_acts 664 = .ok (.istore 16, 2) := by decide +kernel
theorem dL_acts_666 : decode cL_acts 666 = .ok (.iload 16, 2) := by decide +kernel
theorem dL_acts_668 : decode cL_acts 668 = .ok (.iload 14, 2) := by decide +kernel
theorem dL_acts_670 : decode cL_acts 670 = .ok (.if_icmp .ge 103, 3) := by decide +kernel
theorem dL_acts_673 : decode cL_acts 673 = .ok (.aload_n 1, 1) := by decide +kernel
theorem dL_acts_674 : decode cL_acts 674 = .ok (.aload_n 2, 1) := by decide +kernel
theorem dL_acts_675 : decode cL_acts 675 = .ok (.aload_n 3, 1) := by decide +kernel
theorem dL_acts_676 : decode cL_acts 676 = .ok (.aload_n 3, 1) := by decide +kernel
theorem dL_acts_677 : decode cL_acts 677 = .ok (.iconst 2, 1) := by decide +kernel
theorem dL_acts_678 : decode cL_acts 678 = .ok (.iaload, 1) := by decide +kernel
theorem dL_acts_679 : decode cL_acts 679 = .ok (.invokestatic 31, 3) := by decide +kernel
theorem dL_acts_682 : decode cL_acts 682 = .ok (.istore 17, 2) := by decide +kernel
theorem dL_acts_684 : decode cL_acts 684 = .ok (.aload_n 3, 1) := by decide +kernel
theorem dL_acts_685 : decode cL_acts 685 = .ok (.iconst 3, 1) := by decide +kernel
theorem dL_acts_686 : decode cL_acts 686 = .ok (.dup2, 1) := by decide +kernel
theorem dL_acts_687 : decode cL_acts 687 = .ok (.iaload, 1) := by decide +kernel
theorem dL_acts_688 : decode cL_acts 688 = .ok (.aload_n 2, 1) := by decide +kernel
theorem dL_acts_689 : decode cL_acts 689 = .ok (.iload 17, 2) := by decide +kernel
theorem dL_acts_691 : decode cL_acts 691 = .ok (.iconst 0, 1) := by decide +kernel
theorem dL_acts_692 : decode cL_acts 692 = .ok (.invokestatic 35, 3) := by decide +kernel
theorem dL_acts_695 : decode cL_acts 695 = .ok (.iadd, 1) := by decide +kernel
theorem dL_acts_696 : decode cL_acts 696 = .ok (.iastore, 1) := by decide +kernel
theorem dL_acts_697 : decode cL_acts 697 = .ok (.aload_n 3, 1) := by decide +kernel
theorem dL_acts_698 : decode cL_acts 698 = .ok (.iconst 4, 1) := by decide +kernel
theorem dL_acts_699 : decode cL_acts 699 = .ok (.dup2, 1) := by decide +kernel
theorem dL_acts_700 : decode cL_acts 700 = .ok (.iaload, 1) := by decide +kernel
theorem dL_acts_701 : decode cL_acts 701 = .ok (.aload_n 2, 1) := by decide +kernel
theorem dL_acts_702 : decode cL_acts 702 = .ok (.iload 17, 2) := by decide +kernel
theorem dL_acts_704 : decode cL_acts 704 = .ok (.iconst 1, 1) := by decide +kernel
theorem dL_acts_705 : decode cL_acts 705 = .ok (.invokestatic 35, 3) := by decide +kernel
theorem dL_acts_708 : decode cL_acts 708 = .ok (.iadd, 1) := by decide +kernel
theorem dL_acts_709 : decode cL_acts 709 = .ok (.iastore, 1) := by decide +kernel
theorem dL_acts_710 : decode cL_acts 710 = .ok (.aload_n 3, 1) := by decide +kernel
theorem dL_acts_711 : decode cL_acts 711 = .ok (.iconst 5, 1) := by decide +kernel
theorem dL_acts_712 : decode cL_acts 712 = .ok (.dup2, 1) := by decide +kernel
theorem dL_acts_713 : decode cL_acts 713 = .ok (.iaload, 1) := by decide +kernel
theorem dL_acts_714 : decode cL_acts 714 = .ok (.aload_n 2, 1) := by decide +kernel
theorem dL_acts_715 : decode cL_acts 715 = .ok (.iload 17, 2) := by decide +kernel
theorem dL_acts_717 : decode cL_acts 717 = .ok (.iconst 0, 1) := by decide +kernel
theorem dL_acts_718 : decode cL_acts 718 = .ok (.invokestatic 35, 3) := by decide +kernel
theorem dL_acts_721 : decode cL_acts 721 = .ok (.ifCond .le 17, 3) := by decide +kernel
theorem dL_acts_724 : decode cL_acts 724 = .ok (.aload_n 2, 1) := by decide +kernel
theorem dL_acts_725 : decode cL_acts 725 = .ok (.iload 17, 2) := by decide +kernel
theorem dL_acts_727 : decode cL_acts 727 = .ok (.iconst 1, 1) := by decide +kernel
theorem dL_acts_728 : decode cL_acts 728 = .ok (.invokestatic 35, 3) := by decide +kernel
theorem dL_acts_731 : decode cL_acts 731 = .ok (.ifCond .le 7, 3) := by decide +kernel
theorem dL_acts_734 : decode cL_acts 734 = .ok (.iconst 1, 1) := by decide +kernel
theorem dL_acts_735 : decode cL_acts 735 = .ok (.goto 4, 3) := by decide +kernel
theorem dL_acts_738 : decode cL_acts 738 = .ok (.iconst 0, 1) := by decide +kernel
theorem dL_acts_739 : decode cL_acts 739 = .ok (.iadd, 1) := by decide +kernel
theorem dL_acts_740 : decode cL_acts 740 = .ok (.iastore, 1) := by decide +kernel
theorem dL_acts_741 : decode cL_acts 741 = .ok (.aload_n 3, 1) := by decide +kernel
theorem dL_acts_742 : decode cL_acts 742 = .ok (.bipush 6, 2) := by decide +kernel
theorem dL_acts_744 : decode cL_acts 744 = .ok (.dup2, 1) := by decide +kernel
theorem dL_acts_745 : decode cL_acts 745 = .ok (.iaload, 1) := by decide +kernel
theorem dL_acts_746 : decode cL_acts 746 = .ok (.iload 17, 2) := by decide +kernel
theorem dL_acts_748 : decode cL_acts 748 = .ok (.ifCond .ne 9, 3) := by decide +kernel
theorem dL_acts_751 : decode cL_acts 751 = .ok (.aload_n 3, 1) := by decide +kernel
theorem dL_acts_752 : decode cL_acts 752 = .ok (.iconst 1, 1) := by decide +kernel
theorem dL_acts_753 : decode cL_acts 753 = .ok (.iaload, 1) := by decide +kernel
