/-! the law's own instructions, decoded -/
theorem jd_L_0 : decode code 0 = .ok (.new 8, 3) := by decide +kernel
theorem jd_L_3 : decode code 3 = .ok (.dup, 1) := by decide +kernel
theorem jd_L_4 : decode code 4 = .ok (.invokespecial 56, 3) := by decide +kernel
theorem jd_L_7 : decode code 7 = .ok (.astore_n 1, 1) := by decide +kernel
theorem jd_L_8 : decode code 8 = .ok (.new 57, 3) := by decide +kernel
theorem jd_L_11 : decode code 11 = .ok (.dup, 1) := by decide +kernel
theorem jd_L_12 : decode code 12 = .ok (.invokespecial 59, 3) := by decide +kernel
theorem jd_L_15 : decode code 15 = .ok (.astore_n 2, 1) := by decide +kernel
theorem jd_L_16 : decode code 16 = .ok (.iconst 1, 1) := by decide +kernel
theorem jd_L_17 : decode code 17 = .ok (.newarray .long, 2) := by decide +kernel
theorem jd_L_19 : decode code 19 = .ok (.astore_n 3, 1) := by decide +kernel
theorem jd_L_20 : decode code 20 = .ok (.iconst 0, 1) := by decide +kernel
theorem jd_L_21 : decode code 21 = .ok (.istore 4, 2) := by decide +kernel
theorem jd_L_23 : decode code 23 = .ok (.iload 4, 2) := by decide +kernel
theorem jd_L_25 : decode code 25 = .ok (.aload_n 0, 1) := by decide +kernel
theorem jd_L_26 : decode code 26 = .ok (.arraylength, 1) := by decide +kernel
theorem jd_L_27 : decode code 27 = .ok (.bipush 7, 2) := by decide +kernel
theorem jd_L_29 : decode code 29 = .ok (.isub, 1) := by decide +kernel
theorem jd_L_30 : decode code 30 = .ok (.if_icmp .gt 1101, 3) := by decide +kernel
theorem jd_L_33 : decode code 33 = .ok (.aload_n 0, 1) := by decide +kernel
theorem jd_L_34 : decode code 34 = .ok (.iload 4, 2) := by decide +kernel
theorem jd_L_36 : decode code 36 = .ok (.iaload, 1) := by decide +kernel
theorem jd_L_37 : decode code 37 = .ok (.bipush 31, 2) := by decide +kernel
theorem jd_L_39 : decode code 39 = .ok (.iand, 1) := by decide +kernel
theorem jd_L_40 : decode code 40 = .ok (.tableswitch 1085 0 17 #[88, 206, 250, 263, 363, 388, 488, 556, 593, 637, 650, 663, 676, 701, 769, 837, 905, 1017], 88) := by decide +kernel
theorem jd_L_128 : decode code 128 = .ok (.aload_n 1, 1) := by decide +kernel
theorem jd_L_129 : decode code 129 = .ok (.aload_n 0, 1) := by decide +kernel
theorem jd_L_130 : decode code 130 = .ok (.iload 4, 2) := by decide +kernel
theorem jd_L_132 : decode code 132 = .ok (.iconst 1, 1) := by decide +kernel
theorem jd_L_133 : decode code 133 = .ok (.iadd, 1) := by decide +kernel
theorem jd_L_134 : decode code 134 = .ok (.iaload, 1) := by decide +kernel
theorem jd_L_135 : decode code 135 = .ok (.aload_n 0, 1) := by decide +kernel
theorem jd_L_136 : decode code 136 = .ok (.iload 4, 2) := by decide +kernel
theorem jd_L_138 : decode code 138 = .ok (.iconst 2, 1) := by decide +kernel
theorem jd_L_139 : decode code 139 = .ok (.iadd, 1) := by decide +kernel
theorem jd_L_140 : decode code 140 = .ok (.iaload, 1) := by decide +kernel
theorem jd_L_141 : decode code 141 = .ok (.aload_n 0, 1) := by decide +kernel
theorem jd_L_142 : decode code 142 = .ok (.iload 4, 2) := by decide +kernel
theorem jd_L_144 : decode code 144 = .ok (.iconst 3, 1) := by decide +kernel
theorem jd_L_145 : decode code 145 = .ok (.iadd, 1) := by decide +kernel
theorem jd_L_146 : decode code 146 = .ok (.iaload, 1) := by decide +kernel
theorem jd_L_147 : decode code 147 = .ok (.aload_n 0, 1) := by decide +kernel
theorem jd_L_148 : decode code 148 = .ok (.iload 4, 2) := by decide +kernel
theorem jd_L_150 : decode code 150 = .ok (.iconst 4, 1) := by decide +kernel
theorem jd_L_151 : decode code 151 = .ok (.iadd, 1) := by decide +kernel
theorem jd_L_152 : decode code 152 = .ok (.iaload, 1) := by decide +kernel
theorem jd_L_153 : decode code 153 = .ok (.aload_n 0, 1) := by decide +kernel
theorem jd_L_154 : decode code 154 = .ok (.iload 4, 2) := by decide +kernel
theorem jd_L_156 : decode code 156 = .ok (.iconst 5, 1) := by decide +kernel
theorem jd_L_157 : decode code 157 = .ok (.iadd, 1) := by decide +kernel
theorem jd_L_158 : decode code 158 = .ok (.iaload, 1) := by decide +kernel
theorem jd_L_159 : decode code 159 = .ok (.aload_n 0, 1) := by decide +kernel
theorem jd_L_160 : decode code 160 = .ok (.iload 4, 2) := by decide +kernel
theorem jd_L_162 : decode code 162 = .ok (.bipush 6, 2) := by decide +kernel
theorem jd_L_164 : decode code 164 = .ok (.iadd, 1) := by decide +kernel
theorem jd_L_165 : decode code 165 = .ok (.iaload, 1) := by decide +kernel
theorem jd_L_166 : decode code 166 = .ok (.aload_n 3, 1) := by decide +kernel
theorem jd_L_167 : decode code 167 = .ok (.invokestatic 60, 3) := by decide +kernel
theorem jd_L_170 : decode code 170 = .ok (.istore 5, 2) := by decide +kernel
theorem jd_L_172 : decode code 172 = .ok (.aload_n 2, 1) := by decide +kernel
theorem jd_L_173 : decode code 173 = .ok (.aload_n 0, 1) := by decide +kernel
theorem jd_L_174 : decode code 174 = .ok (.iload 4, 2) := by decide +kernel
theorem jd_L_176 : decode code 176 = .ok (.iconst 1, 1) := by decide +kernel
theorem jd_L_177 : decode code 177 = .ok (.iadd, 1) := by decide +kernel
theorem jd_L_178 : decode code 178 = .ok (.iaload, 1) := by decide +kernel
theorem jd_L_179 : decode code 179 = .ok (.aload_n 0, 1) := by decide +kernel
theorem jd_L_180 : decode code 180 = .ok (.iload 4, 2) := by decide +kernel
theorem jd_L_182 : decode code 182 = .ok (.iconst 2, 1) := by decide +kernel
theorem jd_L_183 : decode code 183 = .ok (.iadd, 1) := by decide +kernel
theorem jd_L_184 : decode code 184 = .ok (.iaload, 1) := by decide +kernel
theorem jd_L_185 : decode code 185 = .ok (.aload_n 0, 1) := by decide +kernel
theorem jd_L_186 : decode code 186 = .ok (.iload 4, 2) := by decide +kernel
theorem jd_L_188 : decode code 188 = .ok (.iconst 3, 1) := by decide +kernel
theorem jd_L_189 : decode code 189 = .ok (.iadd, 1) := by decide +kernel
theorem jd_L_190 : decode code 190 = .ok (.iaload, 1) := by decide +kernel
theorem jd_L_191 : decode code 191 = .ok (.aload_n 0, 1) := by decide +kernel
theorem jd_L_192 : decode code 192 = .ok (.iload 4, 2) := by decide +kernel
theorem jd_L_194 : decode code 194 = .ok (.iconst 4, 1) := by decide +kernel
theorem jd_L_195 : decode code 195 = .ok (.iadd, 1) := by decide +kernel
theorem jd_L_196 : decode code 196 = .ok (.iaload, 1) := by decide +kernel
theorem jd_L_197 : decode code 197 = .ok (.aload_n 0, 1) := by decide +kernel
theorem jd_L_198 : decode code 198 = .ok (.iload 4, 2) := by decide +kernel
theorem jd_L_200 : decode code 200 = .ok (.iconst 5, 1) := by decide +kernel
theorem jd_L_201 : decode code 201 = .ok (.iadd, 1) := by decide +kernel
theorem jd_L_202 : decode code 202 = .ok (.iaload, 1) := by decide +kernel
theorem jd_L_203 : decode code 203 = .ok (.aload_n 0, 1) := by decide +kernel
theorem jd_L_204 : decode code 204 = .ok (.iload 4, 2) := by decide +kernel
theorem jd_L_206 : decode code 206 = .ok (.bipush 6, 2) := by decide +kernel
theorem jd_L_208 : decode code 208 = .ok (.iadd, 1) := by decide +kernel
theorem jd_L_209 : decode code 209 = .ok (.iaload, 1) := by decide +kernel
theorem jd_L_210 : decode code 210 = .ok (.invokevirtual 65, 3) := by decide +kernel
theorem jd_L_213 : decode code 213 = .ok (.istore 6, 2) := by decide +kernel
theorem jd_L_215 : decode code 215 = .ok (.aload_n 2, 1) := by decide +kernel
theorem jd_L_216 : decode code 216 = .ok (.invokevirtual 66, 3) := by decide +kernel
theorem jd_L_219 : decode code 219 = .ok (.iload 5, 2) := by decide +kernel
theorem jd_L_221 : decode code 221 = .ok (.if_icmp .eq 5, 3) := by decide +kernel
theorem jd_L_224 : decode code 224 = .ok (.iconst 0, 1) := by decide +kernel
theorem jd_L_225 : decode code 225 = .ok (.ireturn, 1) := by decide +kernel
theorem jd_L_226 : decode code 226 = .ok (.iload 5, 2) := by decide +kernel
theorem jd_L_228 : decode code 228 = .ok (.ifCond .ne 15, 3) := by decide +kernel
theorem jd_L_231 : decode code 231 = .ok (.aload_n 3, 1) := by decide +kernel
theorem jd_L_232 : decode code 232 = .ok (.iconst 0, 1) := by decide +kernel
theorem jd_L_233 : decode code 233 = .ok (.laload, 1) := by decide +kernel
theorem jd_L_234 : decode code 234 = .ok (.iload 6, 2) := by decide +kernel
theorem jd_L_236 : decode code 236 = .ok (.i2l, 1) := by decide +kernel
theorem jd_L_237 : decode code 237 = .ok (.lcmp, 1) := by decide +kernel
theorem jd_L_238 : decode code 238 = .ok (.ifCond .eq 5, 3) := by decide +kernel
theorem jd_L_241 : decode code 241 = .ok (.iconst 0, 1) := by decide +kernel
theorem jd_L_242 : decode code 242 = .ok (.ireturn, 1) := by decide +kernel
theorem jd_L_243 : decode code 243 = .ok (.goto 882, 3) := by decide +kernel
theorem jd_L_246 : decode code 246 = .ok (.aload_n 1, 1) := by decide +kernel
theorem jd_L_247 : decode code 247 = .ok (.aload_n 3, 1) := by decide +kernel
theorem jd_L_248 : decode code 248 = .ok (.invokestatic 69, 3) := by decide +kernel
theorem jd_L_251 : decode code 251 = .ok (.istore 5, 2) := by decide +kernel
theorem jd_L_253 : decode code 253 = .ok (.aload_n 2, 1) := by decide +kernel
theorem jd_L_254 : decode code 254 = .ok (.invokevirtual 72, 3) := by decide +kernel
theorem jd_L_257 : decode code 257 = .ok (.istore 6, 2) := by decide +kernel
theorem jd_L_259 : decode code 259 = .ok (.aload_n 2, 1) := by decide +kernel
theorem jd_L_260 : decode code 260 = .ok (.invokevirtual 66, 3) := by decide +kernel
theorem jd_L_263 : decode code 263 = .ok (.iload 5, 2) := by decide +kernel
theorem jd_L_265 : decode code 265 = .ok (.if_icmp .eq 5, 3) := by decide +kernel
theorem jd_L_268 : decode code 268 = .ok (.iconst 0, 1) := by decide +kernel
theorem jd_L_269 : decode code 269 = .ok (.ireturn, 1) := by decide +kernel
theorem jd_L_270 : decode code 270 = .ok (.iload 5, 2) := by decide +kernel
theorem jd_L_272 : decode code 272 = .ok (.ifCond .ne 15, 3) := by decide +kernel
theorem jd_L_275 : decode code 275 = .ok (.aload_n 3, 1) := by decide +kernel
theorem jd_L_276 : decode code 276 = .ok (.iconst 0, 1) := by decide +kernel
theorem jd_L_277 : decode code 277 = .ok (.laload, 1) := by decide +kernel
theorem jd_L_278 : decode code 278 = .ok (.iload 6, 2) := by decide +kernel
theorem jd_L_280 : decode code 280 = .ok (.i2l, 1) := by decide +kernel
theorem jd_L_281 : decode code 281 = .ok (.lcmp, 1) := by decide +kernel
theorem jd_L_282 : decode code 282 = .ok (.ifCond .eq 5, 3) := by decide +kernel
theorem jd_L_285 : decode code 285 = .ok (.iconst 0, 1) := by decide +kernel
theorem jd_L_286 : decode code 286 = .ok (.ireturn, 1) := by decide +kernel
theorem jd_L_287 : decode code 287 = .ok (.goto 838, 3) := by decide +kernel
theorem jd_L_290 : decode code 290 = .ok (.aload_n 1, 1) := by decide +kernel
theorem jd_L_291 : decode code 291 = .ok (.invokevirtual 73, 3) := by decide +kernel
theorem jd_L_294 : decode code 294 = .ok (.aload_n 2, 1) := by decide +kernel
theorem jd_L_295 : decode code 295 = .ok (.invokevirtual 76, 3) := by decide +kernel
theorem jd_L_298 : decode code 298 = .ok (.if_icmp .eq 827, 3) := by decide +kernel
theorem jd_L_301 : decode code 301 = .ok (.iconst 0, 1) := by decide +kernel
theorem jd_L_302 : decode code 302 = .ok (.ireturn, 1) := by decide +kernel
theorem jd_L_303 : decode code 303 = .ok (.aload_n 1, 1) := by decide +kernel
theorem jd_L_304 : decode code 304 = .ok (.aload_n 0, 1) := by decide +kernel
theorem jd_L_305 : decode code 305 = .ok (.iload 4, 2) := by decide +kernel
theorem jd_L_307 : decode code 307 = .ok (.iconst 1, 1) := by decide +kernel
theorem jd_L_308 : decode code 308 = .ok (.iadd, 1) := by decide +kernel
theorem jd_L_309 : decode code 309 = .ok (.iaload, 1) := by decide +kernel
theorem jd_L_310 : decode code 310 = .ok (.i2l, 1) := by decide +kernel
theorem jd_L_311 : decode code 311 = .ok (.bipush 32, 2) := by decide +kernel
theorem jd_L_313 : decode code 313 = .ok (.lshl, 1) := by decide +kernel
theorem jd_L_314 : decode code 314 = .ok (.aload_n 0, 1) := by decide +kernel
theorem jd_L_315 : decode code 315 = .ok (.iload 4, 2) := by decide +kernel
theorem jd_L_317 : decode code 317 = .ok (.iconst 2, 1) := by decide +kernel
theorem jd_L_318 : decode code 318 = .ok (.iadd, 1) := by decide +kernel
theorem jd_L_319 : decode code 319 = .ok (.iaload, 1) := by decide +kernel
theorem jd_L_320 : decode code 320 = .ok (.i2l, 1) := by decide +kernel
theorem jd_L_321 : decode code 321 = .ok (.ldc2_w 77, 3) := by decide +kernel
theorem jd_L_324 : decode code 324 = .ok (.land, 1) := by decide +kernel
theorem jd_L_325 : decode code 325 = .ok (.lor, 1) := by decide +kernel
theorem jd_L_326 : decode code 326 = .ok (.aload_n 0, 1) := by decide +kernel
theorem jd_L_327 : decode code 327 = .ok (.iload 4, 2) := by decide +kernel
theorem jd_L_329 : decode code 329 = .ok (.iconst 3, 1) := by decide +kernel
theorem jd_L_330 : decode code 330 = .ok (.iadd, 1) := by decide +kernel
theorem jd_L_331 : decode code 331 = .ok (.iaload, 1) := by decide +kernel
theorem jd_L_332 : decode code 332 = .ok (.aload_n 3, 1) := by decide +kernel
theorem jd_L_333 : decode code 333 = .ok (.invokestatic 79, 3) := by decide +kernel
theorem jd_L_336 : decode code 336 = .ok (.istore 5, 2) := by decide +kernel
theorem jd_L_338 : decode code 338 = .ok (.aload_n 2, 1) := by decide +kernel
theorem jd_L_339 : decode code 339 = .ok (.aload_n 0, 1) := by decide +kernel
theorem jd_L_340 : decode code 340 = .ok (.iload 4, 2) := by decide +kernel
theorem jd_L_342 : decode code 342 = .ok (.iconst 1, 1) := by decide +kernel
theorem jd_L_343 : decode code 343 = .ok (.iadd, 1) := by decide +kernel
theorem jd_L_344 : decode code 344 = .ok (.iaload, 1) := by decide +kernel
theorem jd_L_345 : decode code 345 = .ok (.i2l, 1) := by decide +kernel
theorem jd_L_346 : decode code 346 = .ok (.bipush 32, 2) := by decide +kernel
theorem jd_L_348 : decode code 348 = .ok (.lshl, 1) := by decide +kernel
theorem jd_L_349 : decode code 349 = .ok (.aload_n 0, 1) := by decide +kernel
theorem jd_L_350 : decode code 350 = .ok (.iload 4, 2) := by decide +kernel
theorem jd_L_352 : decode code 352 = .ok (.iconst 2, 1) := by decide +kernel
theorem jd_L_353 : decode code 353 = .ok (.iadd, 1) := by decide +kernel
theorem jd_L_354 : decode code 354 = .ok (.iaload, 1) := by decide +kernel
theorem jd_L_355 : decode code 355 = .ok (.i2l, 1) := by decide +kernel
theorem jd_L_356 : decode code 356 = .ok (.ldc2_w 77, 3) := by decide +kernel
theorem jd_L_359 : decode code 359 = .ok (.land, 1) := by decide +kernel
theorem jd_L_360 : decode code 360 = .ok (.lor, 1) := by decide +kernel
theorem jd_L_361 : decode code 361 = .ok (.aload_n 0, 1) := by decide +kernel
theorem jd_L_362 : decode code 362 = .ok (.iload 4, 2) := by decide +kernel
theorem jd_L_364 : decode code 364 = .ok (.iconst 3, 1) := by decide +kernel
theorem jd_L_365 : decode code 365 = .ok (.iadd, 1) := by decide +kernel
theorem jd_L_366 : decode code 366 = .ok (.iaload, 1) := by decide +kernel
theorem jd_L_367 : decode code 367 = .ok (.invokevirtual 82, 3) := by decide +kernel
theorem jd_L_370 : decode code 370 = .ok (.istore 6, 2) := by decide +kernel
theorem jd_L_372 : decode code 372 = .ok (.aload_n 2, 1) := by decide +kernel
theorem jd_L_373 : decode code 373 = .ok (.invokevirtual 66, 3) := by decide +kernel
theorem jd_L_376 : decode code 376 = .ok (.iload 5, 2) := by decide +kernel
theorem jd_L_378 : decode code 378 = .ok (.if_icmp .eq 5, 3) := by decide +kernel
theorem jd_L_381 : decode code 381 = .ok (.iconst 0, 1) := by decide +kernel
theorem jd_L_382 : decode code 382 = .ok (.ireturn, 1) := by decide +kernel
theorem jd_L_383 : decode code 383 = .ok (.iload 5, 2) := by decide +kernel
theorem jd_L_385 : decode code 385 = .ok (.ifCond .ne 15, 3) := by decide +kernel
theorem jd_L_388 : decode code 388 = .ok (.aload_n 3, 1) := by decide +kernel
theorem jd_L_389 : decode code 389 = .ok (.iconst 0, 1) := by decide +kernel
theorem jd_L_390 : decode code 390 = .ok (.laload, 1) := by decide +kernel
theorem jd_L_391 : decode code 391 = .ok (.iload 6, 2) := by decide +kernel
theorem jd_L_393 : decode code 393 = .ok (.i2l, 1) := by decide +kernel
theorem jd_L_394 : decode code 394 = .ok (.lcmp, 1) := by decide +kernel
theorem jd_L_395 : decode code 395 = .ok (.ifCond .eq 5, 3) := by decide +kernel
theorem jd_L_398 : decode code 398 = .ok (.iconst 0, 1) := by decide +kernel
theorem jd_L_399 : decode code 399 = .ok (.ireturn, 1) := by decide +kernel
theorem jd_L_400 : decode code 400 = .ok (.goto 725, 3) := by decide +kernel
theorem jd_L_403 : decode code 403 = .ok (.aload_n 1, 1) := by decide +kernel
theorem jd_L_404 : decode code 404 = .ok (.aload_n 0, 1) := by decide +kernel
theorem jd_L_405 : decode code 405 = .ok (.iload 4, 2) := by decide +kernel
theorem jd_L_407 : decode code 407 = .ok (.iconst 1, 1) := by decide +kernel
theorem jd_L_408 : decode code 408 = .ok (.iadd, 1) := by decide +kernel
theorem jd_L_409 : decode code 409 = .ok (.iaload, 1) := by decide +kernel
theorem jd_L_410 : decode code 410 = .ok (.invokevirtual 83, 3) := by decide +kernel
theorem jd_L_413 : decode code 413 = .ok (.aload_n 2, 1) := by decide +kernel
theorem jd_L_414 : decode code 414 = .ok (.aload_n 0, 1) := by decide +kernel
theorem jd_L_415 : decode code 415 = .ok (.iload 4, 2) := by decide +kernel
theorem jd_L_417 : decode code 417 = .ok (.iconst 1, 1) := by decide +kernel
theorem jd_L_418 : decode code 418 = .ok (.iadd, 1) := by decide +kernel
theorem jd_L_419 : decode code 419 = .ok (.iaload, 1) := by decide +kernel
theorem jd_L_420 : decode code 420 = .ok (.invokevirtual 87, 3) := by decide +kernel
theorem jd_L_423 : decode code 423 = .ok (.if_icmp .eq 702, 3) := by decide +kernel
theorem jd_L_426 : decode code 426 = .ok (.iconst 0, 1) := by decide +kernel
theorem jd_L_427 : decode code 427 = .ok (.ireturn, 1) := by decide +kernel
theorem jd_L_428 : decode code 428 = .ok (.aload_n 1, 1) := by decide +kernel
theorem jd_L_429 : decode code 429 = .ok (.aload_n 0, 1) := by decide +kernel
theorem jd_L_430 : decode code 430 = .ok (.iload 4, 2) := by decide +kernel
theorem jd_L_432 : decode code 432 = .ok (.iconst 1, 1) := by decide +kernel
theorem jd_L_433 : decode code 433 = .ok (.iadd, 1) := by decide +kernel
theorem jd_L_434 : decode code 434 = .ok (.iaload, 1) := by decide +kernel
theorem jd_L_435 : decode code 435 = .ok (.aload_n 0, 1) := by decide +kernel
theorem jd_L_436 : decode code 436 = .ok (.iload 4, 2) := by decide +kernel
theorem jd_L_438 : decode code 438 = .ok (.iconst 2, 1) := by decide +kernel
theorem jd_L_439 : decode code 439 = .ok (.iadd, 1) := by decide +kernel
theorem jd_L_440 : decode code 440 = .ok (.iaload, 1) := by decide +kernel
theorem jd_L_441 : decode code 441 = .ok (.i2l, 1) := by decide +kernel
theorem jd_L_442 : decode code 442 = .ok (.bipush 32, 2) := by decide +kernel
theorem jd_L_444 : decode code 444 = .ok (.lshl, 1) := by decide +kernel
theorem jd_L_445 : decode code 445 = .ok (.aload_n 0, 1) := by decide +kernel
theorem jd_L_446 : decode code 446 = .ok (.iload 4, 2) := by decide +kernel
theorem jd_L_448 : decode code 448 = .ok (.iconst 3, 1) := by decide +kernel
theorem jd_L_449 : decode code 449 = .ok (.iadd, 1) := by decide +kernel
theorem jd_L_450 : decode code 450 = .ok (.iaload, 1) := by decide +kernel
theorem jd_L_451 : decode code 451 = .ok (.i2l, 1) := by decide +kernel
theorem jd_L_452 : decode code 452 = .ok (.ldc2_w 77, 3) := by decide +kernel
theorem jd_L_455 : decode code 455 = .ok (.land, 1) := by decide +kernel
theorem jd_L_456 : decode code 456 = .ok (.lor, 1) := by decide +kernel
theorem jd_L_457 : decode code 457 = .ok (.aload_n 3, 1) := by decide +kernel
theorem jd_L_458 : decode code 458 = .ok (.invokestatic 88, 3) := by decide +kernel
theorem jd_L_461 : decode code 461 = .ok (.istore 5, 2) := by decide +kernel
theorem jd_L_463 : decode code 463 = .ok (.aload_n 2, 1) := by decide +kernel
theorem jd_L_464 : decode code 464 = .ok (.aload_n 0, 1) := by decide +kernel
theorem jd_L_465 : decode code 465 = .ok (.iload 4, 2) := by decide +kernel
theorem jd_L_467 : decode code 467 = .ok (.iconst 1, 1) := by decide +kernel
theorem jd_L_468 : decode code 468 = .ok (.iadd, 1) := by decide +kernel
theorem jd_L_469 : decode code 469 = .ok (.iaload, 1) := by decide +kernel
theorem jd_L_470 : decode code 470 = .ok (.aload_n 0, 1) := by decide +kernel
theorem jd_L_471 : decode code 471 = .ok (.iload 4, 2) := by decide +kernel
theorem jd_L_473 : decode code 473 = .ok (.iconst 2, 1) := by decide +kernel
theorem jd_L_474 : decode code 474 = .ok (.iadd, 1) := by decide +kernel
theorem jd_L_475 : decode code 475 = .ok (.iaload, 1) := by decide +kernel
theorem jd_L_476 : decode code 476 = .ok (.i2l, 1) := by decide +kernel
theorem jd_L_477 : decode code 477 = .ok (.bipush 32, 2) := by decide +kernel
theorem jd_L_479 : decode code 479 = .ok (.lshl, 1) := by decide +kernel
theorem jd_L_480 : decode code 480 = .ok (.aload_n 0, 1) := by decide +kernel
theorem jd_L_481 : decode code 481 = .ok (.iload 4, 2) := by decide +kernel
theorem jd_L_483 : decode code 483 = .ok (.iconst 3, 1) := by decide +kernel
theorem jd_L_484 : decode code 484 = .ok (.iadd, 1) := by decide +kernel
theorem jd_L_485 : decode code 485 = .ok (.iaload, 1) := by decide +kernel
theorem jd_L_486 : decode code 486 = .ok (.i2l, 1) := by decide +kernel
theorem jd_L_487 : decode code 487 = .ok (.ldc2_w 77, 3) := by decide +kernel
theorem jd_L_490 : decode code 490 = .ok (.land, 1) := by decide +kernel
theorem jd_L_491 : decode code 491 = .ok (.lor, 1) := by decide +kernel
theorem jd_L_492 : decode code 492 = .ok (.invokevirtual 91, 3) := by decide +kernel
theorem jd_L_495 : decode code 495 = .ok (.istore 6, 2) := by decide +kernel
theorem jd_L_497 : decode code 497 = .ok (.aload_n 2, 1) := by decide +kernel
theorem jd_L_498 : decode code 498 = .ok (.invokevirtual 66, 3) := by decide +kernel
theorem jd_L_501 : decode code 501 = .ok (.iload 5, 2) := by decide +kernel
theorem jd_L_503 : decode code 503 = .ok (.if_icmp .eq 5, 3) := by decide +kernel
theorem jd_L_506 : decode code 506 = .ok (.iconst 0, 1) := by decide +kernel
theorem jd_L_507 : decode code 507 = .ok (.ireturn, 1) := by decide +kernel
theorem jd_L_508 : decode code 508 = .ok (.iload 5, 2) := by decide +kernel
theorem jd_L_510 : decode code 510 = .ok (.ifCond .ne 15, 3) := by decide +kernel
theorem jd_L_513 : decode code 513 = .ok (.aload_n 3, 1) := by decide +kernel
theorem jd_L_514 : decode code 514 = .ok (.iconst 0, 1) := by decide +kernel
theorem jd_L_515 : decode code 515 = .ok (.laload, 1) := by decide +kernel
theorem jd_L_516 : decode code 516 = .ok (.iload 6, 2) := by decide +kernel
theorem jd_L_518 : decode code 518 = .ok (.i2l, 1) := by decide +kernel
theorem jd_L_519 : decode code 519 = .ok (.lcmp, 1) := by decide +kernel
theorem jd_L_520 : decode code 520 = .ok (.ifCond .eq 5, 3) := by decide +kernel
theorem jd_L_523 : decode code 523 = .ok (.iconst 0, 1) := by decide +kernel
theorem jd_L_524 : decode code 524 = .ok (.ireturn, 1) := by decide +kernel
theorem jd_L_525 : decode code 525 = .ok (.goto 600, 3) := by decide +kernel
theorem jd_L_528 : decode code 528 = .ok (.aload_n 1, 1) := by decide +kernel
theorem jd_L_529 : decode code 529 = .ok (.aload_n 0, 1) := by decide +kernel
theorem jd_L_530 : decode code 530 = .ok (.iload 4, 2) := by decide +kernel
theorem jd_L_532 : decode code 532 = .ok (.iconst 1, 1) := by decide +kernel
theorem jd_L_533 : decode code 533 = .ok (.iadd, 1) := by decide +kernel
theorem jd_L_534 : decode code 534 = .ok (.iaload, 1) := by decide +kernel
theorem jd_L_535 : decode code 535 = .ok (.aload_n 0, 1) := by decide +kernel
theorem jd_L_536 : decode code 536 = .ok (.iload 4, 2) := by decide +kernel
theorem jd_L_538 : decode code 538 = .ok (.iconst 2, 1) := by decide +kernel
theorem jd_L_539 : decode code 539 = .ok (.iadd, 1) := by decide +kernel
theorem jd_L_540 : decode code 540 = .ok (.iaload, 1) := by decide +kernel
theorem jd_L_541 : decode code 541 = .ok (.aload_n 3, 1) := by decide +kernel
theorem jd_L_542 : decode code 542 = .ok (.invokestatic 92, 3) := by decide +kernel
theorem jd_L_545 : decode code 545 = .ok (.istore 5, 2) := by decide +kernel
theorem jd_L_547 : decode code 547 = .ok (.aload_n 2, 1) := by decide +kernel
theorem jd_L_548 : decode code 548 = .ok (.aload_n 0, 1) := by decide +kernel
theorem jd_L_549 : decode code 549 = .ok (.iload 4, 2) := by decide +kernel
theorem jd_L_551 : decode code 551 = .ok (.iconst 1, 1) := by decide +kernel
theorem jd_L_552 : decode code 552 = .ok (.iadd, 1) := by decide +kernel
theorem jd_L_553 : decode code 553 = .ok (.iaload, 1) := by decide +kernel
theorem jd_L_554 : decode code 554 = .ok (.aload_n 0, 1) := by decide +kernel
theorem jd_L_555 : decode code 555 = .ok (.iload 4, 2) := by decide +kernel
theorem jd_L_557 : decode code 557 = .ok (.iconst 2, 1) := by decide +kernel
theorem jd_L_558 : decode code 558 = .ok (.iadd, 1) := by decide +kernel
theorem jd_L_559 : decode code 559 = .ok (.iaload, 1) := by decide +kernel
theorem jd_L_560 : decode code 560 = .ok (.invokevirtual 95, 3) := by decide +kernel
theorem jd_L_563 : decode code 563 = .ok (.istore 6, 2) := by decide +kernel
theorem jd_L_565 : decode code 565 = .ok (.aload_n 2, 1) := by decide +kernel
theorem jd_L_566 : decode code 566 = .ok (.invokevirtual 66, 3) := by decide +kernel
theorem jd_L_569 : decode code 569 = .ok (.iload 5, 2) := by decide +kernel
theorem jd_L_571 : decode code 571 = .ok (.if_icmp .eq 5, 3) := by decide +kernel
theorem jd_L_574 : decode code 574 = .ok (.iconst 0, 1) := by decide +kernel
theorem jd_L_575 : decode code 575 = .ok (.ireturn, 1) := by decide +kernel
theorem jd_L_576 : decode code 576 = .ok (.iload 5, 2) := by decide +kernel
theorem jd_L_578 : decode code 578 = .ok (.ifCond .ne 15, 3) := by decide +kernel
theorem jd_L_581 : decode code 581 = .ok (.aload_n 3, 1) := by decide +kernel
theorem jd_L_582 : decode code 582 = .ok (.iconst 0, 1) := by decide +kernel
theorem jd_L_583 : decode code 583 = .ok (.laload, 1) := by decide +kernel
theorem jd_L_584 : decode code 584 = .ok (.iload 6, 2) := by decide +kernel
theorem jd_L_586 : decode code 586 = .ok (.i2l, 1) := by decide +kernel
theorem jd_L_587 : decode code 587 = .ok (.lcmp, 1) := by decide +kernel
theorem jd_L_588 : decode code 588 = .ok (.ifCond .eq 5, 3) := by decide +kernel
theorem jd_L_591 : decode code 591 = .ok (.iconst 0, 1) := by decide +kernel
theorem jd_L_592 : decode code 592 = .ok (.ireturn, 1) := by decide +kernel
theorem jd_L_593 : decode code 593 = .ok (.goto 532, 3) := by decide +kernel
theorem jd_L_596 : decode code 596 = .ok (.aload_n 1, 1) := by decide +kernel
theorem jd_L_597 : decode code 597 = .ok (.aload_n 0, 1) := by decide +kernel
theorem jd_L_598 : decode code 598 = .ok (.iload 4, 2) := by decide +kernel
theorem jd_L_600 : decode code 600 = .ok (.iconst 1, 1) := by decide +kernel
theorem jd_L_601 : decode code 601 = .ok (.iadd, 1) := by decide +kernel
theorem jd_L_602 : decode code 602 = .ok (.iaload, 1) := by decide +kernel
theorem jd_L_603 : decode code 603 = .ok (.aload_n 0, 1) := by decide +kernel
theorem jd_L_604 : decode code 604 = .ok (.iload 4, 2) := by decide +kernel
theorem jd_L_606 : decode code 606 = .ok (.iconst 2, 1) := by decide +kernel
theorem jd_L_607 : decode code 607 = .ok (.iadd, 1) := by decide +kernel
theorem jd_L_608 : decode code 608 = .ok (.iaload, 1) := by decide +kernel
theorem jd_L_609 : decode code 609 = .ok (.invokevirtual 96, 3) := by decide +kernel
theorem jd_L_612 : decode code 612 = .ok (.aload_n 2, 1) := by decide +kernel
theorem jd_L_613 : decode code 613 = .ok (.aload_n 0, 1) := by decide +kernel
theorem jd_L_614 : decode code 614 = .ok (.iload 4, 2) := by decide +kernel
theorem jd_L_616 : decode code 616 = .ok (.iconst 1, 1) := by decide +kernel
theorem jd_L_617 : decode code 617 = .ok (.iadd, 1) := by decide +kernel
theorem jd_L_618 : decode code 618 = .ok (.iaload, 1) := by decide +kernel
theorem jd_L_619 : decode code 619 = .ok (.aload_n 0, 1) := by decide +kernel
theorem jd_L_620 : decode code 620 = .ok (.iload 4, 2) := by decide +kernel
theorem jd_L_622 : decode code 622 = .ok (.iconst 2, 1) := by decide +kernel
theorem jd_L_623 : decode code 623 = .ok (.iadd, 1) := by decide +kernel
theorem jd_L_624 : decode code 624 = .ok (.iaload, 1) := by decide +kernel
theorem jd_L_625 : decode code 625 = .ok (.invokevirtual 99, 3) := by decide +kernel
theorem jd_L_628 : decode code 628 = .ok (.if_icmp .eq 497, 3) := by decide +kernel
theorem jd_L_631 : decode code 631 = .ok (.iconst 0, 1) := by decide +kernel
theorem jd_L_632 : decode code 632 = .ok (.ireturn, 1) := by decide +kernel
theorem jd_L_633 : decode code 633 = .ok (.aload_n 1, 1) := by decide +kernel
theorem jd_L_634 : decode code 634 = .ok (.aload_n 3, 1) := by decide +kernel
theorem jd_L_635 : decode code 635 = .ok (.invokestatic 100, 3) := by decide +kernel
theorem jd_L_638 : decode code 638 = .ok (.istore 5, 2) := by decide +kernel
theorem jd_L_640 : decode code 640 = .ok (.aload_n 2, 1) := by decide +kernel
theorem jd_L_641 : decode code 641 = .ok (.invokevirtual 102, 3) := by decide +kernel
theorem jd_L_644 : decode code 644 = .ok (.istore 6, 2) := by decide +kernel
theorem jd_L_646 : decode code 646 = .ok (.aload_n 2, 1) := by decide +kernel
theorem jd_L_647 : decode code 647 = .ok (.invokevirtual 66, 3) := by decide +kernel
theorem jd_L_650 : decode code 650 = .ok (.iload 5, 2) := by decide +kernel
theorem jd_L_652 : decode code 652 = .ok (.if_icmp .eq 5, 3) := by decide +kernel
theorem jd_L_655 : decode code 655 = .ok (.iconst 0, 1) := by decide +kernel
theorem jd_L_656 : decode code 656 = .ok (.ireturn, 1) := by decide +kernel
theorem jd_L_657 : decode code 657 = .ok (.iload 5, 2) := by decide +kernel
theorem jd_L_659 : decode code 659 = .ok (.ifCond .ne 15, 3) := by decide +kernel
theorem jd_L_662 : decode code 662 = .ok (.aload_n 3, 1) := by decide +kernel
theorem jd_L_663 : decode code 663 = .ok (.iconst 0, 1) := by decide +kernel
theorem jd_L_664 : decode code 664 = .ok (.laload, 1) := by decide +kernel
theorem jd_L_665 : decode code 665 = .ok (.iload 6, 2) := by decide +kernel
theorem jd_L_667 : decode code 667 = .ok (.i2l, 1) := by decide +kernel
theorem jd_L_668 : decode code 668 = .ok (.lcmp, 1) := by decide +kernel
theorem jd_L_669 : decode code 669 = .ok (.ifCond .eq 5, 3) := by decide +kernel
theorem jd_L_672 : decode code 672 = .ok (.iconst 0, 1) := by decide +kernel
theorem jd_L_673 : decode code 673 = .ok (.ireturn, 1) := by decide +kernel
theorem jd_L_674 : decode code 674 = .ok (.goto 451, 3) := by decide +kernel
theorem jd_L_677 : decode code 677 = .ok (.aload_n 1, 1) := by decide +kernel
theorem jd_L_678 : decode code 678 = .ok (.invokevirtual 103, 3) := by decide +kernel
theorem jd_L_681 : decode code 681 = .ok (.aload_n 2, 1) := by decide +kernel
theorem jd_L_682 : decode code 682 = .ok (.invokevirtual 107, 3) := by decide +kernel
theorem jd_L_685 : decode code 685 = .ok (.if_icmp .eq 440, 3) := by decide +kernel
theorem jd_L_688 : decode code 688 = .ok (.iconst 0, 1) := by decide +kernel
theorem jd_L_689 : decode code 689 = .ok (.ireturn, 1) := by decide +kernel
theorem jd_L_690 : decode code 690 = .ok (.aload_n 1, 1) := by decide +kernel
theorem jd_L_691 : decode code 691 = .ok (.invokevirtual 108, 3) := by decide +kernel
theorem jd_L_694 : decode code 694 = .ok (.aload_n 2, 1) := by decide +kernel
theorem jd_L_695 : decode code 695 = .ok (.invokevirtual 111, 3) := by decide +kernel
theorem jd_L_698 : decode code 698 = .ok (.if_icmp .eq 427, 3) := by decide +kernel
theorem jd_L_701 : decode code 701 = .ok (.iconst 0, 1) := by decide +kernel
theorem jd_L_702 : decode code 702 = .ok (.ireturn, 1) := by decide +kernel
theorem jd_L_703 : decode code 703 = .ok (.aload_n 1, 1) := by decide +kernel
theorem jd_L_704 : decode code 704 = .ok (.invokevirtual 112, 3) := by decide +kernel
theorem jd_L_707 : decode code 707 = .ok (.aload_n 2, 1) := by decide +kernel
theorem jd_L_708 : decode code 708 = .ok (.invokevirtual 115, 3) := by decide +kernel
theorem jd_L_711 : decode code 711 = .ok (.if_icmp .eq 414, 3) := by decide +kernel
theorem jd_L_714 : decode code 714 = .ok (.iconst 0, 1) := by decide +kernel
theorem jd_L_715 : decode code 715 = .ok (.ireturn, 1) := by decide +kernel
theorem jd_L_716 : decode code 716 = .ok (.aload_n 1, 1) := by decide +kernel
theorem jd_L_717 : decode code 717 = .ok (.aload_n 0, 1) := by decide +kernel
theorem jd_L_718 : decode code 718 = .ok (.iload 4, 2) := by decide +kernel
theorem jd_L_720 : decode code 720 = .ok (.iconst 1, 1) := by decide +kernel
theorem jd_L_721 : decode code 721 = .ok (.iadd, 1) := by decide +kernel
theorem jd_L_722 : decode code 722 = .ok (.iaload, 1) := by decide +kernel
theorem jd_L_723 : decode code 723 = .ok (.invokevirtual 116, 3) := by decide +kernel
theorem jd_L_726 : decode code 726 = .ok (.aload_n 2, 1) := by decide +kernel
theorem jd_L_727 : decode code 727 = .ok (.aload_n 0, 1) := by decide +kernel
theorem jd_L_728 : decode code 728 = .ok (.iload 4, 2) := by decide +kernel
theorem jd_L_730 : decode code 730 = .ok (.iconst 1, 1) := by decide +kernel
theorem jd_L_731 : decode code 731 = .ok (.iadd, 1) := by decide +kernel
theorem jd_L_732 : decode code 732 = .ok (.iaload, 1) := by decide +kernel
theorem jd_L_733 : decode code 733 = .ok (.invokevirtual 119, 3) := by decide +kernel
theorem jd_L_736 : decode code 736 = .ok (.if_icmp .eq 389, 3) := by decide +kernel
theorem jd_L_739 : decode code 739 = .ok (.iconst 0, 1) := by decide +kernel
theorem jd_L_740 : decode code 740 = .ok (.ireturn, 1) := by decide +kernel
theorem jd_L_741 : decode code 741 = .ok (.aload_n 1, 1) := by decide +kernel
theorem jd_L_742 : decode code 742 = .ok (.aload_n 0, 1) := by decide +kernel
theorem jd_L_743 : decode code 743 = .ok (.iload 4, 2) := by decide +kernel
theorem jd_L_745 : decode code 745 = .ok (.iconst 1, 1) := by decide +kernel
theorem jd_L_746 : decode code 746 = .ok (.iadd, 1) := by decide +kernel
theorem jd_L_747 : decode code 747 = .ok (.iaload, 1) := by decide +kernel
theorem jd_L_748 : decode code 748 = .ok (.aload_n 0, 1) := by decide +kernel
theorem jd_L_749 : decode code 749 = .ok (.iload 4, 2) := by decide +kernel
theorem jd_L_751 : decode code 751 = .ok (.iconst 2, 1) := by decide +kernel
theorem jd_L_752 : decode code 752 = .ok (.iadd, 1) := by decide +kernel
theorem jd_L_753 : decode code 753 = .ok (.iaload, 1) := by decide +kernel
theorem jd_L_754 : decode code 754 = .ok (.aload_n 3, 1) := by decide +kernel
theorem jd_L_755 : decode code 755 = .ok (.invokestatic 120, 3) := by decide +kernel
theorem jd_L_758 : decode code 758 = .ok (.istore 5, 2) := by decide +kernel
theorem jd_L_760 : decode code 760 = .ok (.aload_n 2, 1) := by decide +kernel
theorem jd_L_761 : decode code 761 = .ok (.aload_n 0, 1) := by decide +kernel
theorem jd_L_762 : decode code 762 = .ok (.iload 4, 2) := by decide +kernel
theorem jd_L_764 : decode code 764 = .ok (.iconst 1, 1) := by decide +kernel
theorem jd_L_765 : decode code 765 = .ok (.iadd, 1) := by decide +kernel
theorem jd_L_766 : decode code 766 = .ok (.iaload, 1) := by decide +kernel
theorem jd_L_767 : decode code 767 = .ok (.aload_n 0, 1) := by decide +kernel
theorem jd_L_768 : decode code 768 = .ok (.iload 4, 2) := by decide +kernel
theorem jd_L_770 : decode code 770 = .ok (.iconst 2, 1) := by decide +kernel
theorem jd_L_771 : decode code 771 = .ok (.iadd, 1) := by decide +kernel
theorem jd_L_772 : decode code 772 = .ok (.iaload, 1) := by decide +kernel
theorem jd_L_773 : decode code 773 = .ok (.invokevirtual 122, 3) := by decide +kernel
theorem jd_L_776 : decode code 776 = .ok (.istore 6, 2) := by decide +kernel
theorem jd_L_778 : decode code 778 = .ok (.aload_n 2, 1) := by decide +kernel
theorem jd_L_779 : decode code 779 = .ok (.invokevirtual 66, 3) := by decide +kernel
theorem jd_L_782 : decode code 782 = .ok (.iload 5, 2) := by decide +kernel
theorem jd_L_784 : decode code 784 = .ok (.if_icmp .eq 5, 3) := by decide +kernel
theorem jd_L_787 : decode code 787 = .ok (.iconst 0, 1) := by decide +kernel
theorem jd_L_788 : decode code 788 = .ok (.ireturn, 1) := by decide +kernel
theorem jd_L_789 : decode code 789 = .ok (.iload 5, 2) := by decide +kernel
theorem jd_L_791 : decode code 791 = .ok (.ifCond .ne 15, 3) := by decide +kernel
theorem jd_L_794 : decode code 794 = .ok (.aload_n 3, 1) := by decide +kernel
theorem jd_L_795 : decode code 795 = .ok (.iconst 0, 1) := by decide +kernel
theorem jd_L_796 : decode code 796 = .ok (.laload, 1) := by decide +kernel
theorem jd_L_797 : decode code 797 = .ok (.iload 6, 2) := by decide +kernel
theorem jd_L_799 : decode code 799 = .ok (.i2l, 1) := by decide +kernel
theorem jd_L_800 : decode code 800 = .ok (.lcmp, 1) := by decide +kernel
theorem jd_L_801 : decode code 801 = .ok (.ifCond .eq 5, 3) := by decide +kernel
theorem jd_L_804 : decode code 804 = .ok (.iconst 0, 1) := by decide +kernel
theorem jd_L_805 : decode code 805 = .ok (.ireturn, 1) := by decide +kernel
theorem jd_L_806 : decode code 806 = .ok (.goto 319, 3) := by decide +kernel
theorem jd_L_809 : decode code 809 = .ok (.aload_n 1, 1) := by decide +kernel
theorem jd_L_810 : decode code 810 = .ok (.aload_n 0, 1) := by decide +kernel
theorem jd_L_811 : decode code 811 = .ok (.iload 4, 2) := by decide +kernel
theorem jd_L_813 : decode code 813 = .ok (.iconst 1, 1) := by decide +kernel
theorem jd_L_814 : decode code 814 = .ok (.iadd, 1) := by decide +kernel
theorem jd_L_815 : decode code 815 = .ok (.iaload, 1) := by decide +kernel
theorem jd_L_816 : decode code 816 = .ok (.aload_n 0, 1) := by decide +kernel
theorem jd_L_817 : decode code 817 = .ok (.iload 4, 2) := by decide +kernel
theorem jd_L_819 : decode code 819 = .ok (.iconst 2, 1) := by decide +kernel
theorem jd_L_820 : decode code 820 = .ok (.iadd, 1) := by decide +kernel
theorem jd_L_821 : decode code 821 = .ok (.iaload, 1) := by decide +kernel
theorem jd_L_822 : decode code 822 = .ok (.aload_n 3, 1) := by decide +kernel
theorem jd_L_823 : decode code 823 = .ok (.invokestatic 123, 3) := by decide +kernel
theorem jd_L_826 : decode code 826 = .ok (.istore 5, 2) := by decide +kernel
theorem jd_L_828 : decode code 828 = .ok (.aload_n 2, 1) := by decide +kernel
theorem jd_L_829 : decode code 829 = .ok (.aload_n 0, 1) := by decide +kernel
theorem jd_L_830 : decode code 830 = .ok (.iload 4, 2) := by decide +kernel
theorem jd_L_832 : decode code 832 = .ok (.iconst 1, 1) := by decide +kernel
theorem jd_L_833 : decode code 833 = .ok (.iadd, 1) := by decide +kernel
theorem jd_L_834 : decode code 834 = .ok (.iaload, 1) := by decide +kernel
theorem jd_L_835 : decode code 835 = .ok (.aload_n 0, 1) := by decide +kernel
theorem jd_L_836 : decode code 836 = .ok (.iload 4, 2) := by decide +kernel
theorem jd_L_838 : decode code 838 = .ok (.iconst 2, 1) := by decide +kernel
theorem jd_L_839 : decode code 839 = .ok (.iadd, 1) := by decide +kernel
theorem jd_L_840 : decode code 840 = .ok (.iaload, 1) := by decide +kernel
theorem jd_L_841 : decode code 841 = .ok (.invokevirtual 125, 3) := by decide +kernel
theorem jd_L_844 : decode code 844 = .ok (.istore 6, 2) := by decide +kernel
theorem jd_L_846 : decode code 846 = .ok (.aload_n 2, 1) := by decide +kernel
theorem jd_L_847 : decode code 847 = .ok (.invokevirtual 66, 3) := by decide +kernel
theorem jd_L_850 : decode code 850 = .ok (.iload 5, 2) := by decide +kernel
theorem jd_L_852 : decode code 852 = .ok (.if_icmp .eq 5, 3) := by decide +kernel
theorem jd_L_855 : decode code 855 = .ok (.iconst 0, 1) := by decide +kernel
theorem jd_L_856 : decode code 856 = .ok (.ireturn, 1) := by decide +kernel
theorem jd_L_857 : decode code 857 = .ok (.iload 5, 2) := by decide +kernel
theorem jd_L_859 : decode code 859 = .ok (.ifCond .ne 15, 3) := by decide +kernel
theorem jd_L_862 : decode code 862 = .ok (.aload_n 3, 1) := by decide +kernel
theorem jd_L_863 : decode code 863 = .ok (.iconst 0, 1) := by decide +kernel
theorem jd_L_864 : decode code 864 = .ok (.laload, 1) := by decide +kernel
theorem jd_L_865 : decode code 865 = .ok (.iload 6, 2) := by decide +kernel
theorem jd_L_867 : decode code 867 = .ok (.i2l, 1) := by decide +kernel
theorem jd_L_868 : decode code 868 = .ok (.lcmp, 1) := by decide +kernel
theorem jd_L_869 : decode code 869 = .ok (.ifCond .eq 5, 3) := by decide +kernel
theorem jd_L_872 : decode code 872 = .ok (.iconst 0, 1) := by decide +kernel
theorem jd_L_873 : decode code 873 = .ok (.ireturn, 1) := by decide +kernel
theorem jd_L_874 : decode code 874 = .ok (.goto 251, 3) := by decide +kernel
theorem jd_L_877 : decode code 877 = .ok (.aload_n 1, 1) := by decide +kernel
theorem jd_L_878 : decode code 878 = .ok (.aload_n 0, 1) := by decide +kernel
theorem jd_L_879 : decode code 879 = .ok (.iload 4, 2) := by decide +kernel
theorem jd_L_881 : decode code 881 = .ok (.iconst 1, 1) := by decide +kernel
theorem jd_L_882 : decode code 882 = .ok (.iadd, 1) := by decide +kernel
theorem jd_L_883 : decode code 883 = .ok (.iaload, 1) := by decide +kernel
theorem jd_L_884 : decode code 884 = .ok (.aload_n 0, 1) := by decide +kernel
theorem jd_L_885 : decode code 885 = .ok (.iload 4, 2) := by decide +kernel
theorem jd_L_887 : decode code 887 = .ok (.iconst 2, 1) := by decide +kernel
theorem jd_L_888 : decode code 888 = .ok (.iadd, 1) := by decide +kernel
theorem jd_L_889 : decode code 889 = .ok (.iaload, 1) := by decide +kernel
theorem jd_L_890 : decode code 890 = .ok (.aload_n 3, 1) := by decide +kernel
theorem jd_L_891 : decode code 891 = .ok (.invokestatic 126, 3) := by decide +kernel
theorem jd_L_894 : decode code 894 = .ok (.istore 5, 2) := by decide +kernel
theorem jd_L_896 : decode code 896 = .ok (.aload_n 2, 1) := by decide +kernel
theorem jd_L_897 : decode code 897 = .ok (.aload_n 0, 1) := by decide +kernel
theorem jd_L_898 : decode code 898 = .ok (.iload 4, 2) := by decide +kernel
theorem jd_L_900 : decode code 900 = .ok (.iconst 1, 1) := by decide +kernel
theorem jd_L_901 : decode code 901 = .ok (.iadd, 1) := by decide +kernel
theorem jd_L_902 : decode code 902 = .ok (.iaload, 1) := by decide +kernel
theorem jd_L_903 : decode code 903 = .ok (.aload_n 0, 1) := by decide +kernel
theorem jd_L_904 : decode code 904 = .ok (.iload 4, 2) := by decide +kernel
theorem jd_L_906 : decode code 906 = .ok (.iconst 2, 1) := by decide +kernel
theorem jd_L_907 : decode code 907 = .ok (.iadd, 1) := by decide +kernel
theorem jd_L_908 : decode code 908 = .ok (.iaload, 1) := by decide +kernel
theorem jd_L_909 : decode code 909 = .ok (.invokevirtual 128, 3) := by decide +kernel
theorem jd_L_912 : decode code 912 = .ok (.istore 6, 2) := by decide +kernel
theorem jd_L_914 : decode code 914 = .ok (.aload_n 2, 1) := by decide +kernel
theorem jd_L_915 : decode code 915 = .ok (.invokevirtual 66, 3) := by decide +kernel
theorem jd_L_918 : decode code 918 = .ok (.iload 5, 2) := by decide +kernel
theorem jd_L_920 : decode code 920 = .ok (.if_icmp .eq 5, 3) := by decide +kernel
theorem jd_L_923 : decode code 923 = .ok (.iconst 0, 1) := by decide +kernel
theorem jd_L_924 : decode code 924 = .ok (.ireturn, 1) := by decide +kernel
theorem jd_L_925 : decode code 925 = .ok (.iload 5, 2) := by decide +kernel
theorem jd_L_927 : decode code 927 = .ok (.ifCond .ne 15, 3) := by decide +kernel
theorem jd_L_930 : decode code 930 = .ok (.aload_n 3, 1) := by decide +kernel
theorem jd_L_931 : decode code 931 = .ok (.iconst 0, 1) := by decide +kernel
theorem jd_L_932 : decode code 932 = .ok (.laload, 1) := by decide +kernel
theorem jd_L_933 : decode code 933 = .ok (.iload 6, 2) := by decide +kernel
theorem jd_L_935 : decode code 935 = .ok (.i2l, 1) := by decide +kernel
theorem jd_L_936 : decode code 936 = .ok (.lcmp, 1) := by decide +kernel
theorem jd_L_937 : decode code 937 = .ok (.ifCond .eq 5, 3) := by decide +kernel
theorem jd_L_940 : decode code 940 = .ok (.iconst 0, 1) := by decide +kernel
theorem jd_L_941 : decode code 941 = .ok (.ireturn, 1) := by decide +kernel
theorem jd_L_942 : decode code 942 = .ok (.goto 183, 3) := by decide +kernel
theorem jd_L_945 : decode code 945 = .ok (.aload_n 1, 1) := by decide +kernel
theorem jd_L_946 : decode code 946 = .ok (.aload_n 0, 1) := by decide +kernel
theorem jd_L_947 : decode code 947 = .ok (.iload 4, 2) := by decide +kernel
theorem jd_L_949 : decode code 949 = .ok (.iconst 1, 1) := by decide +kernel
theorem jd_L_950 : decode code 950 = .ok (.iadd, 1) := by decide +kernel
theorem jd_L_951 : decode code 951 = .ok (.iaload, 1) := by decide +kernel
theorem jd_L_952 : decode code 952 = .ok (.i2l, 1) := by decide +kernel
theorem jd_L_953 : decode code 953 = .ok (.bipush 32, 2) := by decide +kernel
theorem jd_L_955 : decode code 955 = .ok (.lshl, 1) := by decide +kernel
theorem jd_L_956 : decode code 956 = .ok (.aload_n 0, 1) := by decide +kernel
theorem jd_L_957 : decode code 957 = .ok (.iload 4, 2) := by decide +kernel
theorem jd_L_959 : decode code 959 = .ok (.iconst 2, 1) := by decide +kernel
theorem jd_L_960 : decode code 960 = .ok (.iadd, 1) := by decide +kernel
theorem jd_L_961 : decode code 961 = .ok (.iaload, 1) := by decide +kernel
theorem jd_L_962 : decode code 962 = .ok (.i2l, 1) := by decide +kernel
theorem jd_L_963 : decode code 963 = .ok (.ldc2_w 77, 3) := by decide +kernel
theorem jd_L_966 : decode code 966 = .ok (.land, 1) := by decide +kernel
theorem jd_L_967 : decode code 967 = .ok (.lor, 1) := by decide +kernel
theorem jd_L_968 : decode code 968 = .ok (.aload_n 0, 1) := by decide +kernel
theorem jd_L_969 : decode code 969 = .ok (.iload 4, 2) := by decide +kernel
theorem jd_L_971 : decode code 971 = .ok (.iconst 3, 1) := by decide +kernel
theorem jd_L_972 : decode code 972 = .ok (.iadd, 1) := by decide +kernel
theorem jd_L_973 : decode code 973 = .ok (.iaload, 1) := by decide +kernel
theorem jd_L_974 : decode code 974 = .ok (.aload_n 0, 1) := by decide +kernel
theorem jd_L_975 : decode code 975 = .ok (.iload 4, 2) := by decide +kernel
theorem jd_L_977 : decode code 977 = .ok (.iconst 4, 1) := by decide +kernel
theorem jd_L_978 : decode code 978 = .ok (.iadd, 1) := by decide +kernel
theorem jd_L_979 : decode code 979 = .ok (.iaload, 1) := by decide +kernel
theorem jd_L_980 : decode code 980 = .ok (.aload_n 3, 1) := by decide +kernel
theorem jd_L_981 : decode code 981 = .ok (.invokestatic 129, 3) := by decide +kernel
theorem jd_L_984 : decode code 984 = .ok (.istore 5, 2) := by decide +kernel
theorem jd_L_986 : decode code 986 = .ok (.aload_n 2, 1) := by decide +kernel
theorem jd_L_987 : decode code 987 = .ok (.aload_n 0, 1) := by decide +kernel
theorem jd_L_988 : decode code 988 = .ok (.iload 4, 2) := by decide +kernel
theorem jd_L_990 : decode code 990 = .ok (.iconst 1, 1) := by decide +kernel
theorem jd_L_991 : decode code 991 = .ok (.iadd, 1) := by decide +kernel
theorem jd_L_992 : decode code 992 = .ok (.iaload, 1) := by decide +kernel
theorem jd_L_993 : decode code 993 = .ok (.i2l, 1) := by decide +kernel
theorem jd_L_994 : decode code 994 = .ok (.bipush 32, 2) := by decide +kernel
theorem jd_L_996 : decode code 996 = .ok (.lshl, 1) := by decide +kernel
theorem jd_L_997 : decode code 997 = .ok (.aload_n 0, 1) := by decide +kernel
theorem jd_L_998 : decode code 998 = .ok (.iload 4, 2) := by decide +kernel
theorem jd_L_1000 : decode code 1000 = .ok (.iconst 2, 1) := by decide +kernel
theorem jd_L_1001 : decode code 1001 = .ok (.iadd, 1) := by decide +kernel
theorem jd_L_1002 : decode code 1002 = .ok (.iaload, 1) := by decide +kernel
theorem jd_L_1003 : decode code 1003 = .ok (.i2l, 1) := by decide +kernel
theorem jd_L_1004 : decode code 1004 = .ok (.ldc2_w 77, 3) := by decide +kernel
theorem jd_L_1007 : decode code 1007 = .ok (.land, 1) := by decide +kernel
theorem jd_L_1008 : decode code 1008 = .ok (.lor, 1) := by decide +kernel
theorem jd_L_1009 : decode code 1009 = .ok (.aload_n 0, 1) := by decide +kernel
theorem jd_L_1010 : decode code 1010 = .ok (.iload 4, 2) := by decide +kernel
theorem jd_L_1012 : decode code 1012 = .ok (.iconst 3, 1) := by decide +kernel
theorem jd_L_1013 : decode code 1013 = .ok (.iadd, 1) := by decide +kernel
theorem jd_L_1014 : decode code 1014 = .ok (.iaload, 1) := by decide +kernel
theorem jd_L_1015 : decode code 1015 = .ok (.aload_n 0, 1) := by decide +kernel
theorem jd_L_1016 : decode code 1016 = .ok (.iload 4, 2) := by decide +kernel
theorem jd_L_1018 : decode code 1018 = .ok (.iconst 4, 1) := by decide +kernel
theorem jd_L_1019 : decode code 1019 = .ok (.iadd, 1) := by decide +kernel
theorem jd_L_1020 : decode code 1020 = .ok (.iaload, 1) := by decide +kernel
theorem jd_L_1021 : decode code 1021 = .ok (.invokevirtual 132, 3) := by decide +kernel
theorem jd_L_1024 : decode code 1024 = .ok (.istore 6, 2) := by decide +kernel
theorem jd_L_1026 : decode code 1026 = .ok (.aload_n 2, 1) := by decide +kernel
theorem jd_L_1027 : decode code 1027 = .ok (.invokevirtual 66, 3) := by decide +kernel
theorem jd_L_1030 : decode code 1030 = .ok (.iload 5, 2) := by decide +kernel
theorem jd_L_1032 : decode code 1032 = .ok (.if_icmp .eq 5, 3) := by decide +kernel
theorem jd_L_1035 : decode code 1035 = .ok (.iconst 0, 1) := by decide +kernel
theorem jd_L_1036 : decode code 1036 = .ok (.ireturn, 1) := by decide +kernel
theorem jd_L_1037 : decode code 1037 = .ok (.iload 5, 2) := by decide +kernel
theorem jd_L_1039 : decode code 1039 = .ok (.ifCond .ne 15, 3) := by decide +kernel
theorem jd_L_1042 : decode code 1042 = .ok (.aload_n 3, 1) := by decide +kernel
theorem jd_L_1043 : decode code 1043 = .ok (.iconst 0, 1) := by decide +kernel
theorem jd_L_1044 : decode code 1044 = .ok (.laload, 1) := by decide +kernel
theorem jd_L_1045 : decode code 1045 = .ok (.iload 6, 2) := by decide +kernel
theorem jd_L_1047 : decode code 1047 = .ok (.i2l, 1) := by decide +kernel
theorem jd_L_1048 : decode code 1048 = .ok (.lcmp, 1) := by decide +kernel
theorem jd_L_1049 : decode code 1049 = .ok (.ifCond .eq 5, 3) := by decide +kernel
theorem jd_L_1052 : decode code 1052 = .ok (.iconst 0, 1) := by decide +kernel
theorem jd_L_1053 : decode code 1053 = .ok (.ireturn, 1) := by decide +kernel
theorem jd_L_1054 : decode code 1054 = .ok (.goto 71, 3) := by decide +kernel
theorem jd_L_1057 : decode code 1057 = .ok (.aload_n 1, 1) := by decide +kernel
theorem jd_L_1058 : decode code 1058 = .ok (.aload_n 0, 1) := by decide +kernel
theorem jd_L_1059 : decode code 1059 = .ok (.iload 4, 2) := by decide +kernel
theorem jd_L_1061 : decode code 1061 = .ok (.iconst 1, 1) := by decide +kernel
theorem jd_L_1062 : decode code 1062 = .ok (.iadd, 1) := by decide +kernel
theorem jd_L_1063 : decode code 1063 = .ok (.iaload, 1) := by decide +kernel
theorem jd_L_1064 : decode code 1064 = .ok (.aload_n 0, 1) := by decide +kernel
theorem jd_L_1065 : decode code 1065 = .ok (.iload 4, 2) := by decide +kernel
theorem jd_L_1067 : decode code 1067 = .ok (.iconst 2, 1) := by decide +kernel
theorem jd_L_1068 : decode code 1068 = .ok (.iadd, 1) := by decide +kernel
theorem jd_L_1069 : decode code 1069 = .ok (.iaload, 1) := by decide +kernel
theorem jd_L_1070 : decode code 1070 = .ok (.aload_n 3, 1) := by decide +kernel
theorem jd_L_1071 : decode code 1071 = .ok (.invokestatic 133, 3) := by decide +kernel
theorem jd_L_1074 : decode code 1074 = .ok (.istore 5, 2) := by decide +kernel
theorem jd_L_1076 : decode code 1076 = .ok (.aload_n 2, 1) := by decide +kernel
theorem jd_L_1077 : decode code 1077 = .ok (.aload_n 0, 1) := by decide +kernel
theorem jd_L_1078 : decode code 1078 = .ok (.iload 4, 2) := by decide +kernel
theorem jd_L_1080 : decode code 1080 = .ok (.iconst 1, 1) := by decide +kernel
theorem jd_L_1081 : decode code 1081 = .ok (.iadd, 1) := by decide +kernel
theorem jd_L_1082 : decode code 1082 = .ok (.iaload, 1) := by decide +kernel
theorem jd_L_1083 : decode code 1083 = .ok (.aload_n 0, 1) := by decide +kernel
theorem jd_L_1084 : decode code 1084 = .ok (.iload 4, 2) := by decide +kernel
theorem jd_L_1086 : decode code 1086 = .ok (.iconst 2, 1) := by decide +kernel
theorem jd_L_1087 : decode code 1087 = .ok (.iadd, 1) := by decide +kernel
theorem jd_L_1088 : decode code 1088 = .ok (.iaload, 1) := by decide +kernel
theorem jd_L_1089 : decode code 1089 = .ok (.invokevirtual 135, 3) := by decide +kernel
theorem jd_L_1092 : decode code 1092 = .ok (.istore 6, 2) := by decide +kernel
theorem jd_L_1094 : decode code 1094 = .ok (.aload_n 2, 1) := by decide +kernel
theorem jd_L_1095 : decode code 1095 = .ok (.invokevirtual 66, 3) := by decide +kernel
theorem jd_L_1098 : decode code 1098 = .ok (.iload 5, 2) := by decide +kernel
theorem jd_L_1100 : decode code 1100 = .ok (.if_icmp .eq 5, 3) := by decide +kernel
theorem jd_L_1103 : decode code 1103 = .ok (.iconst 0, 1) := by decide +kernel
theorem jd_L_1104 : decode code 1104 = .ok (.ireturn, 1) := by decide +kernel
theorem jd_L_1105 : decode code 1105 = .ok (.iload 5, 2) := by decide +kernel
theorem jd_L_1107 : decode code 1107 = .ok (.ifCond .ne 15, 3) := by decide +kernel
theorem jd_L_1110 : decode code 1110 = .ok (.aload_n 3, 1) := by decide +kernel
theorem jd_L_1111 : decode code 1111 = .ok (.iconst 0, 1) := by decide +kernel
theorem jd_L_1112 : decode code 1112 = .ok (.laload, 1) := by decide +kernel
theorem jd_L_1113 : decode code 1113 = .ok (.iload 6, 2) := by decide +kernel
theorem jd_L_1115 : decode code 1115 = .ok (.i2l, 1) := by decide +kernel
theorem jd_L_1116 : decode code 1116 = .ok (.lcmp, 1) := by decide +kernel
theorem jd_L_1117 : decode code 1117 = .ok (.ifCond .eq 5, 3) := by decide +kernel
theorem jd_L_1120 : decode code 1120 = .ok (.iconst 0, 1) := by decide +kernel
theorem jd_L_1121 : decode code 1121 = .ok (.ireturn, 1) := by decide +kernel
theorem jd_L_1122 : decode code 1122 = .ok (.goto 3, 3) := by decide +kernel
theorem jd_L_1125 : decode code 1125 = .ok (.iinc 4 7, 3) := by decide +kernel
theorem jd_L_1128 : decode code 1128 = .ok (.goto (-1105), 3) := by decide +kernel
theorem jd_L_1131 : decode code 1131 = .ok (.iconst 1, 1) := by decide +kernel
theorem jd_L_1132 : decode code 1132 = .ok (.ireturn, 1) := by decide +kernel
