-- ===== decode rows =====
theorem d_Law_law_0 : decode code 0 = .ok (.new 8, 3) := by decide +kernel
theorem d_Law_law_3 : decode code 3 = .ok (.dup, 1) := by decide +kernel
theorem d_Law_law_4 : decode code 4 = .ok (.aload_n 0, 1) := by decide +kernel
theorem d_Law_law_5 : decode code 5 = .ok (.iconst 0, 1) := by decide +kernel
theorem d_Law_law_6 : decode code 6 = .ok (.invokestatic 44, 3) := by decide +kernel
theorem d_Law_law_9 : decode code 9 = .ok (.invokespecial 50, 3) := by decide +kernel
theorem d_Law_law_12 : decode code 12 = .ok (.astore_n 1, 1) := by decide +kernel
theorem d_Law_law_13 : decode code 13 = .ok (.new 53, 3) := by decide +kernel
theorem d_Law_law_16 : decode code 16 = .ok (.dup, 1) := by decide +kernel
theorem d_Law_law_17 : decode code 17 = .ok (.aload_n 0, 1) := by decide +kernel
theorem d_Law_law_18 : decode code 18 = .ok (.iconst 0, 1) := by decide +kernel
theorem d_Law_law_19 : decode code 19 = .ok (.invokestatic 44, 3) := by decide +kernel
theorem d_Law_law_22 : decode code 22 = .ok (.invokespecial 55, 3) := by decide +kernel
theorem d_Law_law_25 : decode code 25 = .ok (.astore_n 2, 1) := by decide +kernel
theorem d_Law_law_26 : decode code 26 = .ok (.iconst 1, 1) := by decide +kernel
theorem d_Law_law_27 : decode code 27 = .ok (.newarray .long, 2) := by decide +kernel
theorem d_Law_law_29 : decode code 29 = .ok (.astore_n 3, 1) := by decide +kernel
theorem d_Law_law_30 : decode code 30 = .ok (.iconst 1, 1) := by decide +kernel
theorem d_Law_law_31 : decode code 31 = .ok (.istore 4, 2) := by decide +kernel
theorem d_Law_law_33 : decode code 33 = .ok (.iload 4, 2) := by decide +kernel
theorem d_Law_law_35 : decode code 35 = .ok (.aload_n 0, 1) := by decide +kernel
theorem d_Law_law_36 : decode code 36 = .ok (.arraylength, 1) := by decide +kernel
theorem d_Law_law_37 : decode code 37 = .ok (.iconst 4, 1) := by decide +kernel
theorem d_Law_law_38 : decode code 38 = .ok (.isub, 1) := by decide +kernel
theorem d_Law_law_39 : decode code 39 = .ok (.if_icmp .gt 735, 3) := by decide +kernel
theorem d_Law_law_42 : decode code 42 = .ok (.aload_n 0, 1) := by decide +kernel
theorem d_Law_law_43 : decode code 43 = .ok (.iload 4, 2) := by decide +kernel
theorem d_Law_law_45 : decode code 45 = .ok (.iaload, 1) := by decide +kernel
theorem d_Law_law_46 : decode code 46 = .ok (.bipush 15, 2) := by decide +kernel
theorem d_Law_law_48 : decode code 48 = .ok (.iand, 1) := by decide +kernel
theorem d_Law_law_49 : decode code 49 = .ok (.tableswitch 719 0 14 #[75, 159, 239, 307, 375, 431, 444, 500, 513, 526, 582, 593, 618, 681, 694], 75) := by decide +kernel
theorem d_Law_law_124 : decode code 124 = .ok (.aload_n 1, 1) := by decide +kernel
theorem d_Law_law_125 : decode code 125 = .ok (.aload_n 0, 1) := by decide +kernel
theorem d_Law_law_126 : decode code 126 = .ok (.iload 4, 2) := by decide +kernel
theorem d_Law_law_128 : decode code 128 = .ok (.iconst 1, 1) := by decide +kernel
theorem d_Law_law_129 : decode code 129 = .ok (.iadd, 1) := by decide +kernel
theorem d_Law_law_130 : decode code 130 = .ok (.iaload, 1) := by decide +kernel
theorem d_Law_law_131 : decode code 131 = .ok (.aload_n 0, 1) := by decide +kernel
theorem d_Law_law_132 : decode code 132 = .ok (.iload 4, 2) := by decide +kernel
theorem d_Law_law_134 : decode code 134 = .ok (.iconst 2, 1) := by decide +kernel
theorem d_Law_law_135 : decode code 135 = .ok (.iadd, 1) := by decide +kernel
theorem d_Law_law_136 : decode code 136 = .ok (.iaload, 1) := by decide +kernel
theorem d_Law_law_137 : decode code 137 = .ok (.ifCond .eq 7, 3) := by decide +kernel
theorem d_Law_law_140 : decode code 140 = .ok (.iconst 1, 1) := by decide +kernel
theorem d_Law_law_141 : decode code 141 = .ok (.goto 4, 3) := by decide +kernel
theorem d_Law_law_144 : decode code 144 = .ok (.iconst 0, 1) := by decide +kernel
theorem d_Law_law_145 : decode code 145 = .ok (.aload_n 3, 1) := by decide +kernel
theorem d_Law_law_146 : decode code 146 = .ok (.invokestatic 56, 3) := by decide +kernel
theorem d_Law_law_149 : decode code 149 = .ok (.istore 5, 2) := by decide +kernel
theorem d_Law_law_151 : decode code 151 = .ok (.aload_n 2, 1) := by decide +kernel
theorem d_Law_law_152 : decode code 152 = .ok (.aload_n 0, 1) := by decide +kernel
theorem d_Law_law_153 : decode code 153 = .ok (.iload 4, 2) := by decide +kernel
theorem d_Law_law_155 : decode code 155 = .ok (.iconst 1, 1) := by decide +kernel
theorem d_Law_law_156 : decode code 156 = .ok (.iadd, 1) := by decide +kernel
theorem d_Law_law_157 : decode code 157 = .ok (.iaload, 1) := by decide +kernel
theorem d_Law_law_158 : decode code 158 = .ok (.aload_n 0, 1) := by decide +kernel
theorem d_Law_law_159 : decode code 159 = .ok (.iload 4, 2) := by decide +kernel
theorem d_Law_law_161 : decode code 161 = .ok (.iconst 2, 1) := by decide +kernel
theorem d_Law_law_162 : decode code 162 = .ok (.iadd, 1) := by decide +kernel
theorem d_Law_law_163 : decode code 163 = .ok (.iaload, 1) := by decide +kernel
theorem d_Law_law_164 : decode code 164 = .ok (.ifCond .eq 7, 3) := by decide +kernel
theorem d_Law_law_167 : decode code 167 = .ok (.iconst 1, 1) := by decide +kernel
theorem d_Law_law_168 : decode code 168 = .ok (.goto 4, 3) := by decide +kernel
theorem d_Law_law_171 : decode code 171 = .ok (.iconst 0, 1) := by decide +kernel
theorem d_Law_law_172 : decode code 172 = .ok (.invokevirtual 59, 3) := by decide +kernel
theorem d_Law_law_175 : decode code 175 = .ok (.istore 6, 2) := by decide +kernel
theorem d_Law_law_177 : decode code 177 = .ok (.aload_n 2, 1) := by decide +kernel
theorem d_Law_law_178 : decode code 178 = .ok (.invokevirtual 60, 3) := by decide +kernel
theorem d_Law_law_181 : decode code 181 = .ok (.iload 5, 2) := by decide +kernel
theorem d_Law_law_183 : decode code 183 = .ok (.if_icmp .eq 5, 3) := by decide +kernel
theorem d_Law_law_186 : decode code 186 = .ok (.iconst 0, 1) := by decide +kernel
theorem d_Law_law_187 : decode code 187 = .ok (.ireturn, 1) := by decide +kernel
theorem d_Law_law_188 : decode code 188 = .ok (.iload 5, 2) := by decide +kernel
theorem d_Law_law_190 : decode code 190 = .ok (.ifCond .ne 15, 3) := by decide +kernel
theorem d_Law_law_193 : decode code 193 = .ok (.aload_n 3, 1) := by decide +kernel
theorem d_Law_law_194 : decode code 194 = .ok (.iconst 0, 1) := by decide +kernel
theorem d_Law_law_195 : decode code 195 = .ok (.laload, 1) := by decide +kernel
theorem d_Law_law_196 : decode code 196 = .ok (.iload 6, 2) := by decide +kernel
theorem d_Law_law_198 : decode code 198 = .ok (.i2l, 1) := by decide +kernel
theorem d_Law_law_199 : decode code 199 = .ok (.lcmp, 1) := by decide +kernel
theorem d_Law_law_200 : decode code 200 = .ok (.ifCond .eq 5, 3) := by decide +kernel
theorem d_Law_law_203 : decode code 203 = .ok (.iconst 0, 1) := by decide +kernel
theorem d_Law_law_204 : decode code 204 = .ok (.ireturn, 1) := by decide +kernel
theorem d_Law_law_205 : decode code 205 = .ok (.goto 563, 3) := by decide +kernel
theorem d_Law_law_208 : decode code 208 = .ok (.aload_n 1, 1) := by decide +kernel
theorem d_Law_law_209 : decode code 209 = .ok (.aload_n 0, 1) := by decide +kernel
theorem d_Law_law_210 : decode code 210 = .ok (.iload 4, 2) := by decide +kernel
theorem d_Law_law_212 : decode code 212 = .ok (.iconst 1, 1) := by decide +kernel
theorem d_Law_law_213 : decode code 213 = .ok (.iadd, 1) := by decide +kernel
theorem d_Law_law_214 : decode code 214 = .ok (.iaload, 1) := by decide +kernel
theorem d_Law_law_215 : decode code 215 = .ok (.aload_n 0, 1) := by decide +kernel
theorem d_Law_law_216 : decode code 216 = .ok (.iload 4, 2) := by decide +kernel
theorem d_Law_law_218 : decode code 218 = .ok (.iconst 2, 1) := by decide +kernel
theorem d_Law_law_219 : decode code 219 = .ok (.iadd, 1) := by decide +kernel
theorem d_Law_law_220 : decode code 220 = .ok (.iaload, 1) := by decide +kernel
theorem d_Law_law_221 : decode code 221 = .ok (.aload_n 0, 1) := by decide +kernel
theorem d_Law_law_222 : decode code 222 = .ok (.iload 4, 2) := by decide +kernel
theorem d_Law_law_224 : decode code 224 = .ok (.iconst 3, 1) := by decide +kernel
theorem d_Law_law_225 : decode code 225 = .ok (.iadd, 1) := by decide +kernel
theorem d_Law_law_226 : decode code 226 = .ok (.iaload, 1) := by decide +kernel
theorem d_Law_law_227 : decode code 227 = .ok (.aload_n 3, 1) := by decide +kernel
theorem d_Law_law_228 : decode code 228 = .ok (.invokestatic 64, 3) := by decide +kernel
theorem d_Law_law_231 : decode code 231 = .ok (.istore 5, 2) := by decide +kernel
theorem d_Law_law_233 : decode code 233 = .ok (.aload_n 2, 1) := by decide +kernel
theorem d_Law_law_234 : decode code 234 = .ok (.aload_n 0, 1) := by decide +kernel
theorem d_Law_law_235 : decode code 235 = .ok (.iload 4, 2) := by decide +kernel
theorem d_Law_law_237 : decode code 237 = .ok (.iconst 1, 1) := by decide +kernel
theorem d_Law_law_238 : decode code 238 = .ok (.iadd, 1) := by decide +kernel
theorem d_Law_law_239 : decode code 239 = .ok (.iaload, 1) := by decide +kernel
theorem d_Law_law_240 : decode code 240 = .ok (.aload_n 0, 1) := by decide +kernel
theorem d_Law_law_241 : decode code 241 = .ok (.iload 4, 2) := by decide +kernel
theorem d_Law_law_243 : decode code 243 = .ok (.iconst 2, 1) := by decide +kernel
theorem d_Law_law_244 : decode code 244 = .ok (.iadd, 1) := by decide +kernel
theorem d_Law_law_245 : decode code 245 = .ok (.iaload, 1) := by decide +kernel
theorem d_Law_law_246 : decode code 246 = .ok (.aload_n 0, 1) := by decide +kernel
theorem d_Law_law_247 : decode code 247 = .ok (.iload 4, 2) := by decide +kernel
theorem d_Law_law_249 : decode code 249 = .ok (.iconst 3, 1) := by decide +kernel
theorem d_Law_law_250 : decode code 250 = .ok (.iadd, 1) := by decide +kernel
theorem d_Law_law_251 : decode code 251 = .ok (.iaload, 1) := by decide +kernel
theorem d_Law_law_252 : decode code 252 = .ok (.invokevirtual 67, 3) := by decide +kernel
theorem d_Law_law_255 : decode code 255 = .ok (.istore 6, 2) := by decide +kernel
theorem d_Law_law_257 : decode code 257 = .ok (.aload_n 2, 1) := by decide +kernel
theorem d_Law_law_258 : decode code 258 = .ok (.invokevirtual 60, 3) := by decide +kernel
theorem d_Law_law_261 : decode code 261 = .ok (.iload 5, 2) := by decide +kernel
theorem d_Law_law_263 : decode code 263 = .ok (.if_icmp .eq 5, 3) := by decide +kernel
theorem d_Law_law_266 : decode code 266 = .ok (.iconst 0, 1) := by decide +kernel
theorem d_Law_law_267 : decode code 267 = .ok (.ireturn, 1) := by decide +kernel
theorem d_Law_law_268 : decode code 268 = .ok (.iload 5, 2) := by decide +kernel
theorem d_Law_law_270 : decode code 270 = .ok (.ifCond .ne 15, 3) := by decide +kernel
theorem d_Law_law_273 : decode code 273 = .ok (.aload_n 3, 1) := by decide +kernel
theorem d_Law_law_274 : decode code 274 = .ok (.iconst 0, 1) := by decide +kernel
theorem d_Law_law_275 : decode code 275 = .ok (.laload, 1) := by decide +kernel
theorem d_Law_law_276 : decode code 276 = .ok (.iload 6, 2) := by decide +kernel
theorem d_Law_law_278 : decode code 278 = .ok (.i2l, 1) := by decide +kernel
theorem d_Law_law_279 : decode code 279 = .ok (.lcmp, 1) := by decide +kernel
theorem d_Law_law_280 : decode code 280 = .ok (.ifCond .eq 5, 3) := by decide +kernel
theorem d_Law_law_283 : decode code 283 = .ok (.iconst 0, 1) := by decide +kernel
theorem d_Law_law_284 : decode code 284 = .ok (.ireturn, 1) := by decide +kernel
theorem d_Law_law_285 : decode code 285 = .ok (.goto 483, 3) := by decide +kernel
theorem d_Law_law_288 : decode code 288 = .ok (.aload_n 1, 1) := by decide +kernel
theorem d_Law_law_289 : decode code 289 = .ok (.aload_n 0, 1) := by decide +kernel
theorem d_Law_law_290 : decode code 290 = .ok (.iload 4, 2) := by decide +kernel
theorem d_Law_law_292 : decode code 292 = .ok (.iconst 1, 1) := by decide +kernel
theorem d_Law_law_293 : decode code 293 = .ok (.iadd, 1) := by decide +kernel
theorem d_Law_law_294 : decode code 294 = .ok (.iaload, 1) := by decide +kernel
theorem d_Law_law_295 : decode code 295 = .ok (.aload_n 0, 1) := by decide +kernel
theorem d_Law_law_296 : decode code 296 = .ok (.iload 4, 2) := by decide +kernel
theorem d_Law_law_298 : decode code 298 = .ok (.iconst 2, 1) := by decide +kernel
theorem d_Law_law_299 : decode code 299 = .ok (.iadd, 1) := by decide +kernel
theorem d_Law_law_300 : decode code 300 = .ok (.iaload, 1) := by decide +kernel
theorem d_Law_law_301 : decode code 301 = .ok (.aload_n 3, 1) := by decide +kernel
theorem d_Law_law_302 : decode code 302 = .ok (.invokestatic 68, 3) := by decide +kernel
theorem d_Law_law_305 : decode code 305 = .ok (.istore 5, 2) := by decide +kernel
theorem d_Law_law_307 : decode code 307 = .ok (.aload_n 2, 1) := by decide +kernel
theorem d_Law_law_308 : decode code 308 = .ok (.aload_n 0, 1) := by decide +kernel
theorem d_Law_law_309 : decode code 309 = .ok (.iload 4, 2) := by decide +kernel
theorem d_Law_law_311 : decode code 311 = .ok (.iconst 1, 1) := by decide +kernel
theorem d_Law_law_312 : decode code 312 = .ok (.iadd, 1) := by decide +kernel
theorem d_Law_law_313 : decode code 313 = .ok (.iaload, 1) := by decide +kernel
theorem d_Law_law_314 : decode code 314 = .ok (.aload_n 0, 1) := by decide +kernel
theorem d_Law_law_315 : decode code 315 = .ok (.iload 4, 2) := by decide +kernel
theorem d_Law_law_317 : decode code 317 = .ok (.iconst 2, 1) := by decide +kernel
theorem d_Law_law_318 : decode code 318 = .ok (.iadd, 1) := by decide +kernel
theorem d_Law_law_319 : decode code 319 = .ok (.iaload, 1) := by decide +kernel
theorem d_Law_law_320 : decode code 320 = .ok (.invokevirtual 71, 3) := by decide +kernel
theorem d_Law_law_323 : decode code 323 = .ok (.istore 6, 2) := by decide +kernel
theorem d_Law_law_325 : decode code 325 = .ok (.aload_n 2, 1) := by decide +kernel
theorem d_Law_law_326 : decode code 326 = .ok (.invokevirtual 60, 3) := by decide +kernel
theorem d_Law_law_329 : decode code 329 = .ok (.iload 5, 2) := by decide +kernel
theorem d_Law_law_331 : decode code 331 = .ok (.if_icmp .eq 5, 3) := by decide +kernel
theorem d_Law_law_334 : decode code 334 = .ok (.iconst 0, 1) := by decide +kernel
theorem d_Law_law_335 : decode code 335 = .ok (.ireturn, 1) := by decide +kernel
theorem d_Law_law_336 : decode code 336 = .ok (.iload 5, 2) := by decide +kernel
theorem d_Law_law_338 : decode code 338 = .ok (.ifCond .ne 15, 3) := by decide +kernel
theorem d_Law_law_341 : decode code 341 = .ok (.aload_n 3, 1) := by decide +kernel
theorem d_Law_law_342 : decode code 342 = .ok (.iconst 0, 1) := by decide +kernel
theorem d_Law_law_343 : decode code 343 = .ok (.laload, 1) := by decide +kernel
theorem d_Law_law_344 : decode code 344 = .ok (.iload 6, 2) := by decide +kernel
theorem d_Law_law_346 : decode code 346 = .ok (.i2l, 1) := by decide +kernel
theorem d_Law_law_347 : decode code 347 = .ok (.lcmp, 1) := by decide +kernel
theorem d_Law_law_348 : decode code 348 = .ok (.ifCond .eq 5, 3) := by decide +kernel
theorem d_Law_law_351 : decode code 351 = .ok (.iconst 0, 1) := by decide +kernel
theorem d_Law_law_352 : decode code 352 = .ok (.ireturn, 1) := by decide +kernel
theorem d_Law_law_353 : decode code 353 = .ok (.goto 415, 3) := by decide +kernel
theorem d_Law_law_356 : decode code 356 = .ok (.aload_n 1, 1) := by decide +kernel
theorem d_Law_law_357 : decode code 357 = .ok (.aload_n 0, 1) := by decide +kernel
theorem d_Law_law_358 : decode code 358 = .ok (.iload 4, 2) := by decide +kernel
theorem d_Law_law_360 : decode code 360 = .ok (.iconst 1, 1) := by decide +kernel
theorem d_Law_law_361 : decode code 361 = .ok (.iadd, 1) := by decide +kernel
theorem d_Law_law_362 : decode code 362 = .ok (.iaload, 1) := by decide +kernel
theorem d_Law_law_363 : decode code 363 = .ok (.aload_n 0, 1) := by decide +kernel
theorem d_Law_law_364 : decode code 364 = .ok (.iload 4, 2) := by decide +kernel
theorem d_Law_law_366 : decode code 366 = .ok (.iconst 2, 1) := by decide +kernel
theorem d_Law_law_367 : decode code 367 = .ok (.iadd, 1) := by decide +kernel
theorem d_Law_law_368 : decode code 368 = .ok (.iaload, 1) := by decide +kernel
theorem d_Law_law_369 : decode code 369 = .ok (.aload_n 3, 1) := by decide +kernel
theorem d_Law_law_370 : decode code 370 = .ok (.invokestatic 72, 3) := by decide +kernel
theorem d_Law_law_373 : decode code 373 = .ok (.istore 5, 2) := by decide +kernel
theorem d_Law_law_375 : decode code 375 = .ok (.aload_n 2, 1) := by decide +kernel
theorem d_Law_law_376 : decode code 376 = .ok (.aload_n 0, 1) := by decide +kernel
theorem d_Law_law_377 : decode code 377 = .ok (.iload 4, 2) := by decide +kernel
theorem d_Law_law_379 : decode code 379 = .ok (.iconst 1, 1) := by decide +kernel
theorem d_Law_law_380 : decode code 380 = .ok (.iadd, 1) := by decide +kernel
theorem d_Law_law_381 : decode code 381 = .ok (.iaload, 1) := by decide +kernel
theorem d_Law_law_382 : decode code 382 = .ok (.aload_n 0, 1) := by decide +kernel
theorem d_Law_law_383 : decode code 383 = .ok (.iload 4, 2) := by decide +kernel
theorem d_Law_law_385 : decode code 385 = .ok (.iconst 2, 1) := by decide +kernel
theorem d_Law_law_386 : decode code 386 = .ok (.iadd, 1) := by decide +kernel
theorem d_Law_law_387 : decode code 387 = .ok (.iaload, 1) := by decide +kernel
theorem d_Law_law_388 : decode code 388 = .ok (.invokevirtual 74, 3) := by decide +kernel
theorem d_Law_law_391 : decode code 391 = .ok (.istore 6, 2) := by decide +kernel
theorem d_Law_law_393 : decode code 393 = .ok (.aload_n 2, 1) := by decide +kernel
theorem d_Law_law_394 : decode code 394 = .ok (.invokevirtual 60, 3) := by decide +kernel
theorem d_Law_law_397 : decode code 397 = .ok (.iload 5, 2) := by decide +kernel
theorem d_Law_law_399 : decode code 399 = .ok (.if_icmp .eq 5, 3) := by decide +kernel
theorem d_Law_law_402 : decode code 402 = .ok (.iconst 0, 1) := by decide +kernel
theorem d_Law_law_403 : decode code 403 = .ok (.ireturn, 1) := by decide +kernel
theorem d_Law_law_404 : decode code 404 = .ok (.iload 5, 2) := by decide +kernel
theorem d_Law_law_406 : decode code 406 = .ok (.ifCond .ne 15, 3) := by decide +kernel
theorem d_Law_law_409 : decode code 409 = .ok (.aload_n 3, 1) := by decide +kernel
theorem d_Law_law_410 : decode code 410 = .ok (.iconst 0, 1) := by decide +kernel
theorem d_Law_law_411 : decode code 411 = .ok (.laload, 1) := by decide +kernel
theorem d_Law_law_412 : decode code 412 = .ok (.iload 6, 2) := by decide +kernel
theorem d_Law_law_414 : decode code 414 = .ok (.i2l, 1) := by decide +kernel
theorem d_Law_law_415 : decode code 415 = .ok (.lcmp, 1) := by decide +kernel
theorem d_Law_law_416 : decode code 416 = .ok (.ifCond .eq 5, 3) := by decide +kernel
theorem d_Law_law_419 : decode code 419 = .ok (.iconst 0, 1) := by decide +kernel
theorem d_Law_law_420 : decode code 420 = .ok (.ireturn, 1) := by decide +kernel
theorem d_Law_law_421 : decode code 421 = .ok (.goto 347, 3) := by decide +kernel
theorem d_Law_law_424 : decode code 424 = .ok (.aload_n 1, 1) := by decide +kernel
theorem d_Law_law_425 : decode code 425 = .ok (.aload_n 0, 1) := by decide +kernel
theorem d_Law_law_426 : decode code 426 = .ok (.iload 4, 2) := by decide +kernel
theorem d_Law_law_428 : decode code 428 = .ok (.iconst 1, 1) := by decide +kernel
theorem d_Law_law_429 : decode code 429 = .ok (.iadd, 1) := by decide +kernel
theorem d_Law_law_430 : decode code 430 = .ok (.iaload, 1) := by decide +kernel
theorem d_Law_law_431 : decode code 431 = .ok (.aload_n 3, 1) := by decide +kernel
theorem d_Law_law_432 : decode code 432 = .ok (.invokestatic 75, 3) := by decide +kernel
theorem d_Law_law_435 : decode code 435 = .ok (.istore 5, 2) := by decide +kernel
theorem d_Law_law_437 : decode code 437 = .ok (.aload_n 2, 1) := by decide +kernel
theorem d_Law_law_438 : decode code 438 = .ok (.aload_n 0, 1) := by decide +kernel
theorem d_Law_law_439 : decode code 439 = .ok (.iload 4, 2) := by decide +kernel
theorem d_Law_law_441 : decode code 441 = .ok (.iconst 1, 1) := by decide +kernel
theorem d_Law_law_442 : decode code 442 = .ok (.iadd, 1) := by decide +kernel
theorem d_Law_law_443 : decode code 443 = .ok (.iaload, 1) := by decide +kernel
theorem d_Law_law_444 : decode code 444 = .ok (.invokevirtual 78, 3) := by decide +kernel
theorem d_Law_law_447 : decode code 447 = .ok (.istore 6, 2) := by decide +kernel
theorem d_Law_law_449 : decode code 449 = .ok (.aload_n 2, 1) := by decide +kernel
theorem d_Law_law_450 : decode code 450 = .ok (.invokevirtual 60, 3) := by decide +kernel
theorem d_Law_law_453 : decode code 453 = .ok (.iload 5, 2) := by decide +kernel
theorem d_Law_law_455 : decode code 455 = .ok (.if_icmp .eq 5, 3) := by decide +kernel
theorem d_Law_law_458 : decode code 458 = .ok (.iconst 0, 1) := by decide +kernel
theorem d_Law_law_459 : decode code 459 = .ok (.ireturn, 1) := by decide +kernel
theorem d_Law_law_460 : decode code 460 = .ok (.iload 5, 2) := by decide +kernel
theorem d_Law_law_462 : decode code 462 = .ok (.ifCond .ne 15, 3) := by decide +kernel
theorem d_Law_law_465 : decode code 465 = .ok (.aload_n 3, 1) := by decide +kernel
theorem d_Law_law_466 : decode code 466 = .ok (.iconst 0, 1) := by decide +kernel
theorem d_Law_law_467 : decode code 467 = .ok (.laload, 1) := by decide +kernel
theorem d_Law_law_468 : decode code 468 = .ok (.iload 6, 2) := by decide +kernel
theorem d_Law_law_470 : decode code 470 = .ok (.i2l, 1) := by decide +kernel
theorem d_Law_law_471 : decode code 471 = .ok (.lcmp, 1) := by decide +kernel
theorem d_Law_law_472 : decode code 472 = .ok (.ifCond .eq 5, 3) := by decide +kernel
theorem d_Law_law_475 : decode code 475 = .ok (.iconst 0, 1) := by decide +kernel
theorem d_Law_law_476 : decode code 476 = .ok (.ireturn, 1) := by decide +kernel
theorem d_Law_law_477 : decode code 477 = .ok (.goto 291, 3) := by decide +kernel
theorem d_Law_law_480 : decode code 480 = .ok (.aload_n 1, 1) := by decide +kernel
theorem d_Law_law_481 : decode code 481 = .ok (.invokevirtual 79, 3) := by decide +kernel
theorem d_Law_law_484 : decode code 484 = .ok (.aload_n 2, 1) := by decide +kernel
theorem d_Law_law_485 : decode code 485 = .ok (.invokevirtual 82, 3) := by decide +kernel
theorem d_Law_law_488 : decode code 488 = .ok (.if_icmp .eq 280, 3) := by decide +kernel
theorem d_Law_law_491 : decode code 491 = .ok (.iconst 0, 1) := by decide +kernel
theorem d_Law_law_492 : decode code 492 = .ok (.ireturn, 1) := by decide +kernel
theorem d_Law_law_493 : decode code 493 = .ok (.aload_n 1, 1) := by decide +kernel
theorem d_Law_law_494 : decode code 494 = .ok (.aload_n 0, 1) := by decide +kernel
theorem d_Law_law_495 : decode code 495 = .ok (.iload 4, 2) := by decide +kernel
theorem d_Law_law_497 : decode code 497 = .ok (.iconst 1, 1) := by decide +kernel
theorem d_Law_law_498 : decode code 498 = .ok (.iadd, 1) := by decide +kernel
theorem d_Law_law_499 : decode code 499 = .ok (.iaload, 1) := by decide +kernel
theorem d_Law_law_500 : decode code 500 = .ok (.aload_n 3, 1) := by decide +kernel
theorem d_Law_law_501 : decode code 501 = .ok (.invokestatic 83, 3) := by decide +kernel
theorem d_Law_law_504 : decode code 504 = .ok (.istore 5, 2) := by decide +kernel
theorem d_Law_law_506 : decode code 506 = .ok (.aload_n 2, 1) := by decide +kernel
theorem d_Law_law_507 : decode code 507 = .ok (.aload_n 0, 1) := by decide +kernel
theorem d_Law_law_508 : decode code 508 = .ok (.iload 4, 2) := by decide +kernel
theorem d_Law_law_510 : decode code 510 = .ok (.iconst 1, 1) := by decide +kernel
theorem d_Law_law_511 : decode code 511 = .ok (.iadd, 1) := by decide +kernel
theorem d_Law_law_512 : decode code 512 = .ok (.iaload, 1) := by decide +kernel
theorem d_Law_law_513 : decode code 513 = .ok (.invokevirtual 85, 3) := by decide +kernel
theorem d_Law_law_516 : decode code 516 = .ok (.istore 6, 2) := by decide +kernel
theorem d_Law_law_518 : decode code 518 = .ok (.aload_n 2, 1) := by decide +kernel
theorem d_Law_law_519 : decode code 519 = .ok (.invokevirtual 60, 3) := by decide +kernel
theorem d_Law_law_522 : decode code 522 = .ok (.iload 5, 2) := by decide +kernel
theorem d_Law_law_524 : decode code 524 = .ok (.if_icmp .eq 5, 3) := by decide +kernel
theorem d_Law_law_527 : decode code 527 = .ok (.iconst 0, 1) := by decide +kernel
theorem d_Law_law_528 : decode code 528 = .ok (.ireturn, 1) := by decide +kernel
theorem d_Law_law_529 : decode code 529 = .ok (.iload 5, 2) := by decide +kernel
theorem d_Law_law_531 : decode code 531 = .ok (.ifCond .ne 15, 3) := by decide +kernel
theorem d_Law_law_534 : decode code 534 = .ok (.aload_n 3, 1) := by decide +kernel
theorem d_Law_law_535 : decode code 535 = .ok (.iconst 0, 1) := by decide +kernel
theorem d_Law_law_536 : decode code 536 = .ok (.laload, 1) := by decide +kernel
theorem d_Law_law_537 : decode code 537 = .ok (.iload 6, 2) := by decide +kernel
theorem d_Law_law_539 : decode code 539 = .ok (.i2l, 1) := by decide +kernel
theorem d_Law_law_540 : decode code 540 = .ok (.lcmp, 1) := by decide +kernel
theorem d_Law_law_541 : decode code 541 = .ok (.ifCond .eq 5, 3) := by decide +kernel
theorem d_Law_law_544 : decode code 544 = .ok (.iconst 0, 1) := by decide +kernel
theorem d_Law_law_545 : decode code 545 = .ok (.ireturn, 1) := by decide +kernel
theorem d_Law_law_546 : decode code 546 = .ok (.goto 222, 3) := by decide +kernel
theorem d_Law_law_549 : decode code 549 = .ok (.aload_n 1, 1) := by decide +kernel
theorem d_Law_law_550 : decode code 550 = .ok (.invokevirtual 86, 3) := by decide +kernel
theorem d_Law_law_553 : decode code 553 = .ok (.aload_n 2, 1) := by decide +kernel
theorem d_Law_law_554 : decode code 554 = .ok (.invokevirtual 89, 3) := by decide +kernel
theorem d_Law_law_557 : decode code 557 = .ok (.if_icmp .eq 211, 3) := by decide +kernel
theorem d_Law_law_560 : decode code 560 = .ok (.iconst 0, 1) := by decide +kernel
theorem d_Law_law_561 : decode code 561 = .ok (.ireturn, 1) := by decide +kernel
theorem d_Law_law_562 : decode code 562 = .ok (.aload_n 1, 1) := by decide +kernel
theorem d_Law_law_563 : decode code 563 = .ok (.invokevirtual 90, 3) := by decide +kernel
theorem d_Law_law_566 : decode code 566 = .ok (.aload_n 2, 1) := by decide +kernel
theorem d_Law_law_567 : decode code 567 = .ok (.invokevirtual 93, 3) := by decide +kernel
theorem d_Law_law_570 : decode code 570 = .ok (.if_icmp .eq 198, 3) := by decide +kernel
theorem d_Law_law_573 : decode code 573 = .ok (.iconst 0, 1) := by decide +kernel
theorem d_Law_law_574 : decode code 574 = .ok (.ireturn, 1) := by decide +kernel
theorem d_Law_law_575 : decode code 575 = .ok (.aload_n 1, 1) := by decide +kernel
theorem d_Law_law_576 : decode code 576 = .ok (.aload_n 0, 1) := by decide +kernel
theorem d_Law_law_577 : decode code 577 = .ok (.iload 4, 2) := by decide +kernel
theorem d_Law_law_579 : decode code 579 = .ok (.iconst 1, 1) := by decide +kernel
theorem d_Law_law_580 : decode code 580 = .ok (.iadd, 1) := by decide +kernel
theorem d_Law_law_581 : decode code 581 = .ok (.iaload, 1) := by decide +kernel
theorem d_Law_law_582 : decode code 582 = .ok (.aload_n 3, 1) := by decide +kernel
theorem d_Law_law_583 : decode code 583 = .ok (.invokestatic 94, 3) := by decide +kernel
theorem d_Law_law_586 : decode code 586 = .ok (.istore 5, 2) := by decide +kernel
theorem d_Law_law_588 : decode code 588 = .ok (.aload_n 2, 1) := by decide +kernel
theorem d_Law_law_589 : decode code 589 = .ok (.aload_n 0, 1) := by decide +kernel
theorem d_Law_law_590 : decode code 590 = .ok (.iload 4, 2) := by decide +kernel
theorem d_Law_law_592 : decode code 592 = .ok (.iconst 1, 1) := by decide +kernel
theorem d_Law_law_593 : decode code 593 = .ok (.iadd, 1) := by decide +kernel
theorem d_Law_law_594 : decode code 594 = .ok (.iaload, 1) := by decide +kernel
theorem d_Law_law_595 : decode code 595 = .ok (.invokevirtual 96, 3) := by decide +kernel
theorem d_Law_law_598 : decode code 598 = .ok (.istore 6, 2) := by decide +kernel
theorem d_Law_law_600 : decode code 600 = .ok (.aload_n 2, 1) := by decide +kernel
theorem d_Law_law_601 : decode code 601 = .ok (.invokevirtual 60, 3) := by decide +kernel
theorem d_Law_law_604 : decode code 604 = .ok (.iload 5, 2) := by decide +kernel
theorem d_Law_law_606 : decode code 606 = .ok (.if_icmp .eq 5, 3) := by decide +kernel
theorem d_Law_law_609 : decode code 609 = .ok (.iconst 0, 1) := by decide +kernel
theorem d_Law_law_610 : decode code 610 = .ok (.ireturn, 1) := by decide +kernel
theorem d_Law_law_611 : decode code 611 = .ok (.iload 5, 2) := by decide +kernel
theorem d_Law_law_613 : decode code 613 = .ok (.ifCond .ne 15, 3) := by decide +kernel
theorem d_Law_law_616 : decode code 616 = .ok (.aload_n 3, 1) := by decide +kernel
theorem d_Law_law_617 : decode code 617 = .ok (.iconst 0, 1) := by decide +kernel
theorem d_Law_law_618 : decode code 618 = .ok (.laload, 1) := by decide +kernel
theorem d_Law_law_619 : decode code 619 = .ok (.iload 6, 2) := by decide +kernel
theorem d_Law_law_621 : decode code 621 = .ok (.i2l, 1) := by decide +kernel
theorem d_Law_law_622 : decode code 622 = .ok (.lcmp, 1) := by decide +kernel
theorem d_Law_law_623 : decode code 623 = .ok (.ifCond .eq 5, 3) := by decide +kernel
theorem d_Law_law_626 : decode code 626 = .ok (.iconst 0, 1) := by decide +kernel
theorem d_Law_law_627 : decode code 627 = .ok (.ireturn, 1) := by decide +kernel
theorem d_Law_law_628 : decode code 628 = .ok (.goto 140, 3) := by decide +kernel
theorem d_Law_law_631 : decode code 631 = .ok (.aload_n 1, 1) := by decide +kernel
theorem d_Law_law_632 : decode code 632 = .ok (.invokevirtual 97, 3) := by decide +kernel
theorem d_Law_law_635 : decode code 635 = .ok (.aload_n 2, 1) := by decide +kernel
theorem d_Law_law_636 : decode code 636 = .ok (.invokevirtual 100, 3) := by decide +kernel
theorem d_Law_law_639 : decode code 639 = .ok (.goto 129, 3) := by decide +kernel
theorem d_Law_law_642 : decode code 642 = .ok (.aload_n 1, 1) := by decide +kernel
theorem d_Law_law_643 : decode code 643 = .ok (.aload_n 0, 1) := by decide +kernel
theorem d_Law_law_644 : decode code 644 = .ok (.iload 4, 2) := by decide +kernel
theorem d_Law_law_646 : decode code 646 = .ok (.iconst 1, 1) := by decide +kernel
theorem d_Law_law_647 : decode code 647 = .ok (.iadd, 1) := by decide +kernel
theorem d_Law_law_648 : decode code 648 = .ok (.iaload, 1) := by decide +kernel
theorem d_Law_law_649 : decode code 649 = .ok (.invokevirtual 101, 3) := by decide +kernel
theorem d_Law_law_652 : decode code 652 = .ok (.aload_n 2, 1) := by decide +kernel
theorem d_Law_law_653 : decode code 653 = .ok (.aload_n 0, 1) := by decide +kernel
theorem d_Law_law_654 : decode code 654 = .ok (.iload 4, 2) := by decide +kernel
theorem d_Law_law_656 : decode code 656 = .ok (.iconst 1, 1) := by decide +kernel
theorem d_Law_law_657 : decode code 657 = .ok (.iadd, 1) := by decide +kernel
theorem d_Law_law_658 : decode code 658 = .ok (.iaload, 1) := by decide +kernel
theorem d_Law_law_659 : decode code 659 = .ok (.invokevirtual 104, 3) := by decide +kernel
theorem d_Law_law_662 : decode code 662 = .ok (.if_icmp .eq 106, 3) := by decide +kernel
theorem d_Law_law_665 : decode code 665 = .ok (.iconst 0, 1) := by decide +kernel
theorem d_Law_law_666 : decode code 666 = .ok (.ireturn, 1) := by decide +kernel
theorem d_Law_law_667 : decode code 667 = .ok (.aload_n 1, 1) := by decide +kernel
theorem d_Law_law_668 : decode code 668 = .ok (.aload_n 0, 1) := by decide +kernel
theorem d_Law_law_669 : decode code 669 = .ok (.iload 4, 2) := by decide +kernel
theorem d_Law_law_671 : decode code 671 = .ok (.iconst 1, 1) := by decide +kernel
theorem d_Law_law_672 : decode code 672 = .ok (.iadd, 1) := by decide +kernel
theorem d_Law_law_673 : decode code 673 = .ok (.iaload, 1) := by decide +kernel
theorem d_Law_law_674 : decode code 674 = .ok (.aload_n 3, 1) := by decide +kernel
theorem d_Law_law_675 : decode code 675 = .ok (.invokestatic 105, 3) := by decide +kernel
theorem d_Law_law_678 : decode code 678 = .ok (.istore 5, 2) := by decide +kernel
theorem d_Law_law_680 : decode code 680 = .ok (.aload_n 2, 1) := by decide +kernel
theorem d_Law_law_681 : decode code 681 = .ok (.aload_n 0, 1) := by decide +kernel
theorem d_Law_law_682 : decode code 682 = .ok (.iload 4, 2) := by decide +kernel
theorem d_Law_law_684 : decode code 684 = .ok (.iconst 1, 1) := by decide +kernel
theorem d_Law_law_685 : decode code 685 = .ok (.iadd, 1) := by decide +kernel
theorem d_Law_law_686 : decode code 686 = .ok (.iaload, 1) := by decide +kernel
theorem d_Law_law_687 : decode code 687 = .ok (.invokevirtual 107, 3) := by decide +kernel
theorem d_Law_law_690 : decode code 690 = .ok (.istore 6, 2) := by decide +kernel
theorem d_Law_law_692 : decode code 692 = .ok (.aload_n 2, 1) := by decide +kernel
theorem d_Law_law_693 : decode code 693 = .ok (.invokevirtual 60, 3) := by decide +kernel
theorem d_Law_law_696 : decode code 696 = .ok (.iload 5, 2) := by decide +kernel
theorem d_Law_law_698 : decode code 698 = .ok (.if_icmp .eq 5, 3) := by decide +kernel
theorem d_Law_law_701 : decode code 701 = .ok (.iconst 0, 1) := by decide +kernel
theorem d_Law_law_702 : decode code 702 = .ok (.ireturn, 1) := by decide +kernel
theorem d_Law_law_703 : decode code 703 = .ok (.iload 5, 2) := by decide +kernel
theorem d_Law_law_705 : decode code 705 = .ok (.ifCond .ne 22, 3) := by decide +kernel
theorem d_Law_law_708 : decode code 708 = .ok (.aload_n 3, 1) := by decide +kernel
theorem d_Law_law_709 : decode code 709 = .ok (.iconst 0, 1) := by decide +kernel
theorem d_Law_law_710 : decode code 710 = .ok (.laload, 1) := by decide +kernel
theorem d_Law_law_711 : decode code 711 = .ok (.iload 6, 2) := by decide +kernel
theorem d_Law_law_713 : decode code 713 = .ok (.ifCond .eq 7, 3) := by decide +kernel
theorem d_Law_law_716 : decode code 716 = .ok (.lconst 1, 1) := by decide +kernel
theorem d_Law_law_717 : decode code 717 = .ok (.goto 4, 3) := by decide +kernel
theorem d_Law_law_720 : decode code 720 = .ok (.lconst 0, 1) := by decide +kernel
theorem d_Law_law_721 : decode code 721 = .ok (.lcmp, 1) := by decide +kernel
theorem d_Law_law_722 : decode code 722 = .ok (.ifCond .eq 5, 3) := by decide +kernel
theorem d_Law_law_725 : decode code 725 = .ok (.iconst 0, 1) := by decide +kernel
theorem d_Law_law_726 : decode code 726 = .ok (.ireturn, 1) := by decide +kernel
theorem d_Law_law_727 : decode code 727 = .ok (.goto 41, 3) := by decide +kernel
theorem d_Law_law_730 : decode code 730 = .ok (.aload_n 1, 1) := by decide +kernel
theorem d_Law_law_731 : decode code 731 = .ok (.invokevirtual 108, 3) := by decide +kernel
theorem d_Law_law_734 : decode code 734 = .ok (.aload_n 2, 1) := by decide +kernel
theorem d_Law_law_735 : decode code 735 = .ok (.invokevirtual 111, 3) := by decide +kernel
theorem d_Law_law_738 : decode code 738 = .ok (.if_icmp .eq 30, 3) := by decide +kernel
theorem d_Law_law_741 : decode code 741 = .ok (.iconst 0, 1) := by decide +kernel
theorem d_Law_law_742 : decode code 742 = .ok (.ireturn, 1) := by decide +kernel
theorem d_Law_law_743 : decode code 743 = .ok (.aload_n 1, 1) := by decide +kernel
theorem d_Law_law_744 : decode code 744 = .ok (.aload_n 0, 1) := by decide +kernel
theorem d_Law_law_745 : decode code 745 = .ok (.iload 4, 2) := by decide +kernel
theorem d_Law_law_747 : decode code 747 = .ok (.iconst 1, 1) := by decide +kernel
theorem d_Law_law_748 : decode code 748 = .ok (.iadd, 1) := by decide +kernel
theorem d_Law_law_749 : decode code 749 = .ok (.iaload, 1) := by decide +kernel
theorem d_Law_law_750 : decode code 750 = .ok (.invokevirtual 112, 3) := by decide +kernel
theorem d_Law_law_753 : decode code 753 = .ok (.aload_n 2, 1) := by decide +kernel
theorem d_Law_law_754 : decode code 754 = .ok (.aload_n 0, 1) := by decide +kernel
theorem d_Law_law_755 : decode code 755 = .ok (.iload 4, 2) := by decide +kernel
theorem d_Law_law_757 : decode code 757 = .ok (.iconst 1, 1) := by decide +kernel
theorem d_Law_law_758 : decode code 758 = .ok (.iadd, 1) := by decide +kernel
theorem d_Law_law_759 : decode code 759 = .ok (.iaload, 1) := by decide +kernel
theorem d_Law_law_760 : decode code 760 = .ok (.invokevirtual 115, 3) := by decide +kernel
theorem d_Law_law_763 : decode code 763 = .ok (.if_icmp .eq 5, 3) := by decide +kernel
theorem d_Law_law_766 : decode code 766 = .ok (.iconst 0, 1) := by decide +kernel
theorem d_Law_law_767 : decode code 767 = .ok (.ireturn, 1) := by decide +kernel
theorem d_Law_law_768 : decode code 768 = .ok (.iinc 4 4, 3) := by decide +kernel
theorem d_Law_law_771 : decode code 771 = .ok (.goto (-738), 3) := by decide +kernel
theorem d_Law_law_774 : decode code 774 = .ok (.iconst 1, 1) := by decide +kernel
theorem d_Law_law_775 : decode code 775 = .ok (.ireturn, 1) := by decide +kernel
