/-! the law's instructions, part 0 -/
def y_L_law : XY := (x, code, 8, ret, room_1)
theorem d_L_law_0 : decode y_L_law.2.1 0 = .ok (.new 8, 3) := by decide +kernel
theorem d_L_law_3 : decode y_L_law.2.1 3 = .ok (.dup, 1) := by decide +kernel
theorem d_L_law_4 : decode y_L_law.2.1 4 = .ok (.invokespecial 146, 3) := by decide +kernel
theorem d_L_law_7 : decode y_L_law.2.1 7 = .ok (.astore_n 1, 1) := by decide +kernel
theorem d_L_law_8 : decode y_L_law.2.1 8 = .ok (.new 147, 3) := by decide +kernel
theorem d_L_law_11 : decode y_L_law.2.1 11 = .ok (.dup, 1) := by decide +kernel
theorem d_L_law_12 : decode y_L_law.2.1 12 = .ok (.invokespecial 149, 3) := by decide +kernel
theorem d_L_law_15 : decode y_L_law.2.1 15 = .ok (.astore_n 2, 1) := by decide +kernel
theorem d_L_law_16 : decode y_L_law.2.1 16 = .ok (.iconst 1, 1) := by decide +kernel
theorem d_L_law_17 : decode y_L_law.2.1 17 = .ok (.newarray .long, 2) := by decide +kernel
theorem d_L_law_19 : decode y_L_law.2.1 19 = .ok (.astore_n 3, 1) := by decide +kernel
theorem d_L_law_20 : decode y_L_law.2.1 20 = .ok (.iconst 0, 1) := by decide +kernel
theorem d_L_law_21 : decode y_L_law.2.1 21 = .ok (.istore 4, 2) := by decide +kernel
theorem d_L_law_23 : decode y_L_law.2.1 23 = .ok (.iload 4, 2) := by decide +kernel
theorem d_L_law_25 : decode y_L_law.2.1 25 = .ok (.aload_n 0, 1) := by decide +kernel
theorem d_L_law_26 : decode y_L_law.2.1 26 = .ok (.arraylength, 1) := by decide +kernel
theorem d_L_law_27 : decode y_L_law.2.1 27 = .ok (.bipush 8, 2) := by decide +kernel
theorem d_L_law_29 : decode y_L_law.2.1 29 = .ok (.isub, 1) := by decide +kernel
theorem d_L_law_30 : decode y_L_law.2.1 30 = .ok (.if_icmp .gt 3845, 3) := by decide +kernel
theorem d_L_law_33 : decode y_L_law.2.1 33 = .ok (.aload_n 0, 1) := by decide +kernel
theorem d_L_law_34 : decode y_L_law.2.1 34 = .ok (.iload 4, 2) := by decide +kernel
theorem d_L_law_36 : decode y_L_law.2.1 36 = .ok (.iaload, 1) := by decide +kernel
theorem d_L_law_37 : decode y_L_law.2.1 37 = .ok (.bipush 63, 2) := by decide +kernel
theorem d_L_law_39 : decode y_L_law.2.1 39 = .ok (.iand, 1) := by decide +kernel
theorem d_L_law_40 : decode y_L_law.2.1 40 = .ok (.tableswitch 3829 0 41 #[184, 252, 356, 424, 542, 634, 726, 782, 862, 918, 998, 1089, 1149, 1267, 1414, 1531, 1635, 1760, 1864, 1956, 2074, 2192, 2272, 2371, 2475, 2555, 2647, 2715, 2833, 2901, 2914, 3031, 3149, 3281, 3377, 3433, 3489, 3502, 3515, 3575, 3686, 3804], 184) := by decide +kernel
theorem d_L_law_224 : decode y_L_law.2.1 224 = .ok (.aload_n 1, 1) := by decide +kernel
theorem d_L_law_225 : decode y_L_law.2.1 225 = .ok (.aload_n 0, 1) := by decide +kernel
theorem d_L_law_226 : decode y_L_law.2.1 226 = .ok (.iload 4, 2) := by decide +kernel
theorem d_L_law_228 : decode y_L_law.2.1 228 = .ok (.iconst 1, 1) := by decide +kernel
theorem d_L_law_229 : decode y_L_law.2.1 229 = .ok (.iadd, 1) := by decide +kernel
theorem d_L_law_230 : decode y_L_law.2.1 230 = .ok (.iaload, 1) := by decide +kernel
theorem d_L_law_231 : decode y_L_law.2.1 231 = .ok (.aload_n 0, 1) := by decide +kernel
theorem d_L_law_232 : decode y_L_law.2.1 232 = .ok (.iload 4, 2) := by decide +kernel
theorem d_L_law_234 : decode y_L_law.2.1 234 = .ok (.iconst 2, 1) := by decide +kernel
theorem d_L_law_235 : decode y_L_law.2.1 235 = .ok (.iadd, 1) := by decide +kernel
theorem d_L_law_236 : decode y_L_law.2.1 236 = .ok (.iaload, 1) := by decide +kernel
theorem d_L_law_237 : decode y_L_law.2.1 237 = .ok (.aload_n 3, 1) := by decide +kernel
theorem d_L_law_238 : decode y_L_law.2.1 238 = .ok (.invokestatic 150, 3) := by decide +kernel
theorem d_L_law_241 : decode y_L_law.2.1 241 = .ok (.istore 5, 2) := by decide +kernel
theorem d_L_law_243 : decode y_L_law.2.1 243 = .ok (.aload_n 2, 1) := by decide +kernel
theorem d_L_law_244 : decode y_L_law.2.1 244 = .ok (.aload_n 0, 1) := by decide +kernel
theorem d_L_law_245 : decode y_L_law.2.1 245 = .ok (.iload 4, 2) := by decide +kernel
theorem d_L_law_247 : decode y_L_law.2.1 247 = .ok (.iconst 1, 1) := by decide +kernel
theorem d_L_law_248 : decode y_L_law.2.1 248 = .ok (.iadd, 1) := by decide +kernel
theorem d_L_law_249 : decode y_L_law.2.1 249 = .ok (.iaload, 1) := by decide +kernel
theorem d_L_law_250 : decode y_L_law.2.1 250 = .ok (.aload_n 0, 1) := by decide +kernel
theorem d_L_law_251 : decode y_L_law.2.1 251 = .ok (.iload 4, 2) := by decide +kernel
theorem d_L_law_253 : decode y_L_law.2.1 253 = .ok (.iconst 2, 1) := by decide +kernel
theorem d_L_law_254 : decode y_L_law.2.1 254 = .ok (.iadd, 1) := by decide +kernel
theorem d_L_law_255 : decode y_L_law.2.1 255 = .ok (.iaload, 1) := by decide +kernel
theorem d_L_law_256 : decode y_L_law.2.1 256 = .ok (.invokevirtual 155, 3) := by decide +kernel
theorem d_L_law_259 : decode y_L_law.2.1 259 = .ok (.istore 6, 2) := by decide +kernel
theorem d_L_law_261 : decode y_L_law.2.1 261 = .ok (.aload_n 2, 1) := by decide +kernel
theorem d_L_law_262 : decode y_L_law.2.1 262 = .ok (.invokevirtual 156, 3) := by decide +kernel
theorem d_L_law_265 : decode y_L_law.2.1 265 = .ok (.iload 5, 2) := by decide +kernel
theorem d_L_law_267 : decode y_L_law.2.1 267 = .ok (.if_icmp .eq 5, 3) := by decide +kernel
theorem d_L_law_270 : decode y_L_law.2.1 270 = .ok (.iconst 0, 1) := by decide +kernel
theorem d_L_law_271 : decode y_L_law.2.1 271 = .ok (.ireturn, 1) := by decide +kernel
theorem d_L_law_272 : decode y_L_law.2.1 272 = .ok (.iload 5, 2) := by decide +kernel
theorem d_L_law_274 : decode y_L_law.2.1 274 = .ok (.ifCond .ne 15, 3) := by decide +kernel
theorem d_L_law_277 : decode y_L_law.2.1 277 = .ok (.aload_n 3, 1) := by decide +kernel
theorem d_L_law_278 : decode y_L_law.2.1 278 = .ok (.iconst 0, 1) := by decide +kernel
theorem d_L_law_279 : decode y_L_law.2.1 279 = .ok (.laload, 1) := by decide +kernel
theorem d_L_law_280 : decode y_L_law.2.1 280 = .ok (.iload 6, 2) := by decide +kernel
theorem d_L_law_282 : decode y_L_law.2.1 282 = .ok (.i2l, 1) := by decide +kernel
theorem d_L_law_283 : decode y_L_law.2.1 283 = .ok (.lcmp, 1) := by decide +kernel
theorem d_L_law_284 : decode y_L_law.2.1 284 = .ok (.ifCond .eq 5, 3) := by decide +kernel
theorem d_L_law_287 : decode y_L_law.2.1 287 = .ok (.iconst 0, 1) := by decide +kernel
theorem d_L_law_288 : decode y_L_law.2.1 288 = .ok (.ireturn, 1) := by decide +kernel
theorem d_L_law_289 : decode y_L_law.2.1 289 = .ok (.goto 3580, 3) := by decide +kernel
theorem d_L_law_292 : decode y_L_law.2.1 292 = .ok (.aload_n 1, 1) := by decide +kernel
theorem d_L_law_293 : decode y_L_law.2.1 293 = .ok (.aload_n 0, 1) := by decide +kernel
theorem d_L_law_294 : decode y_L_law.2.1 294 = .ok (.iload 4, 2) := by decide +kernel
theorem d_L_law_296 : decode y_L_law.2.1 296 = .ok (.iconst 1, 1) := by decide +kernel
theorem d_L_law_297 : decode y_L_law.2.1 297 = .ok (.iadd, 1) := by decide +kernel
theorem d_L_law_298 : decode y_L_law.2.1 298 = .ok (.iaload, 1) := by decide +kernel
theorem d_L_law_299 : decode y_L_law.2.1 299 = .ok (.aload_n 0, 1) := by decide +kernel
theorem d_L_law_300 : decode y_L_law.2.1 300 = .ok (.iload 4, 2) := by decide +kernel
theorem d_L_law_302 : decode y_L_law.2.1 302 = .ok (.iconst 2, 1) := by decide +kernel
theorem d_L_law_303 : decode y_L_law.2.1 303 = .ok (.iadd, 1) := by decide +kernel
theorem d_L_law_304 : decode y_L_law.2.1 304 = .ok (.iaload, 1) := by decide +kernel
theorem d_L_law_305 : decode y_L_law.2.1 305 = .ok (.aload_n 0, 1) := by decide +kernel
theorem d_L_law_306 : decode y_L_law.2.1 306 = .ok (.iload 4, 2) := by decide +kernel
theorem d_L_law_308 : decode y_L_law.2.1 308 = .ok (.iconst 3, 1) := by decide +kernel
theorem d_L_law_309 : decode y_L_law.2.1 309 = .ok (.iadd, 1) := by decide +kernel
theorem d_L_law_310 : decode y_L_law.2.1 310 = .ok (.iaload, 1) := by decide +kernel
theorem d_L_law_311 : decode y_L_law.2.1 311 = .ok (.aload_n 0, 1) := by decide +kernel
theorem d_L_law_312 : decode y_L_law.2.1 312 = .ok (.iload 4, 2) := by decide +kernel
theorem d_L_law_314 : decode y_L_law.2.1 314 = .ok (.iconst 4, 1) := by decide +kernel
theorem d_L_law_315 : decode y_L_law.2.1 315 = .ok (.iadd, 1) := by decide +kernel
theorem d_L_law_316 : decode y_L_law.2.1 316 = .ok (.iaload, 1) := by decide +kernel
theorem d_L_law_317 : decode y_L_law.2.1 317 = .ok (.aload_n 0, 1) := by decide +kernel
theorem d_L_law_318 : decode y_L_law.2.1 318 = .ok (.iload 4, 2) := by decide +kernel
theorem d_L_law_320 : decode y_L_law.2.1 320 = .ok (.iconst 5, 1) := by decide +kernel
theorem d_L_law_321 : decode y_L_law.2.1 321 = .ok (.iadd, 1) := by decide +kernel
theorem d_L_law_322 : decode y_L_law.2.1 322 = .ok (.iaload, 1) := by decide +kernel
theorem d_L_law_323 : decode y_L_law.2.1 323 = .ok (.aload_n 3, 1) := by decide +kernel
theorem d_L_law_324 : decode y_L_law.2.1 324 = .ok (.invokestatic 160, 3) := by decide +kernel
theorem d_L_law_327 : decode y_L_law.2.1 327 = .ok (.istore 5, 2) := by decide +kernel
theorem d_L_law_329 : decode y_L_law.2.1 329 = .ok (.aload_n 2, 1) := by decide +kernel
theorem d_L_law_330 : decode y_L_law.2.1 330 = .ok (.aload_n 0, 1) := by decide +kernel
theorem d_L_law_331 : decode y_L_law.2.1 331 = .ok (.iload 4, 2) := by decide +kernel
theorem d_L_law_333 : decode y_L_law.2.1 333 = .ok (.iconst 1, 1) := by decide +kernel
theorem d_L_law_334 : decode y_L_law.2.1 334 = .ok (.iadd, 1) := by decide +kernel
theorem d_L_law_335 : decode y_L_law.2.1 335 = .ok (.iaload, 1) := by decide +kernel
theorem d_L_law_336 : decode y_L_law.2.1 336 = .ok (.aload_n 0, 1) := by decide +kernel
theorem d_L_law_337 : decode y_L_law.2.1 337 = .ok (.iload 4, 2) := by decide +kernel
theorem d_L_law_339 : decode y_L_law.2.1 339 = .ok (.iconst 2, 1) := by decide +kernel
theorem d_L_law_340 : decode y_L_law.2.1 340 = .ok (.iadd, 1) := by decide +kernel
theorem d_L_law_341 : decode y_L_law.2.1 341 = .ok (.iaload, 1) := by decide +kernel
theorem d_L_law_342 : decode y_L_law.2.1 342 = .ok (.aload_n 0, 1) := by decide +kernel
theorem d_L_law_343 : decode y_L_law.2.1 343 = .ok (.iload 4, 2) := by decide +kernel
theorem d_L_law_345 : decode y_L_law.2.1 345 = .ok (.iconst 3, 1) := by decide +kernel
theorem d_L_law_346 : decode y_L_law.2.1 346 = .ok (.iadd, 1) := by decide +kernel
theorem d_L_law_347 : decode y_L_law.2.1 347 = .ok (.iaload, 1) := by decide +kernel
theorem d_L_law_348 : decode y_L_law.2.1 348 = .ok (.aload_n 0, 1) := by decide +kernel
theorem d_L_law_349 : decode y_L_law.2.1 349 = .ok (.iload 4, 2) := by decide +kernel
theorem d_L_law_351 : decode y_L_law.2.1 351 = .ok (.iconst 4, 1) := by decide +kernel
theorem d_L_law_352 : decode y_L_law.2.1 352 = .ok (.iadd, 1) := by decide +kernel
theorem d_L_law_353 : decode y_L_law.2.1 353 = .ok (.iaload, 1) := by decide +kernel
theorem d_L_law_354 : decode y_L_law.2.1 354 = .ok (.aload_n 0, 1) := by decide +kernel
theorem d_L_law_355 : decode y_L_law.2.1 355 = .ok (.iload 4, 2) := by decide +kernel
theorem d_L_law_357 : decode y_L_law.2.1 357 = .ok (.iconst 5, 1) := by decide +kernel
theorem d_L_law_358 : decode y_L_law.2.1 358 = .ok (.iadd, 1) := by decide +kernel
theorem d_L_law_359 : decode y_L_law.2.1 359 = .ok (.iaload, 1) := by decide +kernel
theorem d_L_law_360 : decode y_L_law.2.1 360 = .ok (.invokevirtual 163, 3) := by decide +kernel
theorem d_L_law_363 : decode y_L_law.2.1 363 = .ok (.istore 6, 2) := by decide +kernel
theorem d_L_law_365 : decode y_L_law.2.1 365 = .ok (.aload_n 2, 1) := by decide +kernel
theorem d_L_law_366 : decode y_L_law.2.1 366 = .ok (.invokevirtual 156, 3) := by decide +kernel
theorem d_L_law_369 : decode y_L_law.2.1 369 = .ok (.iload 5, 2) := by decide +kernel
theorem d_L_law_371 : decode y_L_law.2.1 371 = .ok (.if_icmp .eq 5, 3) := by decide +kernel
theorem d_L_law_374 : decode y_L_law.2.1 374 = .ok (.iconst 0, 1) := by decide +kernel
theorem d_L_law_375 : decode y_L_law.2.1 375 = .ok (.ireturn, 1) := by decide +kernel
theorem d_L_law_376 : decode y_L_law.2.1 376 = .ok (.iload 5, 2) := by decide +kernel
theorem d_L_law_378 : decode y_L_law.2.1 378 = .ok (.ifCond .ne 15, 3) := by decide +kernel
theorem d_L_law_381 : decode y_L_law.2.1 381 = .ok (.aload_n 3, 1) := by decide +kernel
theorem d_L_law_382 : decode y_L_law.2.1 382 = .ok (.iconst 0, 1) := by decide +kernel
theorem d_L_law_383 : decode y_L_law.2.1 383 = .ok (.laload, 1) := by decide +kernel
theorem d_L_law_384 : decode y_L_law.2.1 384 = .ok (.iload 6, 2) := by decide +kernel
theorem d_L_law_386 : decode y_L_law.2.1 386 = .ok (.i2l, 1) := by decide +kernel
theorem d_L_law_387 : decode y_L_law.2.1 387 = .ok (.lcmp, 1) := by decide +kernel
theorem d_L_law_388 : decode y_L_law.2.1 388 = .ok (.ifCond .eq 5, 3) := by decide +kernel
theorem d_L_law_391 : decode y_L_law.2.1 391 = .ok (.iconst 0, 1) := by decide +kernel
theorem d_L_law_392 : decode y_L_law.2.1 392 = .ok (.ireturn, 1) := by decide +kernel
theorem d_L_law_393 : decode y_L_law.2.1 393 = .ok (.goto 3476, 3) := by decide +kernel
theorem d_L_law_396 : decode y_L_law.2.1 396 = .ok (.aload_n 1, 1) := by decide +kernel
theorem d_L_law_397 : decode y_L_law.2.1 397 = .ok (.aload_n 0, 1) := by decide +kernel
theorem d_L_law_398 : decode y_L_law.2.1 398 = .ok (.iload 4, 2) := by decide +kernel
theorem d_L_law_400 : decode y_L_law.2.1 400 = .ok (.iconst 1, 1) := by decide +kernel
theorem d_L_law_401 : decode y_L_law.2.1 401 = .ok (.iadd, 1) := by decide +kernel
theorem d_L_law_402 : decode y_L_law.2.1 402 = .ok (.iaload, 1) := by decide +kernel
theorem d_L_law_403 : decode y_L_law.2.1 403 = .ok (.aload_n 0, 1) := by decide +kernel
theorem d_L_law_404 : decode y_L_law.2.1 404 = .ok (.iload 4, 2) := by decide +kernel
theorem d_L_law_406 : decode y_L_law.2.1 406 = .ok (.iconst 2, 1) := by decide +kernel
theorem d_L_law_407 : decode y_L_law.2.1 407 = .ok (.iadd, 1) := by decide +kernel
theorem d_L_law_408 : decode y_L_law.2.1 408 = .ok (.iaload, 1) := by decide +kernel
theorem d_L_law_409 : decode y_L_law.2.1 409 = .ok (.aload_n 3, 1) := by decide +kernel
theorem d_L_law_410 : decode y_L_law.2.1 410 = .ok (.invokestatic 164, 3) := by decide +kernel
theorem d_L_law_413 : decode y_L_law.2.1 413 = .ok (.istore 5, 2) := by decide +kernel
theorem d_L_law_415 : decode y_L_law.2.1 415 = .ok (.aload_n 2, 1) := by decide +kernel
theorem d_L_law_416 : decode y_L_law.2.1 416 = .ok (.aload_n 0, 1) := by decide +kernel
theorem d_L_law_417 : decode y_L_law.2.1 417 = .ok (.iload 4, 2) := by decide +kernel
theorem d_L_law_419 : decode y_L_law.2.1 419 = .ok (.iconst 1, 1) := by decide +kernel
theorem d_L_law_420 : decode y_L_law.2.1 420 = .ok (.iadd, 1) := by decide +kernel
theorem d_L_law_421 : decode y_L_law.2.1 421 = .ok (.iaload, 1) := by decide +kernel
theorem d_L_law_422 : decode y_L_law.2.1 422 = .ok (.aload_n 0, 1) := by decide +kernel
theorem d_L_law_423 : decode y_L_law.2.1 423 = .ok (.iload 4, 2) := by decide +kernel
theorem d_L_law_425 : decode y_L_law.2.1 425 = .ok (.iconst 2, 1) := by decide +kernel
theorem d_L_law_426 : decode y_L_law.2.1 426 = .ok (.iadd, 1) := by decide +kernel
theorem d_L_law_427 : decode y_L_law.2.1 427 = .ok (.iaload, 1) := by decide +kernel
theorem d_L_law_428 : decode y_L_law.2.1 428 = .ok (.invokevirtual 166, 3) := by decide +kernel
theorem d_L_law_431 : decode y_L_law.2.1 431 = .ok (.istore 6, 2) := by decide +kernel
theorem d_L_law_433 : decode y_L_law.2.1 433 = .ok (.aload_n 2, 1) := by decide +kernel
theorem d_L_law_434 : decode y_L_law.2.1 434 = .ok (.invokevirtual 156, 3) := by decide +kernel
theorem d_L_law_437 : decode y_L_law.2.1 437 = .ok (.iload 5, 2) := by decide +kernel
theorem d_L_law_439 : decode y_L_law.2.1 439 = .ok (.if_icmp .eq 5, 3) := by decide +kernel
theorem d_L_law_442 : decode y_L_law.2.1 442 = .ok (.iconst 0, 1) := by decide +kernel
theorem d_L_law_443 : decode y_L_law.2.1 443 = .ok (.ireturn, 1) := by decide +kernel
theorem d_L_law_444 : decode y_L_law.2.1 444 = .ok (.iload 5, 2) := by decide +kernel
theorem d_L_law_446 : decode y_L_law.2.1 446 = .ok (.ifCond .ne 15, 3) := by decide +kernel
theorem d_L_law_449 : decode y_L_law.2.1 449 = .ok (.aload_n 3, 1) := by decide +kernel
theorem d_L_law_450 : decode y_L_law.2.1 450 = .ok (.iconst 0, 1) := by decide +kernel
theorem d_L_law_451 : decode y_L_law.2.1 451 = .ok (.laload, 1) := by decide +kernel
theorem d_L_law_452 : decode y_L_law.2.1 452 = .ok (.iload 6, 2) := by decide +kernel
theorem d_L_law_454 : decode y_L_law.2.1 454 = .ok (.i2l, 1) := by decide +kernel
theorem d_L_law_455 : decode y_L_law.2.1 455 = .ok (.lcmp, 1) := by decide +kernel
theorem d_L_law_456 : decode y_L_law.2.1 456 = .ok (.ifCond .eq 5, 3) := by decide +kernel
theorem d_L_law_459 : decode y_L_law.2.1 459 = .ok (.iconst 0, 1) := by decide +kernel
theorem d_L_law_460 : decode y_L_law.2.1 460 = .ok (.ireturn, 1) := by decide +kernel
theorem d_L_law_461 : decode y_L_law.2.1 461 = .ok (.goto 3408, 3) := by decide +kernel
theorem d_L_law_464 : decode y_L_law.2.1 464 = .ok (.aload_n 1, 1) := by decide +kernel
theorem d_L_law_465 : decode y_L_law.2.1 465 = .ok (.aload_n 0, 1) := by decide +kernel
theorem d_L_law_466 : decode y_L_law.2.1 466 = .ok (.iload 4, 2) := by decide +kernel
theorem d_L_law_468 : decode y_L_law.2.1 468 = .ok (.iconst 1, 1) := by decide +kernel
theorem d_L_law_469 : decode y_L_law.2.1 469 = .ok (.iadd, 1) := by decide +kernel
theorem d_L_law_470 : decode y_L_law.2.1 470 = .ok (.iaload, 1) := by decide +kernel
theorem d_L_law_471 : decode y_L_law.2.1 471 = .ok (.aload_n 0, 1) := by decide +kernel
theorem d_L_law_472 : decode y_L_law.2.1 472 = .ok (.iload 4, 2) := by decide +kernel
theorem d_L_law_474 : decode y_L_law.2.1 474 = .ok (.iconst 2, 1) := by decide +kernel
theorem d_L_law_475 : decode y_L_law.2.1 475 = .ok (.iadd, 1) := by decide +kernel
theorem d_L_law_476 : decode y_L_law.2.1 476 = .ok (.iaload, 1) := by decide +kernel
theorem d_L_law_477 : decode y_L_law.2.1 477 = .ok (.aload_n 0, 1) := by decide +kernel
theorem d_L_law_478 : decode y_L_law.2.1 478 = .ok (.iload 4, 2) := by decide +kernel
theorem d_L_law_480 : decode y_L_law.2.1 480 = .ok (.iconst 3, 1) := by decide +kernel
theorem d_L_law_481 : decode y_L_law.2.1 481 = .ok (.iadd, 1) := by decide +kernel
theorem d_L_law_482 : decode y_L_law.2.1 482 = .ok (.iaload, 1) := by decide +kernel
theorem d_L_law_483 : decode y_L_law.2.1 483 = .ok (.aload_n 0, 1) := by decide +kernel
theorem d_L_law_484 : decode y_L_law.2.1 484 = .ok (.iload 4, 2) := by decide +kernel
theorem d_L_law_486 : decode y_L_law.2.1 486 = .ok (.iconst 4, 1) := by decide +kernel
theorem d_L_law_487 : decode y_L_law.2.1 487 = .ok (.iadd, 1) := by decide +kernel
theorem d_L_law_488 : decode y_L_law.2.1 488 = .ok (.iaload, 1) := by decide +kernel
theorem d_L_law_489 : decode y_L_law.2.1 489 = .ok (.aload_n 0, 1) := by decide +kernel
theorem d_L_law_490 : decode y_L_law.2.1 490 = .ok (.iload 4, 2) := by decide +kernel
theorem d_L_law_492 : decode y_L_law.2.1 492 = .ok (.iconst 5, 1) := by decide +kernel
theorem d_L_law_493 : decode y_L_law.2.1 493 = .ok (.iadd, 1) := by decide +kernel
theorem d_L_law_494 : decode y_L_law.2.1 494 = .ok (.iaload, 1) := by decide +kernel
theorem d_L_law_495 : decode y_L_law.2.1 495 = .ok (.aload_n 0, 1) := by decide +kernel
theorem d_L_law_496 : decode y_L_law.2.1 496 = .ok (.iload 4, 2) := by decide +kernel
theorem d_L_law_498 : decode y_L_law.2.1 498 = .ok (.bipush 6, 2) := by decide +kernel
theorem d_L_law_500 : decode y_L_law.2.1 500 = .ok (.iadd, 1) := by decide +kernel
theorem d_L_law_501 : decode y_L_law.2.1 501 = .ok (.iaload, 1) := by decide +kernel
theorem d_L_law_502 : decode y_L_law.2.1 502 = .ok (.aload_n 3, 1) := by decide +kernel
theorem d_L_law_503 : decode y_L_law.2.1 503 = .ok (.invokestatic 167, 3) := by decide +kernel
theorem d_L_law_506 : decode y_L_law.2.1 506 = .ok (.istore 5, 2) := by decide +kernel
theorem d_L_law_508 : decode y_L_law.2.1 508 = .ok (.aload_n 2, 1) := by decide +kernel
theorem d_L_law_509 : decode y_L_law.2.1 509 = .ok (.aload_n 0, 1) := by decide +kernel
theorem d_L_law_510 : decode y_L_law.2.1 510 = .ok (.iload 4, 2) := by decide +kernel
theorem d_L_law_512 : decode y_L_law.2.1 512 = .ok (.iconst 1, 1) := by decide +kernel
theorem d_L_law_513 : decode y_L_law.2.1 513 = .ok (.iadd, 1) := by decide +kernel
theorem d_L_law_514 : decode y_L_law.2.1 514 = .ok (.iaload, 1) := by decide +kernel
theorem d_L_law_515 : decode y_L_law.2.1 515 = .ok (.aload_n 0, 1) := by decide +kernel
theorem d_L_law_516 : decode y_L_law.2.1 516 = .ok (.iload 4, 2) := by decide +kernel
theorem d_L_law_518 : decode y_L_law.2.1 518 = .ok (.iconst 2, 1) := by decide +kernel
theorem d_L_law_519 : decode y_L_law.2.1 519 = .ok (.iadd, 1) := by decide +kernel
theorem d_L_law_520 : decode y_L_law.2.1 520 = .ok (.iaload, 1) := by decide +kernel
theorem d_L_law_521 : decode y_L_law.2.1 521 = .ok (.aload_n 0, 1) := by decide +kernel
theorem d_L_law_522 : decode y_L_law.2.1 522 = .ok (.iload 4, 2) := by decide +kernel
theorem d_L_law_524 : decode y_L_law.2.1 524 = .ok (.iconst 3, 1) := by decide +kernel
theorem d_L_law_525 : decode y_L_law.2.1 525 = .ok (.iadd, 1) := by decide +kernel
theorem d_L_law_526 : decode y_L_law.2.1 526 = .ok (.iaload, 1) := by decide +kernel
theorem d_L_law_527 : decode y_L_law.2.1 527 = .ok (.aload_n 0, 1) := by decide +kernel
theorem d_L_law_528 : decode y_L_law.2.1 528 = .ok (.iload 4, 2) := by decide +kernel
theorem d_L_law_530 : decode y_L_law.2.1 530 = .ok (.iconst 4, 1) := by decide +kernel
theorem d_L_law_531 : decode y_L_law.2.1 531 = .ok (.iadd, 1) := by decide +kernel
theorem d_L_law_532 : decode y_L_law.2.1 532 = .ok (.iaload, 1) := by decide +kernel
theorem d_L_law_533 : decode y_L_law.2.1 533 = .ok (.aload_n 0, 1) := by decide +kernel
theorem d_L_law_534 : decode y_L_law.2.1 534 = .ok (.iload 4, 2) := by decide +kernel
theorem d_L_law_536 : decode y_L_law.2.1 536 = .ok (.iconst 5, 1) := by decide +kernel
theorem d_L_law_537 : decode y_L_law.2.1 537 = .ok (.iadd, 1) := by decide +kernel
theorem d_L_law_538 : decode y_L_law.2.1 538 = .ok (.iaload, 1) := by decide +kernel
theorem d_L_law_539 : decode y_L_law.2.1 539 = .ok (.aload_n 0, 1) := by decide +kernel
theorem d_L_law_540 : decode y_L_law.2.1 540 = .ok (.iload 4, 2) := by decide +kernel
theorem d_L_law_542 : decode y_L_law.2.1 542 = .ok (.bipush 6, 2) := by decide +kernel
theorem d_L_law_544 : decode y_L_law.2.1 544 = .ok (.iadd, 1) := by decide +kernel
theorem d_L_law_545 : decode y_L_law.2.1 545 = .ok (.iaload, 1) := by decide +kernel
theorem d_L_law_546 : decode y_L_law.2.1 546 = .ok (.invokevirtual 170, 3) := by decide +kernel
theorem d_L_law_549 : decode y_L_law.2.1 549 = .ok (.istore 6, 2) := by decide +kernel
theorem d_L_law_551 : decode y_L_law.2.1 551 = .ok (.aload_n 2, 1) := by decide +kernel
theorem d_L_law_552 : decode y_L_law.2.1 552 = .ok (.invokevirtual 156, 3) := by decide +kernel
theorem d_L_law_555 : decode y_L_law.2.1 555 = .ok (.iload 5, 2) := by decide +kernel
