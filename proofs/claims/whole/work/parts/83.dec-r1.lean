/-! decode rows of the law -/
theorem d_Law_law_279 : decode c_Law_law 279 = .ok (.ireturn, 1) := by decide +kernel
theorem d_Law_law_280 : decode c_Law_law 280 = .ok (.iload 5, 2) := by decide +kernel
theorem d_Law_law_282 : decode c_Law_law 282 = .ok (.ifCond .ne 15, 3) := by decide +kernel
theorem d_Law_law_285 : decode c_Law_law 285 = .ok (.aload_n 3, 1) := by decide +kernel
theorem d_Law_law_286 : decode c_Law_law 286 = .ok (.iconst 0, 1) := by decide +kernel
theorem d_Law_law_287 : decode c_Law_law 287 = .ok (.laload, 1) := by decide +kernel
theorem d_Law_law_288 : decode c_Law_law 288 = .ok (.iload 6, 2) := by decide +kernel
theorem d_Law_law_290 : decode c_Law_law 290 = .ok (.i2l, 1) := by decide +kernel
theorem d_Law_law_291 : decode c_Law_law 291 = .ok (.lcmp, 1) := by decide +kernel
theorem d_Law_law_292 : decode c_Law_law 292 = .ok (.ifCond .eq 5, 3) := by decide +kernel
theorem d_Law_law_295 : decode c_Law_law 295 = .ok (.iconst 0, 1) := by decide +kernel
theorem d_Law_law_296 : decode c_Law_law 296 = .ok (.ireturn, 1) := by decide +kernel
theorem d_Law_law_297 : decode c_Law_law 297 = .ok (.goto 917, 3) := by decide +kernel
theorem d_Law_law_300 : decode c_Law_law 300 = .ok (.aload_n 1, 1) := by decide +kernel
theorem d_Law_law_301 : decode c_Law_law 301 = .ok (.aload_n 0, 1) := by decide +kernel
theorem d_Law_law_302 : decode c_Law_law 302 = .ok (.iload 4, 2) := by decide +kernel
theorem d_Law_law_304 : decode c_Law_law 304 = .ok (.iconst 1, 1) := by decide +kernel
theorem d_Law_law_305 : decode c_Law_law 305 = .ok (.iadd, 1) := by decide +kernel
theorem d_Law_law_306 : decode c_Law_law 306 = .ok (.iaload, 1) := by decide +kernel
theorem d_Law_law_307 : decode c_Law_law 307 = .ok (.aload_n 0, 1) := by decide +kernel
theorem d_Law_law_308 : decode c_Law_law 308 = .ok (.iload 4, 2) := by decide +kernel
theorem d_Law_law_310 : decode c_Law_law 310 = .ok (.iconst 2, 1) := by decide +kernel
theorem d_Law_law_311 : decode c_Law_law 311 = .ok (.iadd, 1) := by decide +kernel
theorem d_Law_law_312 : decode c_Law_law 312 = .ok (.iaload, 1) := by decide +kernel
theorem d_Law_law_313 : decode c_Law_law 313 = .ok (.aload_n 0, 1) := by decide +kernel
theorem d_Law_law_314 : decode c_Law_law 314 = .ok (.iload 4, 2) := by decide +kernel
theorem d_Law_law_316 : decode c_Law_law 316 = .ok (.iconst 3, 1) := by decide +kernel
theorem d_Law_law_317 : decode c_Law_law 317 = .ok (.iadd, 1) := by decide +kernel
theorem d_Law_law_318 : decode c_Law_law 318 = .ok (.iaload, 1) := by decide +kernel
theorem d_Law_law_319 : decode c_Law_law 319 = .ok (.aload_n 0, 1) := by decide +kernel
theorem d_Law_law_320 : decode c_Law_law 320 = .ok (.iload 4, 2) := by decide +kernel
theorem d_Law_law_322 : decode c_Law_law 322 = .ok (.iconst 4, 1) := by decide +kernel
theorem d_Law_law_323 : decode c_Law_law 323 = .ok (.iadd, 1) := by decide +kernel
theorem d_Law_law_324 : decode c_Law_law 324 = .ok (.iaload, 1) := by decide +kernel
theorem d_Law_law_325 : decode c_Law_law 325 = .ok (.aload_n 0, 1) := by decide +kernel
theorem d_Law_law_326 : decode c_Law_law 326 = .ok (.iload 4, 2) := by decide +kernel
theorem d_Law_law_328 : decode c_Law_law 328 = .ok (.iconst 5, 1) := by decide +kernel
theorem d_Law_law_329 : decode c_Law_law 329 = .ok (.iadd, 1) := by decide +kernel
theorem d_Law_law_330 : decode c_Law_law 330 = .ok (.iaload, 1) := by decide +kernel
theorem d_Law_law_331 : decode c_Law_law 331 = .ok (.aload_n 0, 1) := by decide +kernel
theorem d_Law_law_332 : decode c_Law_law 332 = .ok (.iload 4, 2) := by decide +kernel
theorem d_Law_law_334 : decode c_Law_law 334 = .ok (.bipush 6, 2) := by decide +kernel
theorem d_Law_law_336 : decode c_Law_law 336 = .ok (.iadd, 1) := by decide +kernel
theorem d_Law_law_337 : decode c_Law_law 337 = .ok (.iaload, 1) := by decide +kernel
theorem d_Law_law_338 : decode c_Law_law 338 = .ok (.ifCond .eq 7, 3) := by decide +kernel
theorem d_Law_law_341 : decode c_Law_law 341 = .ok (.iconst 1, 1) := by decide +kernel
theorem d_Law_law_342 : decode c_Law_law 342 = .ok (.goto 4, 3) := by decide +kernel
theorem d_Law_law_345 : decode c_Law_law 345 = .ok (.iconst 0, 1) := by decide +kernel
theorem d_Law_law_346 : decode c_Law_law 346 = .ok (.aload_n 3, 1) := by decide +kernel
theorem d_Law_law_347 : decode c_Law_law 347 = .ok (.invokestatic 64, 3) := by decide +kernel
theorem d_Law_law_350 : decode c_Law_law 350 = .ok (.istore 5, 2) := by decide +kernel
theorem d_Law_law_352 : decode c_Law_law 352 = .ok (.aload_n 2, 1) := by decide +kernel
theorem d_Law_law_353 : decode c_Law_law 353 = .ok (.aload_n 0, 1) := by decide +kernel
theorem d_Law_law_354 : decode c_Law_law 354 = .ok (.iload 4, 2) := by decide +kernel
theorem d_Law_law_356 : decode c_Law_law 356 = .ok (.iconst 1, 1) := by decide +kernel
theorem d_Law_law_357 : decode c_Law_law 357 = .ok (.iadd, 1) := by decide +kernel
theorem d_Law_law_358 : decode c_Law_law 358 = .ok (.iaload, 1) := by decide +kernel
theorem d_Law_law_359 : decode c_Law_law 359 = .ok (.aload_n 0, 1) := by decide +kernel
theorem d_Law_law_360 : decode c_Law_law 360 = .ok (.iload 4, 2) := by decide +kernel
theorem d_Law_law_362 : decode c_Law_law 362 = .ok (.iconst 2, 1) := by decide +kernel
theorem d_Law_law_363 : decode c_Law_law 363 = .ok (.iadd, 1) := by decide +kernel
theorem d_Law_law_364 : decode c_Law_law 364 = .ok (.iaload, 1) := by decide +kernel
theorem d_Law_law_365 : decode c_Law_law 365 = .ok (.aload_n 0, 1) := by decide +kernel
theorem d_Law_law_366 : decode c_Law_law 366 = .ok (.iload 4, 2) := by decide +kernel
theorem d_Law_law_368 : decode c_Law_law 368 = .ok (.iconst 3, 1) := by decide +kernel
theorem d_Law_law_369 : decode c_Law_law 369 = .ok (.iadd, 1) := by decide +kernel
theorem d_Law_law_370 : decode c_Law_law 370 = .ok (.iaload, 1) := by decide +kernel
theorem d_Law_law_371 : decode c_Law_law 371 = .ok (.aload_n 0, 1) := by decide +kernel
theorem d_Law_law_372 : decode c_Law_law 372 = .ok (.iload 4, 2) := by decide +kernel
theorem d_Law_law_374 : decode c_Law_law 374 = .ok (.iconst 4, 1) := by decide +kernel
theorem d_Law_law_375 : decode c_Law_law 375 = .ok (.iadd, 1) := by decide +kernel
theorem d_Law_law_376 : decode c_Law_law 376 = .ok (.iaload, 1) := by decide +kernel
theorem d_Law_law_377 : decode c_Law_law 377 = .ok (.aload_n 0, 1) := by decide +kernel
theorem d_Law_law_378 : decode c_Law_law 378 = .ok (.iload 4, 2) := by decide +kernel
theorem d_Law_law_380 : decode c_Law_law 380 = .ok (.iconst 5, 1) := by decide +kernel
theorem d_Law_law_381 : decode c_Law_law 381 = .ok (.iadd, 1) := by decide +kernel
theorem d_Law_law_382 : decode c_Law_law 382 = .ok (.iaload, 1) := by decide +kernel
theorem d_Law_law_383 : decode c_Law_law 383 = .ok (.aload_n 0, 1) := by decide +kernel
theorem d_Law_law_384 : decode c_Law_law 384 = .ok (.iload 4, 2) := by decide +kernel
theorem d_Law_law_386 : decode c_Law_law 386 = .ok (.bipush 6, 2) := by decide +kernel
theorem d_Law_law_388 : decode c_Law_law 388 = .ok (.iadd, 1) := by decide +kernel
theorem d_Law_law_389 : decode c_Law_law 389 = .ok (.iaload, 1) := by decide +kernel
theorem d_Law_law_390 : decode c_Law_law 390 = .ok (.ifCond .eq 7, 3) := by decide +kernel
theorem d_Law_law_393 : decode c_Law_law 393 = .ok (.iconst 1, 1) := by decide +kernel
theorem d_Law_law_394 : decode c_Law_law 394 = .ok (.goto 4, 3) := by decide +kernel
theorem d_Law_law_397 : decode c_Law_law 397 = .ok (.iconst 0, 1) := by decide +kernel
theorem d_Law_law_398 : decode c_Law_law 398 = .ok (.invokevirtual 67, 3) := by decide +kernel
theorem d_Law_law_401 : decode c_Law_law 401 = .ok (.istore 6, 2) := by decide +kernel
theorem d_Law_law_403 : decode c_Law_law 403 = .ok (.aload_n 2, 1) := by decide +kernel
theorem d_Law_law_404 : decode c_Law_law 404 = .ok (.invokevirtual 57, 3) := by decide +kernel
theorem d_Law_law_407 : decode c_Law_law 407 = .ok (.iload 5, 2) := by decide +kernel
theorem d_Law_law_409 : decode c_Law_law 409 = .ok (.if_icmp .eq 5, 3) := by decide +kernel
theorem d_Law_law_412 : decode c_Law_law 412 = .ok (.iconst 0, 1) := by decide +kernel
theorem d_Law_law_413 : decode c_Law_law 413 = .ok (.ireturn, 1) := by decide +kernel
theorem d_Law_law_414 : decode c_Law_law 414 = .ok (.iload 5, 2) := by decide +kernel
theorem d_Law_law_416 : decode c_Law_law 416 = .ok (.ifCond .ne 15, 3) := by decide +kernel
theorem d_Law_law_419 : decode c_Law_law 419 = .ok (.aload_n 3, 1) := by decide +kernel
theorem d_Law_law_420 : decode c_Law_law 420 = .ok (.iconst 0, 1) := by decide +kernel
theorem d_Law_law_421 : decode c_Law_law 421 = .ok (.laload, 1) := by decide +kernel
theorem d_Law_law_422 : decode c_Law_law 422 = .ok (.iload 6, 2) := by decide +kernel
theorem d_Law_law_424 : decode c_Law_law 424 = .ok (.i2l, 1) := by decide +kernel
theorem d_Law_law_425 : decode c_Law_law 425 = .ok (.lcmp, 1) := by decide +kernel
theorem d_Law_law_426 : decode c_Law_law 426 = .ok (.ifCond .eq 5, 3) := by decide +kernel
theorem d_Law_law_429 : decode c_Law_law 429 = .ok (.iconst 0, 1) := by decide +kernel
theorem d_Law_law_430 : decode c_Law_law 430 = .ok (.ireturn, 1) := by decide +kernel
theorem d_Law_law_431 : decode c_Law_law 431 = .ok (.goto 783, 3) := by decide +kernel
theorem d_Law_law_434 : decode c_Law_law 434 = .ok (.aload_n 1, 1) := by decide +kernel
theorem d_Law_law_435 : decode c_Law_law 435 = .ok (.aload_n 0, 1) := by decide +kernel
theorem d_Law_law_436 : decode c_Law_law 436 = .ok (.iload 4, 2) := by decide +kernel
theorem d_Law_law_438 : decode c_Law_law 438 = .ok (.iconst 1, 1) := by decide +kernel
theorem d_Law_law_439 : decode c_Law_law 439 = .ok (.iadd, 1) := by decide +kernel
theorem d_Law_law_440 : decode c_Law_law 440 = .ok (.iaload, 1) := by decide +kernel
theorem d_Law_law_441 : decode c_Law_law 441 = .ok (.i2l, 1) := by decide +kernel
theorem d_Law_law_442 : decode c_Law_law 442 = .ok (.bipush 32, 2) := by decide +kernel
theorem d_Law_law_444 : decode c_Law_law 444 = .ok (.lshl, 1) := by decide +kernel
theorem d_Law_law_445 : decode c_Law_law 445 = .ok (.aload_n 0, 1) := by decide +kernel
theorem d_Law_law_446 : decode c_Law_law 446 = .ok (.iload 4, 2) := by decide +kernel
theorem d_Law_law_448 : decode c_Law_law 448 = .ok (.iconst 2, 1) := by decide +kernel
theorem d_Law_law_449 : decode c_Law_law 449 = .ok (.iadd, 1) := by decide +kernel
theorem d_Law_law_450 : decode c_Law_law 450 = .ok (.iaload, 1) := by decide +kernel
