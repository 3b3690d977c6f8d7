theorem d_L_law_262 : decode code 262 = .ok (.iconst 0, 1) := by decide +kernel
theorem d_L_law_263 : decode code 263 = .ok (.ireturn, 1) := by decide +kernel
theorem d_L_law_264 : decode code 264 = .ok (.iload 5, 2) := by decide +kernel
theorem d_L_law_266 : decode code 266 = .ok (.ifCond .ne 15, 3) := by decide +kernel
theorem d_L_law_269 : decode code 269 = .ok (.aload_n 3, 1) := by decide +kernel
theorem d_L_law_270 : decode code 270 = .ok (.iconst 0, 1) := by decide +kernel
theorem d_L_law_271 : decode code 271 = .ok (.laload, 1) := by decide +kernel
theorem d_L_law_272 : decode code 272 = .ok (.iload 6, 2) := by decide +kernel
theorem d_L_law_274 : decode code 274 = .ok (.i2l, 1) := by decide +kernel
theorem d_L_law_275 : decode code 275 = .ok (.lcmp, 1) := by decide +kernel
theorem d_L_law_276 : decode code 276 = .ok (.ifCond .eq 5, 3) := by decide +kernel
theorem d_L_law_279 : decode code 279 = .ok (.iconst 0, 1) := by decide +kernel
theorem d_L_law_280 : decode code 280 = .ok (.ireturn, 1) := by decide +kernel
theorem d_L_law_281 : decode code 281 = .ok (.goto 699, 3) := by decide +kernel
theorem d_L_law_284 : decode code 284 = .ok (.aload_n 1, 1) := by decide +kernel
theorem d_L_law_285 : decode code 285 = .ok (.aload_n 0, 1) := by decide +kernel
theorem d_L_law_286 : decode code 286 = .ok (.iload 4, 2) := by decide +kernel
theorem d_L_law_288 : decode code 288 = .ok (.iconst 1, 1) := by decide +kernel
theorem d_L_law_289 : decode code 289 = .ok (.iadd, 1) := by decide +kernel
theorem d_L_law_290 : decode code 290 = .ok (.iaload, 1) := by decide +kernel
theorem d_L_law_291 : decode code 291 = .ok (.aload_n 0, 1) := by decide +kernel
theorem d_L_law_292 : decode code 292 = .ok (.iload 4, 2) := by decide +kernel
theorem d_L_law_294 : decode code 294 = .ok (.iconst 2, 1) := by decide +kernel
theorem d_L_law_295 : decode code 295 = .ok (.iadd, 1) := by decide +kernel
theorem d_L_law_296 : decode code 296 = .ok (.iaload, 1) := by decide +kernel
theorem d_L_law_297 : decode code 297 = .ok (.invokevirtual 78, 3) := by decide +kernel
theorem d_L_law_300 : decode code 300 = .ok (.aload_n 2, 1) := by decide +kernel
theorem d_L_law_301 : decode code 301 = .ok (.aload_n 0, 1) := by decide +kernel
theorem d_L_law_302 : decode code 302 = .ok (.iload 4, 2) := by decide +kernel
theorem d_L_law_304 : decode code 304 = .ok (.iconst 1, 1) := by decide +kernel
theorem d_L_law_305 : decode code 305 = .ok (.iadd, 1) := by decide +kernel
theorem d_L_law_306 : decode code 306 = .ok (.iaload, 1) := by decide +kernel
theorem d_L_law_307 : decode code 307 = .ok (.aload_n 0, 1) := by decide +kernel
theorem d_L_law_308 : decode code 308 = .ok (.iload 4, 2) := by decide +kernel
theorem d_L_law_310 : decode code 310 = .ok (.iconst 2, 1) := by decide +kernel
theorem d_L_law_311 : decode code 311 = .ok (.iadd, 1) := by decide +kernel
theorem d_L_law_312 : decode code 312 = .ok (.iaload, 1) := by decide +kernel
theorem d_L_law_313 : decode code 313 = .ok (.invokevirtual 82, 3) := by decide +kernel
theorem d_L_law_316 : decode code 316 = .ok (.if_icmp .eq 664, 3) := by decide +kernel
theorem d_L_law_319 : decode code 319 = .ok (.iconst 0, 1) := by decide +kernel
theorem d_L_law_320 : decode code 320 = .ok (.ireturn, 1) := by decide +kernel
theorem d_L_law_321 : decode code 321 = .ok (.aload_n 1, 1) := by decide +kernel
theorem d_L_law_322 : decode code 322 = .ok (.aload_n 0, 1) := by decide +kernel
theorem d_L_law_323 : decode code 323 = .ok (.iload 4, 2) := by decide +kernel
theorem d_L_law_325 : decode code 325 = .ok (.iconst 1, 1) := by decide +kernel
theorem d_L_law_326 : decode code 326 = .ok (.iadd, 1) := by decide +kernel
theorem d_L_law_327 : decode code 327 = .ok (.iaload, 1) := by decide +kernel
theorem d_L_law_328 : decode code 328 = .ok (.aload_n 3, 1) := by decide +kernel
theorem d_L_law_329 : decode code 329 = .ok (.invokestatic 83, 3) := by decide +kernel
theorem d_L_law_332 : decode code 332 = .ok (.istore 5, 2) := by decide +kernel
theorem d_L_law_334 : decode code 334 = .ok (.aload_n 2, 1) := by decide +kernel
theorem d_L_law_335 : decode code 335 = .ok (.aload_n 0, 1) := by decide +kernel
theorem d_L_law_336 : decode code 336 = .ok (.iload 4, 2) := by decide +kernel
theorem d_L_law_338 : decode code 338 = .ok (.iconst 1, 1) := by decide +kernel
theorem d_L_law_339 : decode code 339 = .ok (.iadd, 1) := by decide +kernel
theorem d_L_law_340 : decode code 340 = .ok (.iaload, 1) := by decide +kernel
theorem d_L_law_341 : decode code 341 = .ok (.invokevirtual 86, 3) := by decide +kernel
theorem d_L_law_344 : decode code 344 = .ok (.istore 6, 2) := by decide +kernel
theorem d_L_law_346 : decode code 346 = .ok (.aload_n 2, 1) := by decide +kernel
theorem d_L_law_347 : decode code 347 = .ok (.invokevirtual 68, 3) := by decide +kernel
theorem d_L_law_350 : decode code 350 = .ok (.iload 5, 2) := by decide +kernel
theorem d_L_law_352 : decode code 352 = .ok (.if_icmp .eq 5, 3) := by decide +kernel
theorem d_L_law_355 : decode code 355 = .ok (.iconst 0, 1) := by decide +kernel
theorem d_L_law_356 : decode code 356 = .ok (.ireturn, 1) := by decide +kernel
theorem d_L_law_357 : decode code 357 = .ok (.iload 5, 2) := by decide +kernel
theorem d_L_law_359 : decode code 359 = .ok (.ifCond .ne 15, 3) := by decide +kernel
theorem d_L_law_362 : decode code 362 = .ok (.aload_n 3, 1) := by decide +kernel
theorem d_L_law_363 : decode code 363 = .ok (.iconst 0, 1) := by decide +kernel
theorem d_L_law_364 : decode code 364 = .ok (.laload, 1) := by decide +kernel
theorem d_L_law_365 : decode code 365 = .ok (.iload 6, 2) := by decide +kernel
theorem d_L_law_367 : decode code 367 = .ok (.i2l, 1) := by decide +kernel
theorem d_L_law_368 : decode code 368 = .ok (.lcmp, 1) := by decide +kernel
theorem d_L_law_369 : decode code 369 = .ok (.ifCond .eq 5, 3) := by decide +kernel
theorem d_L_law_372 : decode code 372 = .ok (.iconst 0, 1) := by decide +kernel
theorem d_L_law_373 : decode code 373 = .ok (.ireturn, 1) := by decide +kernel
theorem d_L_law_374 : decode code 374 = .ok (.goto 606, 3) := by decide +kernel
theorem d_L_law_377 : decode code 377 = .ok (.aload_n 1, 1) := by decide +kernel
theorem d_L_law_378 : decode code 378 = .ok (.aload_n 0, 1) := by decide +kernel
theorem d_L_law_379 : decode code 379 = .ok (.iload 4, 2) := by decide +kernel
theorem d_L_law_381 : decode code 381 = .ok (.iconst 1, 1) := by decide +kernel
theorem d_L_law_382 : decode code 382 = .ok (.iadd, 1) := by decide +kernel
theorem d_L_law_383 : decode code 383 = .ok (.iaload, 1) := by decide +kernel
theorem d_L_law_384 : decode code 384 = .ok (.aload_n 0, 1) := by decide +kernel
theorem d_L_law_385 : decode code 385 = .ok (.iload 4, 2) := by decide +kernel
theorem d_L_law_387 : decode code 387 = .ok (.iconst 2, 1) := by decide +kernel
theorem d_L_law_388 : decode code 388 = .ok (.iadd, 1) := by decide +kernel
theorem d_L_law_389 : decode code 389 = .ok (.iaload, 1) := by decide +kernel
theorem d_L_law_390 : decode code 390 = .ok (.i2l, 1) := by decide +kernel
theorem d_L_law_391 : decode code 391 = .ok (.bipush 32, 2) := by decide +kernel
theorem d_L_law_393 : decode code 393 = .ok (.lshl, 1) := by decide +kernel
theorem d_L_law_394 : decode code 394 = .ok (.aload_n 0, 1) := by decide +kernel
theorem d_L_law_395 : decode code 395 = .ok (.iload 4, 2) := by decide +kernel
theorem d_L_law_397 : decode code 397 = .ok (.iconst 3, 1) := by decide +kernel
theorem d_L_law_398 : decode code 398 = .ok (.iadd, 1) := by decide +kernel
theorem d_L_law_399 : decode code 399 = .ok (.iaload, 1) := by decide +kernel
theorem d_L_law_400 : decode code 400 = .ok (.i2l, 1) := by decide +kernel
theorem d_L_law_401 : decode code 401 = .ok (.ldc2_w 72, 3) := by decide +kernel
theorem d_L_law_404 : decode code 404 = .ok (.land, 1) := by decide +kernel
theorem d_L_law_405 : decode code 405 = .ok (.lor, 1) := by decide +kernel
theorem d_L_law_406 : decode code 406 = .ok (.aload_n 3, 1) := by decide +kernel
theorem d_L_law_407 : decode code 407 = .ok (.invokestatic 87, 3) := by decide +kernel
theorem d_L_law_410 : decode code 410 = .ok (.istore 5, 2) := by decide +kernel
theorem d_L_law_412 : decode code 412 = .ok (.aload_n 2, 1) := by decide +kernel
theorem d_L_law_413 : decode code 413 = .ok (.aload_n 0, 1) := by decide +kernel
theorem d_L_law_414 : decode code 414 = .ok (.iload 4, 2) := by decide +kernel
theorem d_L_law_416 : decode code 416 = .ok (.iconst 1, 1) := by decide +kernel
theorem d_L_law_417 : decode code 417 = .ok (.iadd, 1) := by decide +kernel
theorem d_L_law_418 : decode code 418 = .ok (.iaload, 1) := by decide +kernel
theorem d_L_law_419 : decode code 419 = .ok (.aload_n 0, 1) := by decide +kernel
theorem d_L_law_420 : decode code 420 = .ok (.iload 4, 2) := by decide +kernel
theorem d_L_law_422 : decode code 422 = .ok (.iconst 2, 1) := by decide +kernel
theorem d_L_law_423 : decode code 423 = .ok (.iadd, 1) := by decide +kernel
theorem d_L_law_424 : decode code 424 = .ok (.iaload, 1) := by decide +kernel
theorem d_L_law_425 : decode code 425 = .ok (.i2l, 1) := by decide +kernel
theorem d_L_law_426 : decode code 426 = .ok (.bipush 32, 2) := by decide +kernel
theorem d_L_law_428 : decode code 428 = .ok (.lshl, 1) := by decide +kernel
theorem d_L_law_429 : decode code 429 = .ok (.aload_n 0, 1) := by decide +kernel
theorem d_L_law_430 : decode code 430 = .ok (.iload 4, 2) := by decide +kernel
theorem d_L_law_432 : decode code 432 = .ok (.iconst 3, 1) := by decide +kernel
theorem d_L_law_433 : decode code 433 = .ok (.iadd, 1) := by decide +kernel
theorem d_L_law_434 : decode code 434 = .ok (.iaload, 1) := by decide +kernel
theorem d_L_law_435 : decode code 435 = .ok (.i2l, 1) := by decide +kernel
theorem d_L_law_436 : decode code 436 = .ok (.ldc2_w 72, 3) := by decide +kernel
theorem d_L_law_439 : decode code 439 = .ok (.land, 1) := by decide +kernel
theorem d_L_law_440 : decode code 440 = .ok (.lor, 1) := by decide +kernel
theorem d_L_law_441 : decode code 441 = .ok (.invokevirtual 90, 3) := by decide +kernel
theorem d_L_law_444 : decode code 444 = .ok (.istore 6, 2) := by decide +kernel
theorem d_L_law_446 : decode code 446 = .ok (.aload_n 2, 1) := by decide +kernel
theorem d_L_law_447 : decode code 447 = .ok (.invokevirtual 68, 3) := by decide +kernel
theorem d_L_law_450 : decode code 450 = .ok (.iload 5, 2) := by decide +kernel
theorem d_L_law_452 : decode code 452 = .ok (.if_icmp .eq 5, 3) := by decide +kernel
theorem d_L_law_455 : decode code 455 = .ok (.iconst 0, 1) := by decide +kernel
theorem d_L_law_456 : decode code 456 = .ok (.ireturn, 1) := by decide +kernel
theorem d_L_law_457 : decode code 457 = .ok (.iload 5, 2) := by decide +kernel
theorem d_L_law_459 : decode code 459 = .ok (.ifCond .ne 15, 3) := by decide +kernel
theorem d_L_law_462 : decode code 462 = .ok (.aload_n 3, 1) := by decide +kernel
theorem d_L_law_463 : decode code 463 = .ok (.iconst 0, 1) := by decide +kernel
theorem d_L_law_464 : decode code 464 = .ok (.laload, 1) := by decide +kernel
theorem d_L_law_465 : decode code 465 = .ok (.iload 6, 2) := by decide +kernel
theorem d_L_law_467 : decode code 467 = .ok (.i2l, 1) := by decide +kernel
theorem d_L_law_468 : decode code 468 = .ok (.lcmp, 1) := by decide +kernel
theorem d_L_law_469 : decode code 469 = .ok (.ifCond .eq 5, 3) := by decide +kernel
theorem d_L_law_472 : decode code 472 = .ok (.iconst 0, 1) := by decide +kernel
theorem d_L_law_473 : decode code 473 = .ok (.ireturn, 1) := by decide +kernel
theorem d_L_law_474 : decode code 474 = .ok (.goto 506, 3) := by decide +kernel
theorem d_L_law_477 : decode code 477 = .ok (.aload_n 1, 1) := by decide +kernel
theorem d_L_law_478 : decode code 478 = .ok (.aload_n 0, 1) := by decide +kernel
theorem d_L_law_479 : decode code 479 = .ok (.iload 4, 2) := by decide +kernel
theorem d_L_law_481 : decode code 481 = .ok (.iconst 1, 1) := by decide +kernel
theorem d_L_law_482 : decode code 482 = .ok (.iadd, 1) := by decide +kernel
theorem d_L_law_483 : decode code 483 = .ok (.iaload, 1) := by decide +kernel
theorem d_L_law_484 : decode code 484 = .ok (.aload_n 0, 1) := by decide +kernel
theorem d_L_law_485 : decode code 485 = .ok (.iload 4, 2) := by decide +kernel
theorem d_L_law_487 : decode code 487 = .ok (.iconst 2, 1) := by decide +kernel
theorem d_L_law_488 : decode code 488 = .ok (.iadd, 1) := by decide +kernel
theorem d_L_law_489 : decode code 489 = .ok (.iaload, 1) := by decide +kernel
theorem d_L_law_490 : decode code 490 = .ok (.aload_n 3, 1) := by decide +kernel
theorem d_L_law_491 : decode code 491 = .ok (.invokestatic 91, 3) := by decide +kernel
theorem d_L_law_494 : decode code 494 = .ok (.istore 5, 2) := by decide +kernel
theorem d_L_law_496 : decode code 496 = .ok (.aload_n 2, 1) := by decide +kernel
theorem d_L_law_497 : decode code 497 = .ok (.aload_n 0, 1) := by decide +kernel
theorem d_L_law_498 : decode code 498 = .ok (.iload 4, 2) := by decide +kernel
theorem d_L_law_500 : decode code 500 = .ok (.iconst 1, 1) := by decide +kernel
theorem d_L_law_501 : decode code 501 = .ok (.iadd, 1) := by decide +kernel
theorem d_L_law_502 : decode code 502 = .ok (.iaload, 1) := by decide +kernel
theorem d_L_law_503 : decode code 503 = .ok (.aload_n 0, 1) := by decide +kernel
theorem d_L_law_504 : decode code 504 = .ok (.iload 4, 2) := by decide +kernel
theorem d_L_law_506 : decode code 506 = .ok (.iconst 2, 1) := by decide +kernel
theorem d_L_law_507 : decode code 507 = .ok (.iadd, 1) := by decide +kernel
theorem d_L_law_508 : decode code 508 = .ok (.iaload, 1) := by decide +kernel
theorem d_L_law_509 : decode code 509 = .ok (.invokevirtual 94, 3) := by decide +kernel
theorem d_L_law_512 : decode code 512 = .ok (.istore 6, 2) := by decide +kernel
theorem d_L_law_514 : decode code 514 = .ok (.aload_n 2, 1) := by decide +kernel
theorem d_L_law_515 : decode code 515 = .ok (.invokevirtual 68, 3) := by decide +kernel
theorem d_L_law_518 : decode code 518 = .ok (.iload 5, 2) := by decide +kernel
