theorem d_L_law_297 : decode code 297 = .ok (.land, 1) := by decide +kernel
theorem d_L_law_298 : decode code 298 = .ok (.lor, 1) := by decide +kernel
theorem d_L_law_299 : decode code 299 = .ok (.invokevirtual 20, 3) := by decide +kernel
theorem d_L_law_302 : decode code 302 = .ok (.aload_n 2, 1) := by decide +kernel
theorem d_L_law_303 : decode code 303 = .ok (.aload_n 0, 1) := by decide +kernel
theorem d_L_law_304 : decode code 304 = .ok (.iload_n 3, 1) := by decide +kernel
theorem d_L_law_305 : decode code 305 = .ok (.iconst 1, 1) := by decide +kernel
theorem d_L_law_306 : decode code 306 = .ok (.iadd, 1) := by decide +kernel
theorem d_L_law_307 : decode code 307 = .ok (.iaload, 1) := by decide +kernel
theorem d_L_law_308 : decode code 308 = .ok (.aload_n 0, 1) := by decide +kernel
theorem d_L_law_309 : decode code 309 = .ok (.iload_n 3, 1) := by decide +kernel
theorem d_L_law_310 : decode code 310 = .ok (.iconst 2, 1) := by decide +kernel
theorem d_L_law_311 : decode code 311 = .ok (.iadd, 1) := by decide +kernel
theorem d_L_law_312 : decode code 312 = .ok (.iaload, 1) := by decide +kernel
theorem d_L_law_313 : decode code 313 = .ok (.i2l, 1) := by decide +kernel
theorem d_L_law_314 : decode code 314 = .ok (.bipush 32, 2) := by decide +kernel
theorem d_L_law_316 : decode code 316 = .ok (.lshl, 1) := by decide +kernel
theorem d_L_law_317 : decode code 317 = .ok (.aload_n 0, 1) := by decide +kernel
theorem d_L_law_318 : decode code 318 = .ok (.iload_n 3, 1) := by decide +kernel
theorem d_L_law_319 : decode code 319 = .ok (.iconst 3, 1) := by decide +kernel
theorem d_L_law_320 : decode code 320 = .ok (.iadd, 1) := by decide +kernel
theorem d_L_law_321 : decode code 321 = .ok (.iaload, 1) := by decide +kernel
theorem d_L_law_322 : decode code 322 = .ok (.i2l, 1) := by decide +kernel
theorem d_L_law_323 : decode code 323 = .ok (.ldc2_w 13, 3) := by decide +kernel
theorem d_L_law_326 : decode code 326 = .ok (.land, 1) := by decide +kernel
theorem d_L_law_327 : decode code 327 = .ok (.lor, 1) := by decide +kernel
theorem d_L_law_328 : decode code 328 = .ok (.aload_n 0, 1) := by decide +kernel
theorem d_L_law_329 : decode code 329 = .ok (.iload_n 3, 1) := by decide +kernel
theorem d_L_law_330 : decode code 330 = .ok (.iconst 4, 1) := by decide +kernel
theorem d_L_law_331 : decode code 331 = .ok (.iadd, 1) := by decide +kernel
theorem d_L_law_332 : decode code 332 = .ok (.iaload, 1) := by decide +kernel
theorem d_L_law_333 : decode code 333 = .ok (.aload_n 0, 1) := by decide +kernel
theorem d_L_law_334 : decode code 334 = .ok (.iload_n 3, 1) := by decide +kernel
theorem d_L_law_335 : decode code 335 = .ok (.iconst 5, 1) := by decide +kernel
theorem d_L_law_336 : decode code 336 = .ok (.iadd, 1) := by decide +kernel
theorem d_L_law_337 : decode code 337 = .ok (.iaload, 1) := by decide +kernel
theorem d_L_law_338 : decode code 338 = .ok (.i2l, 1) := by decide +kernel
theorem d_L_law_339 : decode code 339 = .ok (.bipush 32, 2) := by decide +kernel
theorem d_L_law_341 : decode code 341 = .ok (.lshl, 1) := by decide +kernel
theorem d_L_law_342 : decode code 342 = .ok (.aload_n 0, 1) := by decide +kernel
theorem d_L_law_343 : decode code 343 = .ok (.iload_n 3, 1) := by decide +kernel
theorem d_L_law_344 : decode code 344 = .ok (.bipush 6, 2) := by decide +kernel
theorem d_L_law_346 : decode code 346 = .ok (.iadd, 1) := by decide +kernel
theorem d_L_law_347 : decode code 347 = .ok (.iaload, 1) := by decide +kernel
theorem d_L_law_348 : decode code 348 = .ok (.i2l, 1) := by decide +kernel
theorem d_L_law_349 : decode code 349 = .ok (.ldc2_w 13, 3) := by decide +kernel
theorem d_L_law_352 : decode code 352 = .ok (.land, 1) := by decide +kernel
theorem d_L_law_353 : decode code 353 = .ok (.lor, 1) := by decide +kernel
theorem d_L_law_354 : decode code 354 = .ok (.invokevirtual 24, 3) := by decide +kernel
theorem d_L_law_357 : decode code 357 = .ok (.if_icmp .eq 845, 3) := by decide +kernel
theorem d_L_law_360 : decode code 360 = .ok (.iconst 0, 1) := by decide +kernel
theorem d_L_law_361 : decode code 361 = .ok (.ireturn, 1) := by decide +kernel
theorem d_L_law_362 : decode code 362 = .ok (.aload_n 1, 1) := by decide +kernel
theorem d_L_law_363 : decode code 363 = .ok (.aload_n 0, 1) := by decide +kernel
theorem d_L_law_364 : decode code 364 = .ok (.iload_n 3, 1) := by decide +kernel
theorem d_L_law_365 : decode code 365 = .ok (.iconst 1, 1) := by decide +kernel
theorem d_L_law_366 : decode code 366 = .ok (.iadd, 1) := by decide +kernel
theorem d_L_law_367 : decode code 367 = .ok (.iaload, 1) := by decide +kernel
theorem d_L_law_368 : decode code 368 = .ok (.aload_n 0, 1) := by decide +kernel
theorem d_L_law_369 : decode code 369 = .ok (.iload_n 3, 1) := by decide +kernel
theorem d_L_law_370 : decode code 370 = .ok (.iconst 2, 1) := by decide +kernel
theorem d_L_law_371 : decode code 371 = .ok (.iadd, 1) := by decide +kernel
theorem d_L_law_372 : decode code 372 = .ok (.iaload, 1) := by decide +kernel
theorem d_L_law_373 : decode code 373 = .ok (.invokevirtual 25, 3) := by decide +kernel
theorem d_L_law_376 : decode code 376 = .ok (.aload_n 2, 1) := by decide +kernel
theorem d_L_law_377 : decode code 377 = .ok (.aload_n 0, 1) := by decide +kernel
theorem d_L_law_378 : decode code 378 = .ok (.iload_n 3, 1) := by decide +kernel
theorem d_L_law_379 : decode code 379 = .ok (.iconst 1, 1) := by decide +kernel
theorem d_L_law_380 : decode code 380 = .ok (.iadd, 1) := by decide +kernel
theorem d_L_law_381 : decode code 381 = .ok (.iaload, 1) := by decide +kernel
theorem d_L_law_382 : decode code 382 = .ok (.aload_n 0, 1) := by decide +kernel
theorem d_L_law_383 : decode code 383 = .ok (.iload_n 3, 1) := by decide +kernel
theorem d_L_law_384 : decode code 384 = .ok (.iconst 2, 1) := by decide +kernel
theorem d_L_law_385 : decode code 385 = .ok (.iadd, 1) := by decide +kernel
theorem d_L_law_386 : decode code 386 = .ok (.iaload, 1) := by decide +kernel
theorem d_L_law_387 : decode code 387 = .ok (.invokevirtual 29, 3) := by decide +kernel
theorem d_L_law_390 : decode code 390 = .ok (.if_icmp .eq 812, 3) := by decide +kernel
theorem d_L_law_393 : decode code 393 = .ok (.iconst 0, 1) := by decide +kernel
theorem d_L_law_394 : decode code 394 = .ok (.ireturn, 1) := by decide +kernel
theorem d_L_law_395 : decode code 395 = .ok (.aload_n 1, 1) := by decide +kernel
theorem d_L_law_396 : decode code 396 = .ok (.aload_n 0, 1) := by decide +kernel
theorem d_L_law_397 : decode code 397 = .ok (.iload_n 3, 1) := by decide +kernel
theorem d_L_law_398 : decode code 398 = .ok (.iconst 1, 1) := by decide +kernel
theorem d_L_law_399 : decode code 399 = .ok (.iadd, 1) := by decide +kernel
theorem d_L_law_400 : decode code 400 = .ok (.iaload, 1) := by decide +kernel
theorem d_L_law_401 : decode code 401 = .ok (.aload_n 0, 1) := by decide +kernel
theorem d_L_law_402 : decode code 402 = .ok (.iload_n 3, 1) := by decide +kernel
theorem d_L_law_403 : decode code 403 = .ok (.iconst 2, 1) := by decide +kernel
theorem d_L_law_404 : decode code 404 = .ok (.iadd, 1) := by decide +kernel
theorem d_L_law_405 : decode code 405 = .ok (.iaload, 1) := by decide +kernel
theorem d_L_law_406 : decode code 406 = .ok (.i2l, 1) := by decide +kernel
theorem d_L_law_407 : decode code 407 = .ok (.bipush 32, 2) := by decide +kernel
theorem d_L_law_409 : decode code 409 = .ok (.lshl, 1) := by decide +kernel
theorem d_L_law_410 : decode code 410 = .ok (.aload_n 0, 1) := by decide +kernel
theorem d_L_law_411 : decode code 411 = .ok (.iload_n 3, 1) := by decide +kernel
theorem d_L_law_412 : decode code 412 = .ok (.iconst 3, 1) := by decide +kernel
theorem d_L_law_413 : decode code 413 = .ok (.iadd, 1) := by decide +kernel
theorem d_L_law_414 : decode code 414 = .ok (.iaload, 1) := by decide +kernel
theorem d_L_law_415 : decode code 415 = .ok (.i2l, 1) := by decide +kernel
theorem d_L_law_416 : decode code 416 = .ok (.ldc2_w 13, 3) := by decide +kernel
theorem d_L_law_419 : decode code 419 = .ok (.land, 1) := by decide +kernel
theorem d_L_law_420 : decode code 420 = .ok (.lor, 1) := by decide +kernel
theorem d_L_law_421 : decode code 421 = .ok (.aload_n 0, 1) := by decide +kernel
theorem d_L_law_422 : decode code 422 = .ok (.iload_n 3, 1) := by decide +kernel
theorem d_L_law_423 : decode code 423 = .ok (.iconst 4, 1) := by decide +kernel
theorem d_L_law_424 : decode code 424 = .ok (.iadd, 1) := by decide +kernel
theorem d_L_law_425 : decode code 425 = .ok (.iaload, 1) := by decide +kernel
theorem d_L_law_426 : decode code 426 = .ok (.aload_n 0, 1) := by decide +kernel
theorem d_L_law_427 : decode code 427 = .ok (.iload_n 3, 1) := by decide +kernel
theorem d_L_law_428 : decode code 428 = .ok (.iconst 5, 1) := by decide +kernel
theorem d_L_law_429 : decode code 429 = .ok (.iadd, 1) := by decide +kernel
theorem d_L_law_430 : decode code 430 = .ok (.iaload, 1) := by decide +kernel
theorem d_L_law_431 : decode code 431 = .ok (.i2l, 1) := by decide +kernel
theorem d_L_law_432 : decode code 432 = .ok (.bipush 32, 2) := by decide +kernel
theorem d_L_law_434 : decode code 434 = .ok (.lshl, 1) := by decide +kernel
theorem d_L_law_435 : decode code 435 = .ok (.aload_n 0, 1) := by decide +kernel
theorem d_L_law_436 : decode code 436 = .ok (.iload_n 3, 1) := by decide +kernel
theorem d_L_law_437 : decode code 437 = .ok (.bipush 6, 2) := by decide +kernel
theorem d_L_law_439 : decode code 439 = .ok (.iadd, 1) := by decide +kernel
theorem d_L_law_440 : decode code 440 = .ok (.iaload, 1) := by decide +kernel
theorem d_L_law_441 : decode code 441 = .ok (.i2l, 1) := by decide +kernel
theorem d_L_law_442 : decode code 442 = .ok (.ldc2_w 13, 3) := by decide +kernel
theorem d_L_law_445 : decode code 445 = .ok (.land, 1) := by decide +kernel
theorem d_L_law_446 : decode code 446 = .ok (.lor, 1) := by decide +kernel
theorem d_L_law_447 : decode code 447 = .ok (.invokevirtual 30, 3) := by decide +kernel
theorem d_L_law_450 : decode code 450 = .ok (.aload_n 2, 1) := by decide +kernel
theorem d_L_law_451 : decode code 451 = .ok (.aload_n 0, 1) := by decide +kernel
theorem d_L_law_452 : decode code 452 = .ok (.iload_n 3, 1) := by decide +kernel
theorem d_L_law_453 : decode code 453 = .ok (.iconst 1, 1) := by decide +kernel
theorem d_L_law_454 : decode code 454 = .ok (.iadd, 1) := by decide +kernel
theorem d_L_law_455 : decode code 455 = .ok (.iaload, 1) := by decide +kernel
theorem d_L_law_456 : decode code 456 = .ok (.aload_n 0, 1) := by decide +kernel
theorem d_L_law_457 : decode code 457 = .ok (.iload_n 3, 1) := by decide +kernel
theorem d_L_law_458 : decode code 458 = .ok (.iconst 2, 1) := by decide +kernel
theorem d_L_law_459 : decode code 459 = .ok (.iadd, 1) := by decide +kernel
theorem d_L_law_460 : decode code 460 = .ok (.iaload, 1) := by decide +kernel
theorem d_L_law_461 : decode code 461 = .ok (.i2l, 1) := by decide +kernel
theorem d_L_law_462 : decode code 462 = .ok (.bipush 32, 2) := by decide +kernel
theorem d_L_law_464 : decode code 464 = .ok (.lshl, 1) := by decide +kernel
theorem d_L_law_465 : decode code 465 = .ok (.aload_n 0, 1) := by decide +kernel
theorem d_L_law_466 : decode code 466 = .ok (.iload_n 3, 1) := by decide +kernel
theorem d_L_law_467 : decode code 467 = .ok (.iconst 3, 1) := by decide +kernel
theorem d_L_law_468 : decode code 468 = .ok (.iadd, 1) := by decide +kernel
theorem d_L_law_469 : decode code 469 = .ok (.iaload, 1) := by decide +kernel
theorem d_L_law_470 : decode code 470 = .ok (.i2l, 1) := by decide +kernel
theorem d_L_law_471 : decode code 471 = .ok (.ldc2_w 13, 3) := by decide +kernel
theorem d_L_law_474 : decode code 474 = .ok (.land, 1) := by decide +kernel
theorem d_L_law_475 : decode code 475 = .ok (.lor, 1) := by decide +kernel
theorem d_L_law_476 : decode code 476 = .ok (.aload_n 0, 1) := by decide +kernel
theorem d_L_law_477 : decode code 477 = .ok (.iload_n 3, 1) := by decide +kernel
theorem d_L_law_478 : decode code 478 = .ok (.iconst 4, 1) := by decide +kernel
theorem d_L_law_479 : decode code 479 = .ok (.iadd, 1) := by decide +kernel
theorem d_L_law_480 : decode code 480 = .ok (.iaload, 1) := by decide +kernel
theorem d_L_law_481 : decode code 481 = .ok (.aload_n 0, 1) := by decide +kernel
theorem d_L_law_482 : decode code 482 = .ok (.iload_n 3, 1) := by decide +kernel
theorem d_L_law_483 : decode code 483 = .ok (.iconst 5, 1) := by decide +kernel
theorem d_L_law_484 : decode code 484 = .ok (.iadd, 1) := by decide +kernel
theorem d_L_law_485 : decode code 485 = .ok (.iaload, 1) := by decide +kernel
theorem d_L_law_486 : decode code 486 = .ok (.i2l, 1) := by decide +kernel
theorem d_L_law_487 : decode code 487 = .ok (.bipush 32, 2) := by decide +kernel
theorem d_L_law_489 : decode code 489 = .ok (.lshl, 1) := by decide +kernel
theorem d_L_law_490 : decode code 490 = .ok (.aload_n 0, 1) := by decide +kernel
theorem d_L_law_491 : decode code 491 = .ok (.iload_n 3, 1) := by decide +kernel
theorem d_L_law_492 : decode code 492 = .ok (.bipush 6, 2) := by decide +kernel
theorem d_L_law_494 : decode code 494 = .ok (.iadd, 1) := by decide +kernel
theorem d_L_law_495 : decode code 495 = .ok (.iaload, 1) := by decide +kernel
theorem d_L_law_496 : decode code 496 = .ok (.i2l, 1) := by decide +kernel
theorem d_L_law_497 : decode code 497 = .ok (.ldc2_w 13, 3) := by decide +kernel
theorem d_L_law_500 : decode code 500 = .ok (.land, 1) := by decide +kernel
theorem d_L_law_501 : decode code 501 = .ok (.lor, 1) := by decide +kernel
