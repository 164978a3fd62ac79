theorem d_Pr_doFieldWork_256 : decode c_Pr_doFieldWork 256 = .ok (.getfield 18, 3) := by decide +kernel
theorem d_Pr_doFieldWork_259 : decode c_Pr_doFieldWork 259 = .ok (.iconst 2, 1) := by decide +kernel
theorem d_Pr_doFieldWork_260 : decode c_Pr_doFieldWork 260 = .ok (.lload 4, 2) := by decide +kernel
theorem d_Pr_doFieldWork_262 : decode c_Pr_doFieldWork 262 = .ok (.invokevirtual 99, 3) := by decide +kernel
theorem d_Pr_doFieldWork_265 : decode c_Pr_doFieldWork 265 = .ok (.goto 357, 3) := by decide +kernel
theorem d_Pr_doFieldWork_268 : decode c_Pr_doFieldWork 268 = .ok (.aload_n 0, 1) := by decide +kernel
theorem d_Pr_doFieldWork_269 : decode c_Pr_doFieldWork 269 = .ok (.iconst 0, 1) := by decide +kernel
theorem d_Pr_doFieldWork_270 : decode c_Pr_doFieldWork 270 = .ok (.lload_n 2, 1) := by decide +kernel
theorem d_Pr_doFieldWork_271 : decode c_Pr_doFieldWork 271 = .ok (.lload 4, 2) := by decide +kernel
theorem d_Pr_doFieldWork_273 : decode c_Pr_doFieldWork 273 = .ok (.ladd, 1) := by decide +kernel
theorem d_Pr_doFieldWork_274 : decode c_Pr_doFieldWork 274 = .ok (.invokevirtual 111, 3) := by decide +kernel
theorem d_Pr_doFieldWork_277 : decode c_Pr_doFieldWork 277 = .ok (.goto 345, 3) := by decide +kernel
theorem d_Pr_doFieldWork_280 : decode c_Pr_doFieldWork 280 = .ok (.aload_n 0, 1) := by decide +kernel
theorem d_Pr_doFieldWork_281 : decode c_Pr_doFieldWork 281 = .ok (.iconst 0, 1) := by decide +kernel
theorem d_Pr_doFieldWork_282 : decode c_Pr_doFieldWork 282 = .ok (.lload_n 2, 1) := by decide +kernel
theorem d_Pr_doFieldWork_283 : decode c_Pr_doFieldWork 283 = .ok (.lload 6, 2) := by decide +kernel
theorem d_Pr_doFieldWork_285 : decode c_Pr_doFieldWork 285 = .ok (.ladd, 1) := by decide +kernel
theorem d_Pr_doFieldWork_286 : decode c_Pr_doFieldWork 286 = .ok (.invokevirtual 111, 3) := by decide +kernel
theorem d_Pr_doFieldWork_289 : decode c_Pr_doFieldWork 289 = .ok (.goto 333, 3) := by decide +kernel
theorem d_Pr_doFieldWork_292 : decode c_Pr_doFieldWork 292 = .ok (.aload_n 0, 1) := by decide +kernel
theorem d_Pr_doFieldWork_293 : decode c_Pr_doFieldWork 293 = .ok (.iconst 2, 1) := by decide +kernel
theorem d_Pr_doFieldWork_294 : decode c_Pr_doFieldWork 294 = .ok (.lload_n 2, 1) := by decide +kernel
theorem d_Pr_doFieldWork_295 : decode c_Pr_doFieldWork 295 = .ok (.lload 6, 2) := by decide +kernel
theorem d_Pr_doFieldWork_297 : decode c_Pr_doFieldWork 297 = .ok (.ladd, 1) := by decide +kernel
theorem d_Pr_doFieldWork_298 : decode c_Pr_doFieldWork 298 = .ok (.invokevirtual 111, 3) := by decide +kernel
theorem d_Pr_doFieldWork_301 : decode c_Pr_doFieldWork 301 = .ok (.goto 321, 3) := by decide +kernel
theorem d_Pr_doFieldWork_304 : decode c_Pr_doFieldWork 304 = .ok (.aload_n 0, 1) := by decide +kernel
theorem d_Pr_doFieldWork_305 : decode c_Pr_doFieldWork 305 = .ok (.iconst 0, 1) := by decide +kernel
theorem d_Pr_doFieldWork_306 : decode c_Pr_doFieldWork 306 = .ok (.lload_n 2, 1) := by decide +kernel
theorem d_Pr_doFieldWork_307 : decode c_Pr_doFieldWork 307 = .ok (.lconst 1, 1) := by decide +kernel
theorem d_Pr_doFieldWork_308 : decode c_Pr_doFieldWork 308 = .ok (.ladd, 1) := by decide +kernel
theorem d_Pr_doFieldWork_309 : decode c_Pr_doFieldWork 309 = .ok (.invokevirtual 111, 3) := by decide +kernel
theorem d_Pr_doFieldWork_312 : decode c_Pr_doFieldWork 312 = .ok (.goto 310, 3) := by decide +kernel
theorem d_Pr_doFieldWork_315 : decode c_Pr_doFieldWork 315 = .ok (.aload_n 0, 1) := by decide +kernel
theorem d_Pr_doFieldWork_316 : decode c_Pr_doFieldWork 316 = .ok (.iconst 2, 1) := by decide +kernel
theorem d_Pr_doFieldWork_317 : decode c_Pr_doFieldWork 317 = .ok (.lload 6, 2) := by decide +kernel
theorem d_Pr_doFieldWork_319 : decode c_Pr_doFieldWork 319 = .ok (.lconst 1, 1) := by decide +kernel
theorem d_Pr_doFieldWork_320 : decode c_Pr_doFieldWork 320 = .ok (.ladd, 1) := by decide +kernel
theorem d_Pr_doFieldWork_321 : decode c_Pr_doFieldWork 321 = .ok (.invokevirtual 111, 3) := by decide +kernel
theorem d_Pr_doFieldWork_324 : decode c_Pr_doFieldWork 324 = .ok (.goto 298, 3) := by decide +kernel
theorem d_Pr_doFieldWork_327 : decode c_Pr_doFieldWork 327 = .ok (.aload_n 0, 1) := by decide +kernel
theorem d_Pr_doFieldWork_328 : decode c_Pr_doFieldWork 328 = .ok (.iconst 0, 1) := by decide +kernel
theorem d_Pr_doFieldWork_329 : decode c_Pr_doFieldWork 329 = .ok (.lload_n 2, 1) := by decide +kernel
theorem d_Pr_doFieldWork_330 : decode c_Pr_doFieldWork 330 = .ok (.lload 4, 2) := by decide +kernel
theorem d_Pr_doFieldWork_332 : decode c_Pr_doFieldWork 332 = .ok (.lsub, 1) := by decide +kernel
theorem d_Pr_doFieldWork_333 : decode c_Pr_doFieldWork 333 = .ok (.invokevirtual 111, 3) := by decide +kernel
theorem d_Pr_doFieldWork_336 : decode c_Pr_doFieldWork 336 = .ok (.goto 286, 3) := by decide +kernel
theorem d_Pr_doFieldWork_339 : decode c_Pr_doFieldWork 339 = .ok (.aload_n 0, 1) := by decide +kernel
theorem d_Pr_doFieldWork_340 : decode c_Pr_doFieldWork 340 = .ok (.iconst 0, 1) := by decide +kernel
theorem d_Pr_doFieldWork_341 : decode c_Pr_doFieldWork 341 = .ok (.lload_n 2, 1) := by decide +kernel
theorem d_Pr_doFieldWork_342 : decode c_Pr_doFieldWork 342 = .ok (.lload 6, 2) := by decide +kernel
theorem d_Pr_doFieldWork_344 : decode c_Pr_doFieldWork 344 = .ok (.lsub, 1) := by decide +kernel
theorem d_Pr_doFieldWork_345 : decode c_Pr_doFieldWork 345 = .ok (.invokevirtual 111, 3) := by decide +kernel
theorem d_Pr_doFieldWork_348 : decode c_Pr_doFieldWork 348 = .ok (.goto 274, 3) := by decide +kernel
theorem d_Pr_doFieldWork_351 : decode c_Pr_doFieldWork 351 = .ok (.aload_n 0, 1) := by decide +kernel
theorem d_Pr_doFieldWork_352 : decode c_Pr_doFieldWork 352 = .ok (.iconst 2, 1) := by decide +kernel
theorem d_Pr_doFieldWork_353 : decode c_Pr_doFieldWork 353 = .ok (.lload_n 2, 1) := by decide +kernel
theorem d_Pr_doFieldWork_354 : decode c_Pr_doFieldWork 354 = .ok (.lload 6, 2) := by decide +kernel
theorem d_Pr_doFieldWork_356 : decode c_Pr_doFieldWork 356 = .ok (.lsub, 1) := by decide +kernel
theorem d_Pr_doFieldWork_357 : decode c_Pr_doFieldWork 357 = .ok (.invokevirtual 111, 3) := by decide +kernel
theorem d_Pr_doFieldWork_360 : decode c_Pr_doFieldWork 360 = .ok (.goto 262, 3) := by decide +kernel
theorem d_Pr_doFieldWork_363 : decode c_Pr_doFieldWork 363 = .ok (.aload_n 0, 1) := by decide +kernel
theorem d_Pr_doFieldWork_364 : decode c_Pr_doFieldWork 364 = .ok (.iconst 0, 1) := by decide +kernel
theorem d_Pr_doFieldWork_365 : decode c_Pr_doFieldWork 365 = .ok (.lload_n 2, 1) := by decide +kernel
theorem d_Pr_doFieldWork_366 : decode c_Pr_doFieldWork 366 = .ok (.lconst 1, 1) := by decide +kernel
theorem d_Pr_doFieldWork_367 : decode c_Pr_doFieldWork 367 = .ok (.lsub, 1) := by decide +kernel
theorem d_Pr_doFieldWork_368 : decode c_Pr_doFieldWork 368 = .ok (.invokevirtual 111, 3) := by decide +kernel
theorem d_Pr_doFieldWork_371 : decode c_Pr_doFieldWork 371 = .ok (.goto 251, 3) := by decide +kernel
theorem d_Pr_doFieldWork_374 : decode c_Pr_doFieldWork 374 = .ok (.aload_n 0, 1) := by decide +kernel
theorem d_Pr_doFieldWork_375 : decode c_Pr_doFieldWork 375 = .ok (.iconst 2, 1) := by decide +kernel
theorem d_Pr_doFieldWork_376 : decode c_Pr_doFieldWork 376 = .ok (.lload 6, 2) := by decide +kernel
theorem d_Pr_doFieldWork_378 : decode c_Pr_doFieldWork 378 = .ok (.lconst 1, 1) := by decide +kernel
theorem d_Pr_doFieldWork_379 : decode c_Pr_doFieldWork 379 = .ok (.lsub, 1) := by decide +kernel
theorem d_Pr_doFieldWork_380 : decode c_Pr_doFieldWork 380 = .ok (.invokevirtual 111, 3) := by decide +kernel
theorem d_Pr_doFieldWork_383 : decode c_Pr_doFieldWork 383 = .ok (.goto 239, 3) := by decide +kernel
theorem d_Pr_doFieldWork_386 : decode c_Pr_doFieldWork 386 = .ok (.aload_n 0, 1) := by decide +kernel
theorem d_Pr_doFieldWork_387 : decode c_Pr_doFieldWork 387 = .ok (.iconst 2, 1) := by decide +kernel
theorem d_Pr_doFieldWork_388 : decode c_Pr_doFieldWork 388 = .ok (.lconst 0, 1) := by decide +kernel
theorem d_Pr_doFieldWork_389 : decode c_Pr_doFieldWork 389 = .ok (.lload 6, 2) := by decide +kernel
theorem d_Pr_doFieldWork_391 : decode c_Pr_doFieldWork 391 = .ok (.lsub, 1) := by decide +kernel
theorem d_Pr_doFieldWork_392 : decode c_Pr_doFieldWork 392 = .ok (.invokevirtual 111, 3) := by decide +kernel
theorem d_Pr_doFieldWork_395 : decode c_Pr_doFieldWork 395 = .ok (.goto 227, 3) := by decide +kernel
theorem d_Pr_doFieldWork_398 : decode c_Pr_doFieldWork 398 = .ok (.aload_n 0, 1) := by decide +kernel
theorem d_Pr_doFieldWork_399 : decode c_Pr_doFieldWork 399 = .ok (.iconst 2, 1) := by decide +kernel
theorem d_Pr_doFieldWork_400 : decode c_Pr_doFieldWork 400 = .ok (.lconst 0, 1) := by decide +kernel
theorem d_Pr_doFieldWork_401 : decode c_Pr_doFieldWork 401 = .ok (.lload 6, 2) := by decide +kernel
theorem d_Pr_doFieldWork_403 : decode c_Pr_doFieldWork 403 = .ok (.lsub, 1) := by decide +kernel
theorem d_Pr_doFieldWork_404 : decode c_Pr_doFieldWork 404 = .ok (.lconst 1, 1) := by decide +kernel
theorem d_Pr_doFieldWork_405 : decode c_Pr_doFieldWork 405 = .ok (.lsub, 1) := by decide +kernel
theorem d_Pr_doFieldWork_406 : decode c_Pr_doFieldWork 406 = .ok (.invokevirtual 111, 3) := by decide +kernel
theorem d_Pr_doFieldWork_409 : decode c_Pr_doFieldWork 409 = .ok (.goto 213, 3) := by decide +kernel
theorem d_Pr_doFieldWork_412 : decode c_Pr_doFieldWork 412 = .ok (.aload_n 0, 1) := by decide +kernel
theorem d_Pr_doFieldWork_413 : decode c_Pr_doFieldWork 413 = .ok (.getfield 18, 3) := by decide +kernel
theorem d_Pr_doFieldWork_416 : decode c_Pr_doFieldWork 416 = .ok (.iconst 0, 1) := by decide +kernel
theorem d_Pr_doFieldWork_417 : decode c_Pr_doFieldWork 417 = .ok (.lload_n 2, 1) := by decide +kernel
theorem d_Pr_doFieldWork_418 : decode c_Pr_doFieldWork 418 = .ok (.ldc2_w 114, 3) := by decide +kernel
theorem d_Pr_doFieldWork_421 : decode c_Pr_doFieldWork 421 = .ok (.lmul, 1) := by decide +kernel
theorem d_Pr_doFieldWork_422 : decode c_Pr_doFieldWork 422 = .ok (.aload_n 0, 1) := by decide +kernel
theorem d_Pr_doFieldWork_423 : decode c_Pr_doFieldWork 423 = .ok (.getfield 18, 3) := by decide +kernel
theorem d_Pr_doFieldWork_426 : decode c_Pr_doFieldWork 426 = .ok (.getfield 116, 3) := by decide +kernel
theorem d_Pr_doFieldWork_429 : decode c_Pr_doFieldWork 429 = .ok (.lrem, 1) := by decide +kernel
theorem d_Pr_doFieldWork_430 : decode c_Pr_doFieldWork 430 = .ok (.invokevirtual 99, 3) := by decide +kernel
theorem d_Pr_doFieldWork_433 : decode c_Pr_doFieldWork 433 = .ok (.goto 189, 3) := by decide +kernel
theorem d_Pr_doFieldWork_436 : decode c_Pr_doFieldWork 436 = .ok (.aload_n 0, 1) := by decide +kernel
theorem d_Pr_doFieldWork_437 : decode c_Pr_doFieldWork 437 = .ok (.getfield 18, 3) := by decide +kernel
theorem d_Pr_doFieldWork_440 : decode c_Pr_doFieldWork 440 = .ok (.iconst 0, 1) := by decide +kernel
theorem d_Pr_doFieldWork_441 : decode c_Pr_doFieldWork 441 = .ok (.lload_n 2, 1) := by decide +kernel
theorem d_Pr_doFieldWork_442 : decode c_Pr_doFieldWork 442 = .ok (.ldc2_w 114, 3) := by decide +kernel
theorem d_Pr_doFieldWork_445 : decode c_Pr_doFieldWork 445 = .ok (.ldiv, 1) := by decide +kernel
theorem d_Pr_doFieldWork_446 : decode c_Pr_doFieldWork 446 = .ok (.invokevirtual 99, 3) := by decide +kernel
theorem d_Pr_doFieldWork_449 : decode c_Pr_doFieldWork 449 = .ok (.goto 173, 3) := by decide +kernel
theorem d_Pr_doFieldWork_452 : decode c_Pr_doFieldWork 452 = .ok (.aload_n 0, 1) := by decide +kernel
theorem d_Pr_doFieldWork_453 : decode c_Pr_doFieldWork 453 = .ok (.getfield 18, 3) := by decide +kernel
theorem d_Pr_doFieldWork_456 : decode c_Pr_doFieldWork 456 = .ok (.iconst 1, 1) := by decide +kernel
theorem d_Pr_doFieldWork_457 : decode c_Pr_doFieldWork 457 = .ok (.lload 4, 2) := by decide +kernel
theorem d_Pr_doFieldWork_459 : decode c_Pr_doFieldWork 459 = .ok (.ldc2_w 114, 3) := by decide +kernel
theorem d_Pr_doFieldWork_462 : decode c_Pr_doFieldWork 462 = .ok (.ldiv, 1) := by decide +kernel
theorem d_Pr_doFieldWork_463 : decode c_Pr_doFieldWork 463 = .ok (.invokevirtual 99, 3) := by decide +kernel
theorem d_Pr_doFieldWork_466 : decode c_Pr_doFieldWork 466 = .ok (.goto 156, 3) := by decide +kernel
theorem d_Pr_doFieldWork_469 : decode c_Pr_doFieldWork 469 = .ok (.aload_n 0, 1) := by decide +kernel
theorem d_Pr_doFieldWork_470 : decode c_Pr_doFieldWork 470 = .ok (.getfield 18, 3) := by decide +kernel
theorem d_Pr_doFieldWork_473 : decode c_Pr_doFieldWork 473 = .ok (.iconst 2, 1) := by decide +kernel
theorem d_Pr_doFieldWork_474 : decode c_Pr_doFieldWork 474 = .ok (.lload 6, 2) := by decide +kernel
theorem d_Pr_doFieldWork_476 : decode c_Pr_doFieldWork 476 = .ok (.ldc2_w 114, 3) := by decide +kernel
theorem d_Pr_doFieldWork_479 : decode c_Pr_doFieldWork 479 = .ok (.ldiv, 1) := by decide +kernel
theorem d_Pr_doFieldWork_480 : decode c_Pr_doFieldWork 480 = .ok (.invokevirtual 99, 3) := by decide +kernel
theorem d_Pr_doFieldWork_483 : decode c_Pr_doFieldWork 483 = .ok (.goto 139, 3) := by decide +kernel
theorem d_Pr_doFieldWork_486 : decode c_Pr_doFieldWork 486 = .ok (.aload_n 0, 1) := by decide +kernel
theorem d_Pr_doFieldWork_487 : decode c_Pr_doFieldWork 487 = .ok (.lload_n 2, 1) := by decide +kernel
theorem d_Pr_doFieldWork_488 : decode c_Pr_doFieldWork 488 = .ok (.lload 4, 2) := by decide +kernel
theorem d_Pr_doFieldWork_490 : decode c_Pr_doFieldWork 490 = .ok (.lcmp, 1) := by decide +kernel
theorem d_Pr_doFieldWork_491 : decode c_Pr_doFieldWork 491 = .ok (.ifCond .ge 7, 3) := by decide +kernel
theorem d_Pr_doFieldWork_494 : decode c_Pr_doFieldWork 494 = .ok (.iconst 1, 1) := by decide +kernel
theorem d_Pr_doFieldWork_495 : decode c_Pr_doFieldWork 495 = .ok (.goto 4, 3) := by decide +kernel
theorem d_Pr_doFieldWork_498 : decode c_Pr_doFieldWork 498 = .ok (.iconst 0, 1) := by decide +kernel
theorem d_Pr_doFieldWork_499 : decode c_Pr_doFieldWork 499 = .ok (.putfield 36, 3) := by decide +kernel
theorem d_Pr_doFieldWork_502 : decode c_Pr_doFieldWork 502 = .ok (.goto 120, 3) := by decide +kernel
theorem d_Pr_doFieldWork_505 : decode c_Pr_doFieldWork 505 = .ok (.aload_n 0, 1) := by decide +kernel
theorem d_Pr_doFieldWork_506 : decode c_Pr_doFieldWork 506 = .ok (.lload_n 2, 1) := by decide +kernel
theorem d_Pr_doFieldWork_507 : decode c_Pr_doFieldWork 507 = .ok (.lload 6, 2) := by decide +kernel
theorem d_Pr_doFieldWork_509 : decode c_Pr_doFieldWork 509 = .ok (.lcmp, 1) := by decide +kernel
theorem d_Pr_doFieldWork_510 : decode c_Pr_doFieldWork 510 = .ok (.ifCond .ge 7, 3) := by decide +kernel
theorem d_Pr_doFieldWork_513 : decode c_Pr_doFieldWork 513 = .ok (.iconst 1, 1) := by decide +kernel
theorem d_Pr_doFieldWork_514 : decode c_Pr_doFieldWork 514 = .ok (.goto 4, 3) := by decide +kernel
theorem d_Pr_doFieldWork_517 : decode c_Pr_doFieldWork 517 = .ok (.iconst 0, 1) := by decide +kernel
theorem d_Pr_doFieldWork_518 : decode c_Pr_doFieldWork 518 = .ok (.putfield 36, 3) := by decide +kernel
theorem d_Pr_doFieldWork_521 : decode c_Pr_doFieldWork 521 = .ok (.goto 101, 3) := by decide +kernel
theorem d_Pr_doFieldWork_524 : decode c_Pr_doFieldWork 524 = .ok (.aload_n 0, 1) := by decide +kernel
theorem d_Pr_doFieldWork_525 : decode c_Pr_doFieldWork 525 = .ok (.lload 4, 2) := by decide +kernel
theorem d_Pr_doFieldWork_527 : decode c_Pr_doFieldWork 527 = .ok (.lconst 0, 1) := by decide +kernel
theorem d_Pr_doFieldWork_528 : decode c_Pr_doFieldWork 528 = .ok (.lcmp, 1) := by decide +kernel
theorem d_Pr_doFieldWork_529 : decode c_Pr_doFieldWork 529 = .ok (.ifCond .eq 7, 3) := by decide +kernel
theorem d_Pr_doFieldWork_532 : decode c_Pr_doFieldWork 532 = .ok (.iconst 1, 1) := by decide +kernel
theorem d_Pr_doFieldWork_533 : decode c_Pr_doFieldWork 533 = .ok (.goto 4, 3) := by decide +kernel
theorem d_Pr_doFieldWork_536 : decode c_Pr_doFieldWork 536 = .ok (.iconst 0, 1) := by decide +kernel
theorem d_Pr_doFieldWork_537 : decode c_Pr_doFieldWork 537 = .ok (.putfield 36, 3) := by decide +kernel
theorem d_Pr_doFieldWork_540 : decode c_Pr_doFieldWork 540 = .ok (.goto 82, 3) := by decide +kernel
theorem d_Pr_doFieldWork_543 : decode c_Pr_doFieldWork 543 = .ok (.aload_n 0, 1) := by decide +kernel
theorem d_Pr_doFieldWork_544 : decode c_Pr_doFieldWork 544 = .ok (.lload 6, 2) := by decide +kernel
theorem d_Pr_doFieldWork_546 : decode c_Pr_doFieldWork 546 = .ok (.lconst 0, 1) := by decide +kernel
theorem d_Pr_doFieldWork_547 : decode c_Pr_doFieldWork 547 = .ok (.lcmp, 1) := by decide +kernel
theorem d_Pr_doFieldWork_548 : decode c_Pr_doFieldWork 548 = .ok (.ifCond .eq 7, 3) := by decide +kernel
theorem d_Pr_doFieldWork_551 : decode c_Pr_doFieldWork 551 = .ok (.iconst 1, 1) := by decide +kernel
theorem d_Pr_doFieldWork_552 : decode c_Pr_doFieldWork 552 = .ok (.goto 4, 3) := by decide +kernel
theorem d_Pr_doFieldWork_555 : decode c_Pr_doFieldWork 555 = .ok (.iconst 0, 1) := by decide +kernel
theorem d_Pr_doFieldWork_556 : decode c_Pr_doFieldWork 556 = .ok (.putfield 36, 3) := by decide +kernel
theorem d_Pr_doFieldWork_559 : decode c_Pr_doFieldWork 559 = .ok (.goto 63, 3) := by decide +kernel
theorem d_Pr_doFieldWork_562 : decode c_Pr_doFieldWork 562 = .ok (.aload_n 0, 1) := by decide +kernel
theorem d_Pr_doFieldWork_563 : decode c_Pr_doFieldWork 563 = .ok (.lload_n 2, 1) := by decide +kernel
theorem d_Pr_doFieldWork_564 : decode c_Pr_doFieldWork 564 = .ok (.lconst 0, 1) := by decide +kernel
theorem d_Pr_doFieldWork_565 : decode c_Pr_doFieldWork 565 = .ok (.lcmp, 1) := by decide +kernel
theorem d_Pr_doFieldWork_566 : decode c_Pr_doFieldWork 566 = .ok (.ifCond .ne 7, 3) := by decide +kernel
theorem d_Pr_doFieldWork_569 : decode c_Pr_doFieldWork 569 = .ok (.iconst 1, 1) := by decide +kernel
theorem d_Pr_doFieldWork_570 : decode c_Pr_doFieldWork 570 = .ok (.goto 4, 3) := by decide +kernel
theorem d_Pr_doFieldWork_573 : decode c_Pr_doFieldWork 573 = .ok (.iconst 0, 1) := by decide +kernel
theorem d_Pr_doFieldWork_574 : decode c_Pr_doFieldWork 574 = .ok (.putfield 36, 3) := by decide +kernel
theorem d_Pr_doFieldWork_577 : decode c_Pr_doFieldWork 577 = .ok (.goto 45, 3) := by decide +kernel
theorem d_Pr_doFieldWork_580 : decode c_Pr_doFieldWork 580 = .ok (.aload_n 0, 1) := by decide +kernel
theorem d_Pr_doFieldWork_581 : decode c_Pr_doFieldWork 581 = .ok (.lload 6, 2) := by decide +kernel
theorem d_Pr_doFieldWork_583 : decode c_Pr_doFieldWork 583 = .ok (.lconst 0, 1) := by decide +kernel
theorem d_Pr_doFieldWork_584 : decode c_Pr_doFieldWork 584 = .ok (.lcmp, 1) := by decide +kernel
theorem d_Pr_doFieldWork_585 : decode c_Pr_doFieldWork 585 = .ok (.ifCond .ne 7, 3) := by decide +kernel
theorem d_Pr_doFieldWork_588 : decode c_Pr_doFieldWork 588 = .ok (.iconst 1, 1) := by decide +kernel
theorem d_Pr_doFieldWork_589 : decode c_Pr_doFieldWork 589 = .ok (.goto 4, 3) := by decide +kernel
theorem d_Pr_doFieldWork_592 : decode c_Pr_doFieldWork 592 = .ok (.iconst 0, 1) := by decide +kernel
theorem d_Pr_doFieldWork_593 : decode c_Pr_doFieldWork 593 = .ok (.putfield 36, 3) := by decide +kernel
theorem d_Pr_doFieldWork_596 : decode c_Pr_doFieldWork 596 = .ok (.goto 26, 3) := by decide +kernel
theorem d_Pr_doFieldWork_599 : decode c_Pr_doFieldWork 599 = .ok (.aload_n 0, 1) := by decide +kernel
theorem d_Pr_doFieldWork_600 : decode c_Pr_doFieldWork 600 = .ok (.iconst 2, 1) := by decide +kernel
theorem d_Pr_doFieldWork_601 : decode c_Pr_doFieldWork 601 = .ok (.lload 6, 2) := by decide +kernel
theorem d_Pr_doFieldWork_603 : decode c_Pr_doFieldWork 603 = .ok (.lload 6, 2) := by decide +kernel
theorem d_Pr_doFieldWork_605 : decode c_Pr_doFieldWork 605 = .ok (.ladd, 1) := by decide +kernel
theorem d_Pr_doFieldWork_606 : decode c_Pr_doFieldWork 606 = .ok (.invokevirtual 111, 3) := by decide +kernel
theorem d_Pr_doFieldWork_609 : decode c_Pr_doFieldWork 609 = .ok (.goto 13, 3) := by decide +kernel
theorem d_Pr_doFieldWork_612 : decode c_Pr_doFieldWork 612 = .ok (.aload_n 0, 1) := by decide +kernel
theorem d_Pr_doFieldWork_613 : decode c_Pr_doFieldWork 613 = .ok (.getfield 18, 3) := by decide +kernel
theorem d_Pr_doFieldWork_616 : decode c_Pr_doFieldWork 616 = .ok (.iconst 0, 1) := by decide +kernel
theorem d_Pr_doFieldWork_617 : decode c_Pr_doFieldWork 617 = .ok (.lload 6, 2) := by decide +kernel
theorem d_Pr_doFieldWork_619 : decode c_Pr_doFieldWork 619 = .ok (.invokevirtual 99, 3) := by decide +kernel
theorem d_Pr_doFieldWork_622 : decode c_Pr_doFieldWork 622 = .ok (.return_, 1) := by decide +kernel
theorem d_Pr_putResult_0 : decode c_Pr_putResult 0 = .ok (.aload_n 0, 1) := by decide +kernel
theorem d_Pr_putResult_1 : decode c_Pr_putResult 1 = .ok (.lload_n 2, 1) := by decide +kernel
theorem d_Pr_putResult_2 : decode c_Pr_putResult 2 = .ok (.lconst 0, 1) := by decide +kernel
theorem d_Pr_putResult_3 : decode c_Pr_putResult 3 = .ok (.lcmp, 1) := by decide +kernel
theorem d_Pr_putResult_4 : decode c_Pr_putResult 4 = .ok (.ifCond .lt 15, 3) := by decide +kernel
theorem d_Pr_putResult_7 : decode c_Pr_putResult 7 = .ok (.lload_n 2, 1) := by decide +kernel
theorem d_Pr_putResult_8 : decode c_Pr_putResult 8 = .ok (.aload_n 0, 1) := by decide +kernel
theorem d_Pr_putResult_9 : decode c_Pr_putResult 9 = .ok (.getfield 18, 3) := by decide +kernel
theorem d_Pr_putResult_12 : decode c_Pr_putResult 12 = .ok (.getfield 116, 3) := by decide +kernel
theorem d_Pr_putResult_15 : decode c_Pr_putResult 15 = .ok (.lcmp, 1) := by decide +kernel
theorem d_Pr_putResult_16 : decode c_Pr_putResult 16 = .ok (.ifCond .lt 7, 3) := by decide +kernel
theorem d_Pr_putResult_19 : decode c_Pr_putResult 19 = .ok (.iconst 1, 1) := by decide +kernel
theorem d_Pr_putResult_20 : decode c_Pr_putResult 20 = .ok (.goto 4, 3) := by decide +kernel
theorem d_Pr_putResult_23 : decode c_Pr_putResult 23 = .ok (.iconst 0, 1) := by decide +kernel
theorem d_Pr_putResult_24 : decode c_Pr_putResult 24 = .ok (.putfield 36, 3) := by decide +kernel
theorem d_Pr_putResult_27 : decode c_Pr_putResult 27 = .ok (.aload_n 0, 1) := by decide +kernel
theorem d_Pr_putResult_28 : decode c_Pr_putResult 28 = .ok (.getfield 18, 3) := by decide +kernel
theorem d_Pr_putResult_31 : decode c_Pr_putResult 31 = .ok (.iload_n 1, 1) := by decide +kernel
theorem d_Pr_putResult_32 : decode c_Pr_putResult 32 = .ok (.lload_n 2, 1) := by decide +kernel
theorem d_Pr_putResult_33 : decode c_Pr_putResult 33 = .ok (.aload_n 0, 1) := by decide +kernel
theorem d_Pr_putResult_34 : decode c_Pr_putResult 34 = .ok (.getfield 18, 3) := by decide +kernel
theorem d_Pr_putResult_37 : decode c_Pr_putResult 37 = .ok (.getfield 116, 3) := by decide +kernel
theorem d_Pr_putResult_40 : decode c_Pr_putResult 40 = .ok (.invokestatic 120, 3) := by decide +kernel
theorem d_Pr_putResult_43 : decode c_Pr_putResult 43 = .ok (.invokevirtual 99, 3) := by decide +kernel
theorem d_Pr_putResult_46 : decode c_Pr_putResult 46 = .ok (.return_, 1) := by decide +kernel
