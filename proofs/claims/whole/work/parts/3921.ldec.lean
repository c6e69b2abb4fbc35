/-! ===== the law, decoded ===== -/
theorem dL_348 : decode code 348 = .ok (.invokevirtual 40, 3) := by decide +kernel
theorem dL_351 : decode code 351 = .ok (.if_icmp .eq 872, 3) := by decide +kernel
theorem dL_354 : decode code 354 = .ok (.iconst 0, 1) := by decide +kernel
theorem dL_355 : decode code 355 = .ok (.ireturn, 1) := by decide +kernel
theorem dL_356 : decode code 356 = .ok (.aload_n 1, 1) := by decide +kernel
theorem dL_357 : decode code 357 = .ok (.aload_n 0, 1) := by decide +kernel
theorem dL_358 : decode code 358 = .ok (.iload_n 3, 1) := by decide +kernel
theorem dL_359 : decode code 359 = .ok (.iconst 1, 1) := by decide +kernel
theorem dL_360 : decode code 360 = .ok (.iadd, 1) := by decide +kernel
theorem dL_361 : decode code 361 = .ok (.iaload, 1) := by decide +kernel
theorem dL_362 : decode code 362 = .ok (.aload_n 0, 1) := by decide +kernel
theorem dL_363 : decode code 363 = .ok (.iload_n 3, 1) := by decide +kernel
theorem dL_364 : decode code 364 = .ok (.iconst 2, 1) := by decide +kernel
theorem dL_365 : decode code 365 = .ok (.iadd, 1) := by decide +kernel
theorem dL_366 : decode code 366 = .ok (.iaload, 1) := by decide +kernel
theorem dL_367 : decode code 367 = .ok (.invokevirtual 41, 3) := by decide +kernel
theorem dL_370 : decode code 370 = .ok (.aload_n 2, 1) := by decide +kernel
theorem dL_371 : decode code 371 = .ok (.aload_n 0, 1) := by decide +kernel
theorem dL_372 : decode code 372 = .ok (.iload_n 3, 1) := by decide +kernel
theorem dL_373 : decode code 373 = .ok (.iconst 1, 1) := by decide +kernel
theorem dL_374 : decode code 374 = .ok (.iadd, 1) := by decide +kernel
theorem dL_375 : decode code 375 = .ok (.iaload, 1) := by decide +kernel
theorem dL_376 : decode code 376 = .ok (.aload_n 0, 1) := by decide +kernel
theorem dL_377 : decode code 377 = .ok (.iload_n 3, 1) := by decide +kernel
theorem dL_378 : decode code 378 = .ok (.iconst 2, 1) := by decide +kernel
theorem dL_379 : decode code 379 = .ok (.iadd, 1) := by decide +kernel
theorem dL_380 : decode code 380 = .ok (.iaload, 1) := by decide +kernel
theorem dL_381 : decode code 381 = .ok (.invokevirtual 44, 3) := by decide +kernel
theorem dL_384 : decode code 384 = .ok (.if_icmp .eq 839, 3) := by decide +kernel
theorem dL_387 : decode code 387 = .ok (.iconst 0, 1) := by decide +kernel
theorem dL_388 : decode code 388 = .ok (.ireturn, 1) := by decide +kernel
theorem dL_389 : decode code 389 = .ok (.aload_n 1, 1) := by decide +kernel
theorem dL_390 : decode code 390 = .ok (.aload_n 0, 1) := by decide +kernel
theorem dL_391 : decode code 391 = .ok (.iload_n 3, 1) := by decide +kernel
theorem dL_392 : decode code 392 = .ok (.iconst 1, 1) := by decide +kernel
theorem dL_393 : decode code 393 = .ok (.iadd, 1) := by decide +kernel
theorem dL_394 : decode code 394 = .ok (.iaload, 1) := by decide +kernel
theorem dL_395 : decode code 395 = .ok (.aload_n 0, 1) := by decide +kernel
theorem dL_396 : decode code 396 = .ok (.iload_n 3, 1) := by decide +kernel
theorem dL_397 : decode code 397 = .ok (.iconst 2, 1) := by decide +kernel
theorem dL_398 : decode code 398 = .ok (.iadd, 1) := by decide +kernel
theorem dL_399 : decode code 399 = .ok (.iaload, 1) := by decide +kernel
theorem dL_400 : decode code 400 = .ok (.invokevirtual 45, 3) := by decide +kernel
theorem dL_403 : decode code 403 = .ok (.aload_n 2, 1) := by decide +kernel
theorem dL_404 : decode code 404 = .ok (.aload_n 0, 1) := by decide +kernel
theorem dL_405 : decode code 405 = .ok (.iload_n 3, 1) := by decide +kernel
theorem dL_406 : decode code 406 = .ok (.iconst 1, 1) := by decide +kernel
theorem dL_407 : decode code 407 = .ok (.iadd, 1) := by decide +kernel
theorem dL_408 : decode code 408 = .ok (.iaload, 1) := by decide +kernel
theorem dL_409 : decode code 409 = .ok (.aload_n 0, 1) := by decide +kernel
theorem dL_410 : decode code 410 = .ok (.iload_n 3, 1) := by decide +kernel
theorem dL_411 : decode code 411 = .ok (.iconst 2, 1) := by decide +kernel
theorem dL_412 : decode code 412 = .ok (.iadd, 1) := by decide +kernel
theorem dL_413 : decode code 413 = .ok (.iaload, 1) := by decide +kernel
theorem dL_414 : decode code 414 = .ok (.invokevirtual 48, 3) := by decide +kernel
theorem dL_417 : decode code 417 = .ok (.if_icmp .eq 806, 3) := by decide +kernel
theorem dL_420 : decode code 420 = .ok (.iconst 0, 1) := by decide +kernel
theorem dL_421 : decode code 421 = .ok (.ireturn, 1) := by decide +kernel
theorem dL_422 : decode code 422 = .ok (.aload_n 1, 1) := by decide +kernel
theorem dL_423 : decode code 423 = .ok (.invokevirtual 49, 3) := by decide +kernel
theorem dL_426 : decode code 426 = .ok (.aload_n 2, 1) := by decide +kernel
theorem dL_427 : decode code 427 = .ok (.invokevirtual 52, 3) := by decide +kernel
theorem dL_430 : decode code 430 = .ok (.if_icmp .eq 793, 3) := by decide +kernel
theorem dL_433 : decode code 433 = .ok (.iconst 0, 1) := by decide +kernel
theorem dL_434 : decode code 434 = .ok (.ireturn, 1) := by decide +kernel
theorem dL_435 : decode code 435 = .ok (.aload_n 1, 1) := by decide +kernel
theorem dL_436 : decode code 436 = .ok (.aload_n 0, 1) := by decide +kernel
theorem dL_437 : decode code 437 = .ok (.iload_n 3, 1) := by decide +kernel
theorem dL_438 : decode code 438 = .ok (.iconst 1, 1) := by decide +kernel
theorem dL_439 : decode code 439 = .ok (.iadd, 1) := by decide +kernel
theorem dL_440 : decode code 440 = .ok (.iaload, 1) := by decide +kernel
theorem dL_441 : decode code 441 = .ok (.invokevirtual 53, 3) := by decide +kernel
theorem dL_444 : decode code 444 = .ok (.aload_n 2, 1) := by decide +kernel
theorem dL_445 : decode code 445 = .ok (.aload_n 0, 1) := by decide +kernel
theorem dL_446 : decode code 446 = .ok (.iload_n 3, 1) := by decide +kernel
theorem dL_447 : decode code 447 = .ok (.iconst 1, 1) := by decide +kernel
theorem dL_448 : decode code 448 = .ok (.iadd, 1) := by decide +kernel
theorem dL_449 : decode code 449 = .ok (.iaload, 1) := by decide +kernel
theorem dL_450 : decode code 450 = .ok (.invokevirtual 56, 3) := by decide +kernel
theorem dL_453 : decode code 453 = .ok (.if_icmp .eq 770, 3) := by decide +kernel
theorem dL_456 : decode code 456 = .ok (.iconst 0, 1) := by decide +kernel
theorem dL_457 : decode code 457 = .ok (.ireturn, 1) := by decide +kernel
theorem dL_458 : decode code 458 = .ok (.aload_n 1, 1) := by decide +kernel
theorem dL_459 : decode code 459 = .ok (.aload_n 0, 1) := by decide +kernel
theorem dL_460 : decode code 460 = .ok (.iload_n 3, 1) := by decide +kernel
theorem dL_461 : decode code 461 = .ok (.iconst 1, 1) := by decide +kernel
theorem dL_462 : decode code 462 = .ok (.iadd, 1) := by decide +kernel
theorem dL_463 : decode code 463 = .ok (.iaload, 1) := by decide +kernel
theorem dL_464 : decode code 464 = .ok (.aload_n 0, 1) := by decide +kernel
theorem dL_465 : decode code 465 = .ok (.iload_n 3, 1) := by decide +kernel
theorem dL_466 : decode code 466 = .ok (.iconst 2, 1) := by decide +kernel
theorem dL_467 : decode code 467 = .ok (.iadd, 1) := by decide +kernel
theorem dL_468 : decode code 468 = .ok (.iaload, 1) := by decide +kernel
theorem dL_469 : decode code 469 = .ok (.invokevirtual 57, 3) := by decide +kernel
theorem dL_472 : decode code 472 = .ok (.aload_n 2, 1) := by decide +kernel
theorem dL_473 : decode code 473 = .ok (.aload_n 0, 1) := by decide +kernel
theorem dL_474 : decode code 474 = .ok (.iload_n 3, 1) := by decide +kernel
theorem dL_475 : decode code 475 = .ok (.iconst 1, 1) := by decide +kernel
theorem dL_476 : decode code 476 = .ok (.iadd, 1) := by decide +kernel
theorem dL_477 : decode code 477 = .ok (.iaload, 1) := by decide +kernel
theorem dL_478 : decode code 478 = .ok (.aload_n 0, 1) := by decide +kernel
theorem dL_479 : decode code 479 = .ok (.iload_n 3, 1) := by decide +kernel
theorem dL_480 : decode code 480 = .ok (.iconst 2, 1) := by decide +kernel
theorem dL_481 : decode code 481 = .ok (.iadd, 1) := by decide +kernel
theorem dL_482 : decode code 482 = .ok (.iaload, 1) := by decide +kernel
theorem dL_483 : decode code 483 = .ok (.invokevirtual 60, 3) := by decide +kernel
theorem dL_486 : decode code 486 = .ok (.if_icmp .eq 737, 3) := by decide +kernel
theorem dL_489 : decode code 489 = .ok (.iconst 0, 1) := by decide +kernel
theorem dL_490 : decode code 490 = .ok (.ireturn, 1) := by decide +kernel
theorem dL_491 : decode code 491 = .ok (.aload_n 1, 1) := by decide +kernel
theorem dL_492 : decode code 492 = .ok (.aload_n 0, 1) := by decide +kernel
theorem dL_493 : decode code 493 = .ok (.iload_n 3, 1) := by decide +kernel
theorem dL_494 : decode code 494 = .ok (.iconst 1, 1) := by decide +kernel
theorem dL_495 : decode code 495 = .ok (.iadd, 1) := by decide +kernel
theorem dL_496 : decode code 496 = .ok (.iaload, 1) := by decide +kernel
theorem dL_497 : decode code 497 = .ok (.invokevirtual 61, 3) := by decide +kernel
theorem dL_500 : decode code 500 = .ok (.aload_n 2, 1) := by decide +kernel
theorem dL_501 : decode code 501 = .ok (.aload_n 0, 1) := by decide +kernel
theorem dL_502 : decode code 502 = .ok (.iload_n 3, 1) := by decide +kernel
theorem dL_503 : decode code 503 = .ok (.iconst 1, 1) := by decide +kernel
theorem dL_504 : decode code 504 = .ok (.iadd, 1) := by decide +kernel
theorem dL_505 : decode code 505 = .ok (.iaload, 1) := by decide +kernel
theorem dL_506 : decode code 506 = .ok (.invokevirtual 64, 3) := by decide +kernel
theorem dL_509 : decode code 509 = .ok (.if_icmp .eq 714, 3) := by decide +kernel
theorem dL_512 : decode code 512 = .ok (.iconst 0, 1) := by decide +kernel
theorem dL_513 : decode code 513 = .ok (.ireturn, 1) := by decide +kernel
theorem dL_514 : decode code 514 = .ok (.aload_n 1, 1) := by decide +kernel
theorem dL_515 : decode code 515 = .ok (.aload_n 0, 1) := by decide +kernel
theorem dL_516 : decode code 516 = .ok (.iload_n 3, 1) := by decide +kernel
theorem dL_517 : decode code 517 = .ok (.iconst 1, 1) := by decide +kernel
theorem dL_518 : decode code 518 = .ok (.iadd, 1) := by decide +kernel
theorem dL_519 : decode code 519 = .ok (.iaload, 1) := by decide +kernel
theorem dL_520 : decode code 520 = .ok (.aload_n 0, 1) := by decide +kernel
theorem dL_521 : decode code 521 = .ok (.iload_n 3, 1) := by decide +kernel
theorem dL_522 : decode code 522 = .ok (.iconst 2, 1) := by decide +kernel
theorem dL_523 : decode code 523 = .ok (.iadd, 1) := by decide +kernel
theorem dL_524 : decode code 524 = .ok (.iaload, 1) := by decide +kernel
theorem dL_525 : decode code 525 = .ok (.invokevirtual 65, 3) := by decide +kernel
theorem dL_528 : decode code 528 = .ok (.aload_n 2, 1) := by decide +kernel
theorem dL_529 : decode code 529 = .ok (.aload_n 0, 1) := by decide +kernel
theorem dL_530 : decode code 530 = .ok (.iload_n 3, 1) := by decide +kernel
theorem dL_531 : decode code 531 = .ok (.iconst 1, 1) := by decide +kernel
theorem dL_532 : decode code 532 = .ok (.iadd, 1) := by decide +kernel
theorem dL_533 : decode code 533 = .ok (.iaload, 1) := by decide +kernel
theorem dL_534 : decode code 534 = .ok (.aload_n 0, 1) := by decide +kernel
theorem dL_535 : decode code 535 = .ok (.iload_n 3, 1) := by decide +kernel
theorem dL_536 : decode code 536 = .ok (.iconst 2, 1) := by decide +kernel
theorem dL_537 : decode code 537 = .ok (.iadd, 1) := by decide +kernel
theorem dL_538 : decode code 538 = .ok (.iaload, 1) := by decide +kernel
theorem dL_539 : decode code 539 = .ok (.invokevirtual 68, 3) := by decide +kernel
