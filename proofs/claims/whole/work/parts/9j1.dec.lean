-- what the law is made of
theorem dL_law_384 : decode code 384 = .ok (.iload 4, 2) := by decide +kernel
theorem dL_law_386 : decode code 386 = .ok (.iconst 2, 1) := by decide +kernel
theorem dL_law_387 : decode code 387 = .ok (.iadd, 1) := by decide +kernel
theorem dL_law_388 : decode code 388 = .ok (.iaload, 1) := by decide +kernel
theorem dL_law_389 : decode code 389 = .ok (.invokevirtual 37, 3) := by decide +kernel
theorem dL_law_392 : decode code 392 = .ok (.aload_n 2, 1) := by decide +kernel
theorem dL_law_393 : decode code 393 = .ok (.aload_n 0, 1) := by decide +kernel
theorem dL_law_394 : decode code 394 = .ok (.iload 4, 2) := by decide +kernel
theorem dL_law_396 : decode code 396 = .ok (.iconst 1, 1) := by decide +kernel
theorem dL_law_397 : decode code 397 = .ok (.iadd, 1) := by decide +kernel
theorem dL_law_398 : decode code 398 = .ok (.iaload, 1) := by decide +kernel
theorem dL_law_399 : decode code 399 = .ok (.aload_n 0, 1) := by decide +kernel
theorem dL_law_400 : decode code 400 = .ok (.iload 4, 2) := by decide +kernel
theorem dL_law_402 : decode code 402 = .ok (.iconst 2, 1) := by decide +kernel
theorem dL_law_403 : decode code 403 = .ok (.iadd, 1) := by decide +kernel
theorem dL_law_404 : decode code 404 = .ok (.iaload, 1) := by decide +kernel
theorem dL_law_405 : decode code 405 = .ok (.invokevirtual 41, 3) := by decide +kernel
theorem dL_law_408 : decode code 408 = .ok (.if_icmp .eq 1318, 3) := by decide +kernel
theorem dL_law_411 : decode code 411 = .ok (.iconst 0, 1) := by decide +kernel
theorem dL_law_412 : decode code 412 = .ok (.ireturn, 1) := by decide +kernel
theorem dL_law_413 : decode code 413 = .ok (.aload_n 1, 1) := by decide +kernel
theorem dL_law_414 : decode code 414 = .ok (.aload_n 0, 1) := by decide +kernel
theorem dL_law_415 : decode code 415 = .ok (.iload 4, 2) := by decide +kernel
theorem dL_law_417 : decode code 417 = .ok (.iconst 1, 1) := by decide +kernel
theorem dL_law_418 : decode code 418 = .ok (.iadd, 1) := by decide +kernel
theorem dL_law_419 : decode code 419 = .ok (.iaload, 1) := by decide +kernel
theorem dL_law_420 : decode code 420 = .ok (.invokevirtual 42, 3) := by decide +kernel
theorem dL_law_423 : decode code 423 = .ok (.aload_n 2, 1) := by decide +kernel
theorem dL_law_424 : decode code 424 = .ok (.aload_n 0, 1) := by decide +kernel
theorem dL_law_425 : decode code 425 = .ok (.iload 4, 2) := by decide +kernel
theorem dL_law_427 : decode code 427 = .ok (.iconst 1, 1) := by decide +kernel
theorem dL_law_428 : decode code 428 = .ok (.iadd, 1) := by decide +kernel
theorem dL_law_429 : decode code 429 = .ok (.iaload, 1) := by decide +kernel
theorem dL_law_430 : decode code 430 = .ok (.invokevirtual 45, 3) := by decide +kernel
theorem dL_law_433 : decode code 433 = .ok (.if_icmp .eq 1293, 3) := by decide +kernel
theorem dL_law_436 : decode code 436 = .ok (.iconst 0, 1) := by decide +kernel
theorem dL_law_437 : decode code 437 = .ok (.ireturn, 1) := by decide +kernel
theorem dL_law_438 : decode code 438 = .ok (.aload_n 1, 1) := by decide +kernel
theorem dL_law_439 : decode code 439 = .ok (.aload_n 0, 1) := by decide +kernel
theorem dL_law_440 : decode code 440 = .ok (.iload 4, 2) := by decide +kernel
theorem dL_law_442 : decode code 442 = .ok (.iconst 1, 1) := by decide +kernel
theorem dL_law_443 : decode code 443 = .ok (.iadd, 1) := by decide +kernel
theorem dL_law_444 : decode code 444 = .ok (.iaload, 1) := by decide +kernel
theorem dL_law_445 : decode code 445 = .ok (.invokevirtual 46, 3) := by decide +kernel
theorem dL_law_448 : decode code 448 = .ok (.aload_n 2, 1) := by decide +kernel
theorem dL_law_449 : decode code 449 = .ok (.aload_n 0, 1) := by decide +kernel
theorem dL_law_450 : decode code 450 = .ok (.iload 4, 2) := by decide +kernel
theorem dL_law_452 : decode code 452 = .ok (.iconst 1, 1) := by decide +kernel
theorem dL_law_453 : decode code 453 = .ok (.iadd, 1) := by decide +kernel
theorem dL_law_454 : decode code 454 = .ok (.iaload, 1) := by decide +kernel
theorem dL_law_455 : decode code 455 = .ok (.invokevirtual 49, 3) := by decide +kernel
theorem dL_law_458 : decode code 458 = .ok (.if_icmp .eq 1268, 3) := by decide +kernel
theorem dL_law_461 : decode code 461 = .ok (.iconst 0, 1) := by decide +kernel
theorem dL_law_462 : decode code 462 = .ok (.ireturn, 1) := by decide +kernel
theorem dL_law_463 : decode code 463 = .ok (.aload_n 1, 1) := by decide +kernel
theorem dL_law_464 : decode code 464 = .ok (.invokevirtual 50, 3) := by decide +kernel
theorem dL_law_467 : decode code 467 = .ok (.aload_n 2, 1) := by decide +kernel
theorem dL_law_468 : decode code 468 = .ok (.invokevirtual 53, 3) := by decide +kernel
theorem dL_law_471 : decode code 471 = .ok (.if_icmp .eq 1255, 3) := by decide +kernel
theorem dL_law_474 : decode code 474 = .ok (.iconst 0, 1) := by decide +kernel
theorem dL_law_475 : decode code 475 = .ok (.ireturn, 1) := by decide +kernel
theorem dL_law_476 : decode code 476 = .ok (.aload_n 1, 1) := by decide +kernel
theorem dL_law_477 : decode code 477 = .ok (.invokevirtual 54, 3) := by decide +kernel
theorem dL_law_480 : decode code 480 = .ok (.aload_n 2, 1) := by decide +kernel
theorem dL_law_481 : decode code 481 = .ok (.invokevirtual 57, 3) := by decide +kernel
theorem dL_law_484 : decode code 484 = .ok (.if_icmp .eq 1242, 3) := by decide +kernel
theorem dL_law_487 : decode code 487 = .ok (.iconst 0, 1) := by decide +kernel
theorem dL_law_488 : decode code 488 = .ok (.ireturn, 1) := by decide +kernel
theorem dL_law_489 : decode code 489 = .ok (.aload_n 1, 1) := by decide +kernel
theorem dL_law_490 : decode code 490 = .ok (.aload_n 0, 1) := by decide +kernel
theorem dL_law_491 : decode code 491 = .ok (.iload 4, 2) := by decide +kernel
theorem dL_law_493 : decode code 493 = .ok (.iconst 1, 1) := by decide +kernel
theorem dL_law_494 : decode code 494 = .ok (.iadd, 1) := by decide +kernel
theorem dL_law_495 : decode code 495 = .ok (.iaload, 1) := by decide +kernel
theorem dL_law_496 : decode code 496 = .ok (.invokevirtual 58, 3) := by decide +kernel
theorem dL_law_499 : decode code 499 = .ok (.aload_n 2, 1) := by decide +kernel
theorem dL_law_500 : decode code 500 = .ok (.aload_n 0, 1) := by decide +kernel
theorem dL_law_501 : decode code 501 = .ok (.iload 4, 2) := by decide +kernel
theorem dL_law_503 : decode code 503 = .ok (.iconst 1, 1) := by decide +kernel
theorem dL_law_504 : decode code 504 = .ok (.iadd, 1) := by decide +kernel
theorem dL_law_505 : decode code 505 = .ok (.iaload, 1) := by decide +kernel
theorem dL_law_506 : decode code 506 = .ok (.invokevirtual 61, 3) := by decide +kernel
theorem dL_law_509 : decode code 509 = .ok (.if_icmp .eq 1217, 3) := by decide +kernel
theorem dL_law_512 : decode code 512 = .ok (.iconst 0, 1) := by decide +kernel
theorem dL_law_513 : decode code 513 = .ok (.ireturn, 1) := by decide +kernel
theorem dL_law_514 : decode code 514 = .ok (.aload_n 1, 1) := by decide +kernel
theorem dL_law_515 : decode code 515 = .ok (.aload_n 0, 1) := by decide +kernel
theorem dL_law_516 : decode code 516 = .ok (.iload 4, 2) := by decide +kernel
theorem dL_law_518 : decode code 518 = .ok (.iconst 1, 1) := by decide +kernel
theorem dL_law_519 : decode code 519 = .ok (.iadd, 1) := by decide +kernel
theorem dL_law_520 : decode code 520 = .ok (.iaload, 1) := by decide +kernel
theorem dL_law_521 : decode code 521 = .ok (.aload_n 0, 1) := by decide +kernel
theorem dL_law_522 : decode code 522 = .ok (.iload 4, 2) := by decide +kernel
theorem dL_law_524 : decode code 524 = .ok (.iconst 2, 1) := by decide +kernel
theorem dL_law_525 : decode code 525 = .ok (.iadd, 1) := by decide +kernel
theorem dL_law_526 : decode code 526 = .ok (.iaload, 1) := by decide +kernel
theorem dL_law_527 : decode code 527 = .ok (.invokevirtual 62, 3) := by decide +kernel
theorem dL_law_530 : decode code 530 = .ok (.aload_n 2, 1) := by decide +kernel
theorem dL_law_531 : decode code 531 = .ok (.aload_n 0, 1) := by decide +kernel
theorem dL_law_532 : decode code 532 = .ok (.iload 4, 2) := by decide +kernel
theorem dL_law_534 : decode code 534 = .ok (.iconst 1, 1) := by decide +kernel
theorem dL_law_535 : decode code 535 = .ok (.iadd, 1) := by decide +kernel
theorem dL_law_536 : decode code 536 = .ok (.iaload, 1) := by decide +kernel
theorem dL_law_537 : decode code 537 = .ok (.aload_n 0, 1) := by decide +kernel
theorem dL_law_538 : decode code 538 = .ok (.iload 4, 2) := by decide +kernel
theorem dL_law_540 : decode code 540 = .ok (.iconst 2, 1) := by decide +kernel
theorem dL_law_541 : decode code 541 = .ok (.iadd, 1) := by decide +kernel
theorem dL_law_542 : decode code 542 = .ok (.iaload, 1) := by decide +kernel
theorem dL_law_543 : decode code 543 = .ok (.invokevirtual 65, 3) := by decide +kernel
theorem dL_law_546 : decode code 546 = .ok (.if_icmp .eq 1180, 3) := by decide +kernel
theorem dL_law_549 : decode code 549 = .ok (.iconst 0, 1) := by decide +kernel
theorem dL_law_550 : decode code 550 = .ok (.ireturn, 1) := by decide +kernel
theorem dL_law_551 : decode code 551 = .ok (.aload_n 1, 1) := by decide +kernel
theorem dL_law_552 : decode code 552 = .ok (.aload_n 0, 1) := by decide +kernel
theorem dL_law_553 : decode code 553 = .ok (.iload 4, 2) := by decide +kernel
theorem dL_law_555 : decode code 555 = .ok (.iconst 1, 1) := by decide +kernel
theorem dL_law_556 : decode code 556 = .ok (.iadd, 1) := by decide +kernel
theorem dL_law_557 : decode code 557 = .ok (.iaload, 1) := by decide +kernel
theorem dL_law_558 : decode code 558 = .ok (.aload_n 0, 1) := by decide +kernel
theorem dL_law_559 : decode code 559 = .ok (.iload 4, 2) := by decide +kernel
