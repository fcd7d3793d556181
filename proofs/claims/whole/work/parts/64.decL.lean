theorem dk_L_law_430 : decode code 430 = .ok (.aload_n 1, 1) := by decide +kernel
theorem dk_L_law_431 : decode code 431 = .ok (.aload_n 0, 1) := by decide +kernel
theorem dk_L_law_432 : decode code 432 = .ok (.iload_n 3, 1) := by decide +kernel
theorem dk_L_law_433 : decode code 433 = .ok (.iconst 1, 1) := by decide +kernel
theorem dk_L_law_434 : decode code 434 = .ok (.iadd, 1) := by decide +kernel
theorem dk_L_law_435 : decode code 435 = .ok (.iaload, 1) := by decide +kernel
theorem dk_L_law_436 : decode code 436 = .ok (.aload_n 0, 1) := by decide +kernel
theorem dk_L_law_437 : decode code 437 = .ok (.iload_n 3, 1) := by decide +kernel
theorem dk_L_law_438 : decode code 438 = .ok (.iconst 2, 1) := by decide +kernel
theorem dk_L_law_439 : decode code 439 = .ok (.iadd, 1) := by decide +kernel
theorem dk_L_law_440 : decode code 440 = .ok (.iaload, 1) := by decide +kernel
theorem dk_L_law_441 : decode code 441 = .ok (.aload_n 0, 1) := by decide +kernel
theorem dk_L_law_442 : decode code 442 = .ok (.iload_n 3, 1) := by decide +kernel
theorem dk_L_law_443 : decode code 443 = .ok (.iconst 3, 1) := by decide +kernel
theorem dk_L_law_444 : decode code 444 = .ok (.iadd, 1) := by decide +kernel
theorem dk_L_law_445 : decode code 445 = .ok (.iaload, 1) := by decide +kernel
theorem dk_L_law_446 : decode code 446 = .ok (.ifCond .eq 7, 3) := by decide +kernel
theorem dk_L_law_449 : decode code 449 = .ok (.iconst 1, 1) := by decide +kernel
theorem dk_L_law_450 : decode code 450 = .ok (.goto 4, 3) := by decide +kernel
theorem dk_L_law_453 : decode code 453 = .ok (.iconst 0, 1) := by decide +kernel
theorem dk_L_law_454 : decode code 454 = .ok (.aload_n 0, 1) := by decide +kernel
theorem dk_L_law_455 : decode code 455 = .ok (.iload_n 3, 1) := by decide +kernel
theorem dk_L_law_456 : decode code 456 = .ok (.iconst 4, 1) := by decide +kernel
theorem dk_L_law_457 : decode code 457 = .ok (.iadd, 1) := by decide +kernel
theorem dk_L_law_458 : decode code 458 = .ok (.iaload, 1) := by decide +kernel
theorem dk_L_law_459 : decode code 459 = .ok (.invokevirtual 59, 3) := by decide +kernel
theorem dk_L_law_462 : decode code 462 = .ok (.aload_n 2, 1) := by decide +kernel
theorem dk_L_law_463 : decode code 463 = .ok (.aload_n 0, 1) := by decide +kernel
theorem dk_L_law_464 : decode code 464 = .ok (.iload_n 3, 1) := by decide +kernel
theorem dk_L_law_465 : decode code 465 = .ok (.iconst 1, 1) := by decide +kernel
theorem dk_L_law_466 : decode code 466 = .ok (.iadd, 1) := by decide +kernel
theorem dk_L_law_467 : decode code 467 = .ok (.iaload, 1) := by decide +kernel
theorem dk_L_law_468 : decode code 468 = .ok (.aload_n 0, 1) := by decide +kernel
theorem dk_L_law_469 : decode code 469 = .ok (.iload_n 3, 1) := by decide +kernel
theorem dk_L_law_470 : decode code 470 = .ok (.iconst 2, 1) := by decide +kernel
theorem dk_L_law_471 : decode code 471 = .ok (.iadd, 1) := by decide +kernel
theorem dk_L_law_472 : decode code 472 = .ok (.iaload, 1) := by decide +kernel
theorem dk_L_law_473 : decode code 473 = .ok (.aload_n 0, 1) := by decide +kernel
theorem dk_L_law_474 : decode code 474 = .ok (.iload_n 3, 1) := by decide +kernel
theorem dk_L_law_475 : decode code 475 = .ok (.iconst 3, 1) := by decide +kernel
theorem dk_L_law_476 : decode code 476 = .ok (.iadd, 1) := by decide +kernel
theorem dk_L_law_477 : decode code 477 = .ok (.iaload, 1) := by decide +kernel
theorem dk_L_law_478 : decode code 478 = .ok (.ifCond .eq 7, 3) := by decide +kernel
theorem dk_L_law_481 : decode code 481 = .ok (.iconst 1, 1) := by decide +kernel
theorem dk_L_law_482 : decode code 482 = .ok (.goto 4, 3) := by decide +kernel
theorem dk_L_law_485 : decode code 485 = .ok (.iconst 0, 1) := by decide +kernel
theorem dk_L_law_486 : decode code 486 = .ok (.aload_n 0, 1) := by decide +kernel
theorem dk_L_law_487 : decode code 487 = .ok (.iload_n 3, 1) := by decide +kernel
theorem dk_L_law_488 : decode code 488 = .ok (.iconst 4, 1) := by decide +kernel
theorem dk_L_law_489 : decode code 489 = .ok (.iadd, 1) := by decide +kernel
theorem dk_L_law_490 : decode code 490 = .ok (.iaload, 1) := by decide +kernel
theorem dk_L_law_491 : decode code 491 = .ok (.invokevirtual 63, 3) := by decide +kernel
theorem dk_L_law_494 : decode code 494 = .ok (.if_icmp .eq 424, 3) := by decide +kernel
theorem dk_L_law_497 : decode code 497 = .ok (.iconst 0, 1) := by decide +kernel
theorem dk_L_law_498 : decode code 498 = .ok (.ireturn, 1) := by decide +kernel
theorem dk_L_law_499 : decode code 499 = .ok (.aload_n 1, 1) := by decide +kernel
theorem dk_L_law_500 : decode code 500 = .ok (.aload_n 0, 1) := by decide +kernel
theorem dk_L_law_501 : decode code 501 = .ok (.iload_n 3, 1) := by decide +kernel
theorem dk_L_law_502 : decode code 502 = .ok (.iconst 1, 1) := by decide +kernel
theorem dk_L_law_503 : decode code 503 = .ok (.iadd, 1) := by decide +kernel
theorem dk_L_law_504 : decode code 504 = .ok (.iaload, 1) := by decide +kernel
theorem dk_L_law_505 : decode code 505 = .ok (.aload_n 0, 1) := by decide +kernel
theorem dk_L_law_506 : decode code 506 = .ok (.iload_n 3, 1) := by decide +kernel
theorem dk_L_law_507 : decode code 507 = .ok (.iconst 2, 1) := by decide +kernel
theorem dk_L_law_508 : decode code 508 = .ok (.iadd, 1) := by decide +kernel
theorem dk_L_law_509 : decode code 509 = .ok (.iaload, 1) := by decide +kernel
theorem dk_L_law_510 : decode code 510 = .ok (.invokevirtual 64, 3) := by decide +kernel
theorem dk_L_law_513 : decode code 513 = .ok (.aload_n 2, 1) := by decide +kernel
theorem dk_L_law_514 : decode code 514 = .ok (.aload_n 0, 1) := by decide +kernel
theorem dk_L_law_515 : decode code 515 = .ok (.iload_n 3, 1) := by decide +kernel
theorem dk_L_law_516 : decode code 516 = .ok (.iconst 1, 1) := by decide +kernel
theorem dk_L_law_517 : decode code 517 = .ok (.iadd, 1) := by decide +kernel
theorem dk_L_law_518 : decode code 518 = .ok (.iaload, 1) := by decide +kernel
theorem dk_L_law_519 : decode code 519 = .ok (.aload_n 0, 1) := by decide +kernel
theorem dk_L_law_520 : decode code 520 = .ok (.iload_n 3, 1) := by decide +kernel
theorem dk_L_law_521 : decode code 521 = .ok (.iconst 2, 1) := by decide +kernel
theorem dk_L_law_522 : decode code 522 = .ok (.iadd, 1) := by decide +kernel
theorem dk_L_law_523 : decode code 523 = .ok (.iaload, 1) := by decide +kernel
theorem dk_L_law_524 : decode code 524 = .ok (.invokevirtual 67, 3) := by decide +kernel
theorem dk_L_law_527 : decode code 527 = .ok (.if_icmp .eq 391, 3) := by decide +kernel
