theorem dl_456 : decode code 456 = .ok (.aload_n 0, 1) := by decide +kernel
theorem dl_457 : decode code 457 = .ok (.iload_n 3, 1) := by decide +kernel
theorem dl_458 : decode code 458 = .ok (.iconst 1, 1) := by decide +kernel
theorem dl_459 : decode code 459 = .ok (.iadd, 1) := by decide +kernel
theorem dl_460 : decode code 460 = .ok (.iaload, 1) := by decide +kernel
theorem dl_461 : decode code 461 = .ok (.aload_n 0, 1) := by decide +kernel
theorem dl_462 : decode code 462 = .ok (.iload_n 3, 1) := by decide +kernel
theorem dl_463 : decode code 463 = .ok (.iconst 2, 1) := by decide +kernel
theorem dl_464 : decode code 464 = .ok (.iadd, 1) := by decide +kernel
theorem dl_465 : decode code 465 = .ok (.iaload, 1) := by decide +kernel
theorem dl_466 : decode code 466 = .ok (.aload_n 0, 1) := by decide +kernel
theorem dl_467 : decode code 467 = .ok (.iload_n 3, 1) := by decide +kernel
theorem dl_468 : decode code 468 = .ok (.iconst 3, 1) := by decide +kernel
theorem dl_469 : decode code 469 = .ok (.iadd, 1) := by decide +kernel
theorem dl_470 : decode code 470 = .ok (.iaload, 1) := by decide +kernel
theorem dl_471 : decode code 471 = .ok (.invokevirtual 53, 3) := by decide +kernel
theorem dl_474 : decode code 474 = .ok (.if_icmp .eq 160, 3) := by decide +kernel
theorem dl_477 : decode code 477 = .ok (.iconst 0, 1) := by decide +kernel
theorem dl_478 : decode code 478 = .ok (.ireturn, 1) := by decide +kernel
theorem dl_479 : decode code 479 = .ok (.aload_n 1, 1) := by decide +kernel
theorem dl_480 : decode code 480 = .ok (.aload_n 0, 1) := by decide +kernel
theorem dl_481 : decode code 481 = .ok (.iload_n 3, 1) := by decide +kernel
theorem dl_482 : decode code 482 = .ok (.iconst 1, 1) := by decide +kernel
theorem dl_483 : decode code 483 = .ok (.iadd, 1) := by decide +kernel
theorem dl_484 : decode code 484 = .ok (.iaload, 1) := by decide +kernel
theorem dl_485 : decode code 485 = .ok (.aload_n 0, 1) := by decide +kernel
theorem dl_486 : decode code 486 = .ok (.iload_n 3, 1) := by decide +kernel
theorem dl_487 : decode code 487 = .ok (.iconst 2, 1) := by decide +kernel
theorem dl_488 : decode code 488 = .ok (.iadd, 1) := by decide +kernel
theorem dl_489 : decode code 489 = .ok (.iaload, 1) := by decide +kernel
theorem dl_490 : decode code 490 = .ok (.invokevirtual 54, 3) := by decide +kernel
theorem dl_493 : decode code 493 = .ok (.aload_n 2, 1) := by decide +kernel
theorem dl_494 : decode code 494 = .ok (.aload_n 0, 1) := by decide +kernel
theorem dl_495 : decode code 495 = .ok (.iload_n 3, 1) := by decide +kernel
theorem dl_496 : decode code 496 = .ok (.iconst 1, 1) := by decide +kernel
theorem dl_497 : decode code 497 = .ok (.iadd, 1) := by decide +kernel
theorem dl_498 : decode code 498 = .ok (.iaload, 1) := by decide +kernel
theorem dl_499 : decode code 499 = .ok (.aload_n 0, 1) := by decide +kernel
theorem dl_500 : decode code 500 = .ok (.iload_n 3, 1) := by decide +kernel
theorem dl_501 : decode code 501 = .ok (.iconst 2, 1) := by decide +kernel
theorem dl_502 : decode code 502 = .ok (.iadd, 1) := by decide +kernel
theorem dl_503 : decode code 503 = .ok (.iaload, 1) := by decide +kernel
theorem dl_504 : decode code 504 = .ok (.invokevirtual 57, 3) := by decide +kernel
theorem dl_507 : decode code 507 = .ok (.if_icmp .eq 127, 3) := by decide +kernel
theorem dl_510 : decode code 510 = .ok (.iconst 0, 1) := by decide +kernel
theorem dl_511 : decode code 511 = .ok (.ireturn, 1) := by decide +kernel
theorem dl_512 : decode code 512 = .ok (.aload_n 1, 1) := by decide +kernel
theorem dl_513 : decode code 513 = .ok (.aload_n 0, 1) := by decide +kernel
theorem dl_514 : decode code 514 = .ok (.iload_n 3, 1) := by decide +kernel
theorem dl_515 : decode code 515 = .ok (.iconst 1, 1) := by decide +kernel
theorem dl_516 : decode code 516 = .ok (.iadd, 1) := by decide +kernel
theorem dl_517 : decode code 517 = .ok (.iaload, 1) := by decide +kernel
theorem dl_518 : decode code 518 = .ok (.aload_n 0, 1) := by decide +kernel
theorem dl_519 : decode code 519 = .ok (.iload_n 3, 1) := by decide +kernel
theorem dl_520 : decode code 520 = .ok (.iconst 2, 1) := by decide +kernel
theorem dl_521 : decode code 521 = .ok (.iadd, 1) := by decide +kernel
theorem dl_522 : decode code 522 = .ok (.iaload, 1) := by decide +kernel
theorem dl_523 : decode code 523 = .ok (.aload_n 0, 1) := by decide +kernel
theorem dl_524 : decode code 524 = .ok (.iload_n 3, 1) := by decide +kernel
theorem dl_525 : decode code 525 = .ok (.iconst 3, 1) := by decide +kernel
