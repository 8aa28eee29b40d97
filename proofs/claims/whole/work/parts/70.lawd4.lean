theorem dl_374 : decode code 374 = .ok (.iconst 1, 1) := by decide +kernel
theorem dl_375 : decode code 375 = .ok (.goto 4, 3) := by decide +kernel
theorem dl_378 : decode code 378 = .ok (.iconst 0, 1) := by decide +kernel
theorem dl_379 : decode code 379 = .ok (.invokevirtual 45, 3) := by decide +kernel
theorem dl_382 : decode code 382 = .ok (.if_icmp .eq 252, 3) := by decide +kernel
theorem dl_385 : decode code 385 = .ok (.iconst 0, 1) := by decide +kernel
theorem dl_386 : decode code 386 = .ok (.ireturn, 1) := by decide +kernel
theorem dl_387 : decode code 387 = .ok (.aload_n 1, 1) := by decide +kernel
theorem dl_388 : decode code 388 = .ok (.aload_n 0, 1) := by decide +kernel
theorem dl_389 : decode code 389 = .ok (.iload_n 3, 1) := by decide +kernel
theorem dl_390 : decode code 390 = .ok (.iconst 1, 1) := by decide +kernel
theorem dl_391 : decode code 391 = .ok (.iadd, 1) := by decide +kernel
theorem dl_392 : decode code 392 = .ok (.iaload, 1) := by decide +kernel
theorem dl_393 : decode code 393 = .ok (.aload_n 0, 1) := by decide +kernel
theorem dl_394 : decode code 394 = .ok (.iload_n 3, 1) := by decide +kernel
theorem dl_395 : decode code 395 = .ok (.iconst 2, 1) := by decide +kernel
theorem dl_396 : decode code 396 = .ok (.iadd, 1) := by decide +kernel
theorem dl_397 : decode code 397 = .ok (.iaload, 1) := by decide +kernel
theorem dl_398 : decode code 398 = .ok (.ifCond .eq 7, 3) := by decide +kernel
theorem dl_401 : decode code 401 = .ok (.iconst 1, 1) := by decide +kernel
theorem dl_402 : decode code 402 = .ok (.goto 4, 3) := by decide +kernel
theorem dl_405 : decode code 405 = .ok (.iconst 0, 1) := by decide +kernel
theorem dl_406 : decode code 406 = .ok (.invokevirtual 46, 3) := by decide +kernel
theorem dl_409 : decode code 409 = .ok (.aload_n 2, 1) := by decide +kernel
theorem dl_410 : decode code 410 = .ok (.aload_n 0, 1) := by decide +kernel
theorem dl_411 : decode code 411 = .ok (.iload_n 3, 1) := by decide +kernel
theorem dl_412 : decode code 412 = .ok (.iconst 1, 1) := by decide +kernel
theorem dl_413 : decode code 413 = .ok (.iadd, 1) := by decide +kernel
theorem dl_414 : decode code 414 = .ok (.iaload, 1) := by decide +kernel
theorem dl_415 : decode code 415 = .ok (.aload_n 0, 1) := by decide +kernel
theorem dl_416 : decode code 416 = .ok (.iload_n 3, 1) := by decide +kernel
theorem dl_417 : decode code 417 = .ok (.iconst 2, 1) := by decide +kernel
theorem dl_418 : decode code 418 = .ok (.iadd, 1) := by decide +kernel
theorem dl_419 : decode code 419 = .ok (.iaload, 1) := by decide +kernel
theorem dl_420 : decode code 420 = .ok (.ifCond .eq 7, 3) := by decide +kernel
theorem dl_423 : decode code 423 = .ok (.iconst 1, 1) := by decide +kernel
theorem dl_424 : decode code 424 = .ok (.goto 4, 3) := by decide +kernel
theorem dl_427 : decode code 427 = .ok (.iconst 0, 1) := by decide +kernel
theorem dl_428 : decode code 428 = .ok (.invokevirtual 49, 3) := by decide +kernel
theorem dl_431 : decode code 431 = .ok (.if_icmp .eq 203, 3) := by decide +kernel
theorem dl_434 : decode code 434 = .ok (.iconst 0, 1) := by decide +kernel
theorem dl_435 : decode code 435 = .ok (.ireturn, 1) := by decide +kernel
theorem dl_436 : decode code 436 = .ok (.aload_n 1, 1) := by decide +kernel
theorem dl_437 : decode code 437 = .ok (.aload_n 0, 1) := by decide +kernel
theorem dl_438 : decode code 438 = .ok (.iload_n 3, 1) := by decide +kernel
theorem dl_439 : decode code 439 = .ok (.iconst 1, 1) := by decide +kernel
theorem dl_440 : decode code 440 = .ok (.iadd, 1) := by decide +kernel
theorem dl_441 : decode code 441 = .ok (.iaload, 1) := by decide +kernel
theorem dl_442 : decode code 442 = .ok (.aload_n 0, 1) := by decide +kernel
theorem dl_443 : decode code 443 = .ok (.iload_n 3, 1) := by decide +kernel
theorem dl_444 : decode code 444 = .ok (.iconst 2, 1) := by decide +kernel
theorem dl_445 : decode code 445 = .ok (.iadd, 1) := by decide +kernel
theorem dl_446 : decode code 446 = .ok (.iaload, 1) := by decide +kernel
theorem dl_447 : decode code 447 = .ok (.aload_n 0, 1) := by decide +kernel
theorem dl_448 : decode code 448 = .ok (.iload_n 3, 1) := by decide +kernel
theorem dl_449 : decode code 449 = .ok (.iconst 3, 1) := by decide +kernel
theorem dl_450 : decode code 450 = .ok (.iadd, 1) := by decide +kernel
theorem dl_451 : decode code 451 = .ok (.iaload, 1) := by decide +kernel
theorem dl_452 : decode code 452 = .ok (.invokevirtual 50, 3) := by decide +kernel
theorem dl_455 : decode code 455 = .ok (.aload_n 2, 1) := by decide +kernel
