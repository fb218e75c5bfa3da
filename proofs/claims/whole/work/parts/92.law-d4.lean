theorem d_law_415 : decode code 415 = .ok (.i2l, 1) := by decide +kernel
theorem d_law_416 : decode code 416 = .ok (.ldc2_w 66, 3) := by decide +kernel
theorem d_law_419 : decode code 419 = .ok (.land, 1) := by decide +kernel
theorem d_law_420 : decode code 420 = .ok (.lor, 1) := by decide +kernel
theorem d_law_421 : decode code 421 = .ok (.aload_n 0, 1) := by decide +kernel
theorem d_law_422 : decode code 422 = .ok (.iload 4, 2) := by decide +kernel
theorem d_law_424 : decode code 424 = .ok (.iconst 3, 1) := by decide +kernel
theorem d_law_425 : decode code 425 = .ok (.iadd, 1) := by decide +kernel
theorem d_law_426 : decode code 426 = .ok (.iaload, 1) := by decide +kernel
theorem d_law_427 : decode code 427 = .ok (.i2l, 1) := by decide +kernel
theorem d_law_428 : decode code 428 = .ok (.bipush 32, 2) := by decide +kernel
theorem d_law_430 : decode code 430 = .ok (.lshl, 1) := by decide +kernel
theorem d_law_431 : decode code 431 = .ok (.aload_n 0, 1) := by decide +kernel
theorem d_law_432 : decode code 432 = .ok (.iload 4, 2) := by decide +kernel
theorem d_law_434 : decode code 434 = .ok (.iconst 4, 1) := by decide +kernel
theorem d_law_435 : decode code 435 = .ok (.iadd, 1) := by decide +kernel
theorem d_law_436 : decode code 436 = .ok (.iaload, 1) := by decide +kernel
theorem d_law_437 : decode code 437 = .ok (.i2l, 1) := by decide +kernel
theorem d_law_438 : decode code 438 = .ok (.ldc2_w 66, 3) := by decide +kernel
theorem d_law_441 : decode code 441 = .ok (.land, 1) := by decide +kernel
theorem d_law_442 : decode code 442 = .ok (.lor, 1) := by decide +kernel
theorem d_law_443 : decode code 443 = .ok (.invokevirtual 68, 3) := by decide +kernel
theorem d_law_446 : decode code 446 = .ok (.aload_n 2, 1) := by decide +kernel
theorem d_law_447 : decode code 447 = .ok (.aload_n 0, 1) := by decide +kernel
theorem d_law_448 : decode code 448 = .ok (.iload 4, 2) := by decide +kernel
theorem d_law_450 : decode code 450 = .ok (.iconst 1, 1) := by decide +kernel
theorem d_law_451 : decode code 451 = .ok (.iadd, 1) := by decide +kernel
theorem d_law_452 : decode code 452 = .ok (.iaload, 1) := by decide +kernel
theorem d_law_453 : decode code 453 = .ok (.i2l, 1) := by decide +kernel
theorem d_law_454 : decode code 454 = .ok (.bipush 32, 2) := by decide +kernel
theorem d_law_456 : decode code 456 = .ok (.lshl, 1) := by decide +kernel
theorem d_law_457 : decode code 457 = .ok (.aload_n 0, 1) := by decide +kernel
theorem d_law_458 : decode code 458 = .ok (.iload 4, 2) := by decide +kernel
theorem d_law_460 : decode code 460 = .ok (.iconst 2, 1) := by decide +kernel
theorem d_law_461 : decode code 461 = .ok (.iadd, 1) := by decide +kernel
theorem d_law_462 : decode code 462 = .ok (.iaload, 1) := by decide +kernel
theorem d_law_463 : decode code 463 = .ok (.i2l, 1) := by decide +kernel
theorem d_law_464 : decode code 464 = .ok (.ldc2_w 66, 3) := by decide +kernel
theorem d_law_467 : decode code 467 = .ok (.land, 1) := by decide +kernel
theorem d_law_468 : decode code 468 = .ok (.lor, 1) := by decide +kernel
theorem d_law_469 : decode code 469 = .ok (.aload_n 0, 1) := by decide +kernel
theorem d_law_470 : decode code 470 = .ok (.iload 4, 2) := by decide +kernel
theorem d_law_472 : decode code 472 = .ok (.iconst 3, 1) := by decide +kernel
theorem d_law_473 : decode code 473 = .ok (.iadd, 1) := by decide +kernel
theorem d_law_474 : decode code 474 = .ok (.iaload, 1) := by decide +kernel
theorem d_law_475 : decode code 475 = .ok (.i2l, 1) := by decide +kernel
theorem d_law_476 : decode code 476 = .ok (.bipush 32, 2) := by decide +kernel
theorem d_law_478 : decode code 478 = .ok (.lshl, 1) := by decide +kernel
theorem d_law_479 : decode code 479 = .ok (.aload_n 0, 1) := by decide +kernel
theorem d_law_480 : decode code 480 = .ok (.iload 4, 2) := by decide +kernel
theorem d_law_482 : decode code 482 = .ok (.iconst 4, 1) := by decide +kernel
theorem d_law_483 : decode code 483 = .ok (.iadd, 1) := by decide +kernel
theorem d_law_484 : decode code 484 = .ok (.iaload, 1) := by decide +kernel
theorem d_law_485 : decode code 485 = .ok (.i2l, 1) := by decide +kernel
theorem d_law_486 : decode code 486 = .ok (.ldc2_w 66, 3) := by decide +kernel
theorem d_law_489 : decode code 489 = .ok (.land, 1) := by decide +kernel
theorem d_law_490 : decode code 490 = .ok (.lor, 1) := by decide +kernel
theorem d_law_491 : decode code 491 = .ok (.invokevirtual 72, 3) := by decide +kernel
theorem d_law_494 : decode code 494 = .ok (.if_icmp .eq 136, 3) := by decide +kernel
theorem d_law_497 : decode code 497 = .ok (.iconst 0, 1) := by decide +kernel
