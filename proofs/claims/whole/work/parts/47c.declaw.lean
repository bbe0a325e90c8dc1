theorem dW_409 : decode code 409 = .ok (.iconst 2, 1) := by decide +kernel
theorem dW_410 : decode code 410 = .ok (.iadd, 1) := by decide +kernel
theorem dW_411 : decode code 411 = .ok (.iaload, 1) := by decide +kernel
theorem dW_412 : decode code 412 = .ok (.invokevirtual 78, 3) := by decide +kernel
theorem dW_415 : decode code 415 = .ok (.istore 6, 2) := by decide +kernel
theorem dW_417 : decode code 417 = .ok (.aload_n 2, 1) := by decide +kernel
theorem dW_418 : decode code 418 = .ok (.invokevirtual 63, 3) := by decide +kernel
theorem dW_421 : decode code 421 = .ok (.iload 5, 2) := by decide +kernel
theorem dW_423 : decode code 423 = .ok (.if_icmp .eq 5, 3) := by decide +kernel
theorem dW_426 : decode code 426 = .ok (.iconst 0, 1) := by decide +kernel
theorem dW_427 : decode code 427 = .ok (.ireturn, 1) := by decide +kernel
theorem dW_428 : decode code 428 = .ok (.iload 5, 2) := by decide +kernel
theorem dW_430 : decode code 430 = .ok (.ifCond .ne 15, 3) := by decide +kernel
theorem dW_433 : decode code 433 = .ok (.aload_n 3, 1) := by decide +kernel
theorem dW_434 : decode code 434 = .ok (.iconst 0, 1) := by decide +kernel
theorem dW_435 : decode code 435 = .ok (.laload, 1) := by decide +kernel
theorem dW_436 : decode code 436 = .ok (.iload 6, 2) := by decide +kernel
theorem dW_438 : decode code 438 = .ok (.i2l, 1) := by decide +kernel
theorem dW_439 : decode code 439 = .ok (.lcmp, 1) := by decide +kernel
theorem dW_440 : decode code 440 = .ok (.ifCond .eq 5, 3) := by decide +kernel
theorem dW_443 : decode code 443 = .ok (.iconst 0, 1) := by decide +kernel
theorem dW_444 : decode code 444 = .ok (.ireturn, 1) := by decide +kernel
theorem dW_445 : decode code 445 = .ok (.goto 606, 3) := by decide +kernel
theorem dW_448 : decode code 448 = .ok (.aload_n 1, 1) := by decide +kernel
theorem dW_449 : decode code 449 = .ok (.aload_n 0, 1) := by decide +kernel
theorem dW_450 : decode code 450 = .ok (.iload 4, 2) := by decide +kernel
theorem dW_452 : decode code 452 = .ok (.iconst 1, 1) := by decide +kernel
theorem dW_453 : decode code 453 = .ok (.iadd, 1) := by decide +kernel
theorem dW_454 : decode code 454 = .ok (.iaload, 1) := by decide +kernel
theorem dW_455 : decode code 455 = .ok (.aload_n 0, 1) := by decide +kernel
theorem dW_456 : decode code 456 = .ok (.iload 4, 2) := by decide +kernel
theorem dW_458 : decode code 458 = .ok (.iconst 2, 1) := by decide +kernel
theorem dW_459 : decode code 459 = .ok (.iadd, 1) := by decide +kernel
theorem dW_460 : decode code 460 = .ok (.iaload, 1) := by decide +kernel
theorem dW_461 : decode code 461 = .ok (.aload_n 0, 1) := by decide +kernel
theorem dW_462 : decode code 462 = .ok (.iload 4, 2) := by decide +kernel
theorem dW_464 : decode code 464 = .ok (.iconst 3, 1) := by decide +kernel
theorem dW_465 : decode code 465 = .ok (.iadd, 1) := by decide +kernel
theorem dW_466 : decode code 466 = .ok (.iaload, 1) := by decide +kernel
theorem dW_467 : decode code 467 = .ok (.aload_n 3, 1) := by decide +kernel
theorem dW_468 : decode code 468 = .ok (.invokestatic 79, 3) := by decide +kernel
theorem dW_471 : decode code 471 = .ok (.istore 5, 2) := by decide +kernel
theorem dW_473 : decode code 473 = .ok (.aload_n 2, 1) := by decide +kernel
theorem dW_474 : decode code 474 = .ok (.aload_n 0, 1) := by decide +kernel
theorem dW_475 : decode code 475 = .ok (.iload 4, 2) := by decide +kernel
theorem dW_477 : decode code 477 = .ok (.iconst 1, 1) := by decide +kernel
theorem dW_478 : decode code 478 = .ok (.iadd, 1) := by decide +kernel
theorem dW_479 : decode code 479 = .ok (.iaload, 1) := by decide +kernel
theorem dW_480 : decode code 480 = .ok (.aload_n 0, 1) := by decide +kernel
theorem dW_481 : decode code 481 = .ok (.iload 4, 2) := by decide +kernel
theorem dW_483 : decode code 483 = .ok (.iconst 2, 1) := by decide +kernel
theorem dW_484 : decode code 484 = .ok (.iadd, 1) := by decide +kernel
theorem dW_485 : decode code 485 = .ok (.iaload, 1) := by decide +kernel
theorem dW_486 : decode code 486 = .ok (.aload_n 0, 1) := by decide +kernel
theorem dW_487 : decode code 487 = .ok (.iload 4, 2) := by decide +kernel
theorem dW_489 : decode code 489 = .ok (.iconst 3, 1) := by decide +kernel
theorem dW_490 : decode code 490 = .ok (.iadd, 1) := by decide +kernel
theorem dW_491 : decode code 491 = .ok (.iaload, 1) := by decide +kernel
theorem dW_492 : decode code 492 = .ok (.invokevirtual 81, 3) := by decide +kernel
theorem dW_495 : decode code 495 = .ok (.istore 6, 2) := by decide +kernel
theorem dW_497 : decode code 497 = .ok (.aload_n 2, 1) := by decide +kernel
theorem dW_498 : decode code 498 = .ok (.invokevirtual 63, 3) := by decide +kernel
theorem dW_501 : decode code 501 = .ok (.iload 5, 2) := by decide +kernel
theorem dW_503 : decode code 503 = .ok (.if_icmp .eq 5, 3) := by decide +kernel
theorem dW_506 : decode code 506 = .ok (.iconst 0, 1) := by decide +kernel
theorem dW_507 : decode code 507 = .ok (.ireturn, 1) := by decide +kernel
theorem dW_508 : decode code 508 = .ok (.iload 5, 2) := by decide +kernel
theorem dW_510 : decode code 510 = .ok (.ifCond .ne 15, 3) := by decide +kernel
theorem dW_513 : decode code 513 = .ok (.aload_n 3, 1) := by decide +kernel
theorem dW_514 : decode code 514 = .ok (.iconst 0, 1) := by decide +kernel
theorem dW_515 : decode code 515 = .ok (.laload, 1) := by decide +kernel
theorem dW_516 : decode code 516 = .ok (.iload 6, 2) := by decide +kernel
theorem dW_518 : decode code 518 = .ok (.i2l, 1) := by decide +kernel
theorem dW_519 : decode code 519 = .ok (.lcmp, 1) := by decide +kernel
theorem dW_520 : decode code 520 = .ok (.ifCond .eq 5, 3) := by decide +kernel
theorem dW_523 : decode code 523 = .ok (.iconst 0, 1) := by decide +kernel
theorem dW_524 : decode code 524 = .ok (.ireturn, 1) := by decide +kernel
theorem dW_525 : decode code 525 = .ok (.goto 526, 3) := by decide +kernel
theorem dW_528 : decode code 528 = .ok (.aload_n 1, 1) := by decide +kernel
theorem dW_529 : decode code 529 = .ok (.aload_n 0, 1) := by decide +kernel
theorem dW_530 : decode code 530 = .ok (.iload 4, 2) := by decide +kernel
theorem dW_532 : decode code 532 = .ok (.iconst 1, 1) := by decide +kernel
theorem dW_533 : decode code 533 = .ok (.iadd, 1) := by decide +kernel
theorem dW_534 : decode code 534 = .ok (.iaload, 1) := by decide +kernel
theorem dW_535 : decode code 535 = .ok (.invokevirtual 82, 3) := by decide +kernel
theorem dW_538 : decode code 538 = .ok (.aload_n 2, 1) := by decide +kernel
theorem dW_539 : decode code 539 = .ok (.aload_n 0, 1) := by decide +kernel
theorem dW_540 : decode code 540 = .ok (.iload 4, 2) := by decide +kernel
theorem dW_542 : decode code 542 = .ok (.iconst 1, 1) := by decide +kernel
theorem dW_543 : decode code 543 = .ok (.iadd, 1) := by decide +kernel
theorem dW_544 : decode code 544 = .ok (.iaload, 1) := by decide +kernel
theorem dW_545 : decode code 545 = .ok (.invokevirtual 85, 3) := by decide +kernel
theorem dW_548 : decode code 548 = .ok (.if_icmp .eq 503, 3) := by decide +kernel
theorem dW_551 : decode code 551 = .ok (.iconst 0, 1) := by decide +kernel
theorem dW_552 : decode code 552 = .ok (.ireturn, 1) := by decide +kernel
theorem dW_553 : decode code 553 = .ok (.aload_n 1, 1) := by decide +kernel
theorem dW_554 : decode code 554 = .ok (.aload_n 0, 1) := by decide +kernel
theorem dW_555 : decode code 555 = .ok (.iload 4, 2) := by decide +kernel
theorem dW_557 : decode code 557 = .ok (.iconst 1, 1) := by decide +kernel
theorem dW_558 : decode code 558 = .ok (.iadd, 1) := by decide +kernel
theorem dW_559 : decode code 559 = .ok (.iaload, 1) := by decide +kernel
theorem dW_560 : decode code 560 = .ok (.aload_n 3, 1) := by decide +kernel
theorem dW_561 : decode code 561 = .ok (.invokestatic 86, 3) := by decide +kernel
theorem dW_564 : decode code 564 = .ok (.istore 5, 2) := by decide +kernel
theorem dW_566 : decode code 566 = .ok (.aload_n 2, 1) := by decide +kernel
theorem dW_567 : decode code 567 = .ok (.aload_n 0, 1) := by decide +kernel
theorem dW_568 : decode code 568 = .ok (.iload 4, 2) := by decide +kernel
theorem dW_570 : decode code 570 = .ok (.iconst 1, 1) := by decide +kernel
theorem dW_571 : decode code 571 = .ok (.iadd, 1) := by decide +kernel
theorem dW_572 : decode code 572 = .ok (.iaload, 1) := by decide +kernel
