theorem dK_444 : decode code 444 = .ok (.aload_n 0, 1) := by decide +kernel
theorem dK_445 : decode code 445 = .ok (.iload 4, 2) := by decide +kernel
theorem dK_447 : decode code 447 = .ok (.iconst 1, 1) := by decide +kernel
theorem dK_448 : decode code 448 = .ok (.iadd, 1) := by decide +kernel
theorem dK_449 : decode code 449 = .ok (.iaload, 1) := by decide +kernel
theorem dK_450 : decode code 450 = .ok (.aload_n 0, 1) := by decide +kernel
theorem dK_451 : decode code 451 = .ok (.iload 4, 2) := by decide +kernel
theorem dK_453 : decode code 453 = .ok (.iconst 2, 1) := by decide +kernel
theorem dK_454 : decode code 454 = .ok (.iadd, 1) := by decide +kernel
theorem dK_455 : decode code 455 = .ok (.iaload, 1) := by decide +kernel
theorem dK_456 : decode code 456 = .ok (.ifCond .eq 7, 3) := by decide +kernel
theorem dK_459 : decode code 459 = .ok (.iconst 1, 1) := by decide +kernel
theorem dK_460 : decode code 460 = .ok (.goto 4, 3) := by decide +kernel
theorem dK_463 : decode code 463 = .ok (.iconst 0, 1) := by decide +kernel
theorem dK_464 : decode code 464 = .ok (.aload_n 0, 1) := by decide +kernel
theorem dK_465 : decode code 465 = .ok (.iload 4, 2) := by decide +kernel
theorem dK_467 : decode code 467 = .ok (.iconst 3, 1) := by decide +kernel
theorem dK_468 : decode code 468 = .ok (.iadd, 1) := by decide +kernel
theorem dK_469 : decode code 469 = .ok (.iaload, 1) := by decide +kernel
theorem dK_470 : decode code 470 = .ok (.invokevirtual 105, 3) := by decide +kernel
theorem dK_473 : decode code 473 = .ok (.istore 6, 2) := by decide +kernel
theorem dK_475 : decode code 475 = .ok (.aload_n 2, 1) := by decide +kernel
theorem dK_476 : decode code 476 = .ok (.invokevirtual 90, 3) := by decide +kernel
theorem dK_479 : decode code 479 = .ok (.iload 5, 2) := by decide +kernel
theorem dK_481 : decode code 481 = .ok (.if_icmp .eq 5, 3) := by decide +kernel
theorem dK_484 : decode code 484 = .ok (.iconst 0, 1) := by decide +kernel
theorem dK_485 : decode code 485 = .ok (.ireturn, 1) := by decide +kernel
theorem dK_486 : decode code 486 = .ok (.iload 5, 2) := by decide +kernel
theorem dK_488 : decode code 488 = .ok (.ifCond .ne 22, 3) := by decide +kernel
theorem dK_491 : decode code 491 = .ok (.aload_n 3, 1) := by decide +kernel
theorem dK_492 : decode code 492 = .ok (.iconst 0, 1) := by decide +kernel
theorem dK_493 : decode code 493 = .ok (.laload, 1) := by decide +kernel
theorem dK_494 : decode code 494 = .ok (.iload 6, 2) := by decide +kernel
theorem dK_496 : decode code 496 = .ok (.ifCond .eq 7, 3) := by decide +kernel
theorem dK_499 : decode code 499 = .ok (.lconst 1, 1) := by decide +kernel
theorem dK_500 : decode code 500 = .ok (.goto 4, 3) := by decide +kernel
theorem dK_503 : decode code 503 = .ok (.lconst 0, 1) := by decide +kernel
theorem dK_504 : decode code 504 = .ok (.lcmp, 1) := by decide +kernel
theorem dK_505 : decode code 505 = .ok (.ifCond .eq 5, 3) := by decide +kernel
theorem dK_508 : decode code 508 = .ok (.iconst 0, 1) := by decide +kernel
theorem dK_509 : decode code 509 = .ok (.ireturn, 1) := by decide +kernel
theorem dK_510 : decode code 510 = .ok (.goto 848, 3) := by decide +kernel
theorem dK_513 : decode code 513 = .ok (.aload_n 1, 1) := by decide +kernel
theorem dK_514 : decode code 514 = .ok (.aload_n 0, 1) := by decide +kernel
theorem dK_515 : decode code 515 = .ok (.iload 4, 2) := by decide +kernel
theorem dK_517 : decode code 517 = .ok (.iconst 1, 1) := by decide +kernel
theorem dK_518 : decode code 518 = .ok (.iadd, 1) := by decide +kernel
theorem dK_519 : decode code 519 = .ok (.iaload, 1) := by decide +kernel
theorem dK_520 : decode code 520 = .ok (.aload_n 0, 1) := by decide +kernel
theorem dK_521 : decode code 521 = .ok (.iload 4, 2) := by decide +kernel
theorem dK_523 : decode code 523 = .ok (.iconst 2, 1) := by decide +kernel
theorem dK_524 : decode code 524 = .ok (.iadd, 1) := by decide +kernel
theorem dK_525 : decode code 525 = .ok (.iaload, 1) := by decide +kernel
theorem dK_526 : decode code 526 = .ok (.aload_n 3, 1) := by decide +kernel
theorem dK_527 : decode code 527 = .ok (.invokestatic 106, 3) := by decide +kernel
theorem dK_530 : decode code 530 = .ok (.istore 5, 2) := by decide +kernel
theorem dK_532 : decode code 532 = .ok (.aload_n 2, 1) := by decide +kernel
theorem dK_533 : decode code 533 = .ok (.aload_n 0, 1) := by decide +kernel
theorem dK_534 : decode code 534 = .ok (.iload 4, 2) := by decide +kernel
theorem dK_536 : decode code 536 = .ok (.iconst 1, 1) := by decide +kernel
theorem dK_537 : decode code 537 = .ok (.iadd, 1) := by decide +kernel
theorem dK_538 : decode code 538 = .ok (.iaload, 1) := by decide +kernel
theorem dK_539 : decode code 539 = .ok (.aload_n 0, 1) := by decide +kernel
theorem dK_540 : decode code 540 = .ok (.iload 4, 2) := by decide +kernel
theorem dK_542 : decode code 542 = .ok (.iconst 2, 1) := by decide +kernel
theorem dK_543 : decode code 543 = .ok (.iadd, 1) := by decide +kernel
theorem dK_544 : decode code 544 = .ok (.iaload, 1) := by decide +kernel
theorem dK_545 : decode code 545 = .ok (.invokevirtual 109, 3) := by decide +kernel
theorem dK_548 : decode code 548 = .ok (.istore 6, 2) := by decide +kernel
theorem dK_550 : decode code 550 = .ok (.aload_n 2, 1) := by decide +kernel
theorem dK_551 : decode code 551 = .ok (.invokevirtual 90, 3) := by decide +kernel
theorem dK_554 : decode code 554 = .ok (.iload 5, 2) := by decide +kernel
theorem dK_556 : decode code 556 = .ok (.if_icmp .eq 5, 3) := by decide +kernel
theorem dK_559 : decode code 559 = .ok (.iconst 0, 1) := by decide +kernel
theorem dK_560 : decode code 560 = .ok (.ireturn, 1) := by decide +kernel
theorem dK_561 : decode code 561 = .ok (.iload 5, 2) := by decide +kernel
theorem dK_563 : decode code 563 = .ok (.ifCond .ne 15, 3) := by decide +kernel
theorem dK_566 : decode code 566 = .ok (.aload_n 3, 1) := by decide +kernel
theorem dK_567 : decode code 567 = .ok (.iconst 0, 1) := by decide +kernel
theorem dK_568 : decode code 568 = .ok (.laload, 1) := by decide +kernel
theorem dK_569 : decode code 569 = .ok (.iload 6, 2) := by decide +kernel
theorem dK_571 : decode code 571 = .ok (.i2l, 1) := by decide +kernel
theorem dK_572 : decode code 572 = .ok (.lcmp, 1) := by decide +kernel
theorem dK_573 : decode code 573 = .ok (.ifCond .eq 5, 3) := by decide +kernel
theorem dK_576 : decode code 576 = .ok (.iconst 0, 1) := by decide +kernel
theorem dK_577 : decode code 577 = .ok (.ireturn, 1) := by decide +kernel
theorem dK_578 : decode code 578 = .ok (.goto 780, 3) := by decide +kernel
theorem dK_581 : decode code 581 = .ok (.aload_n 1, 1) := by decide +kernel
theorem dK_582 : decode code 582 = .ok (.aload_n 0, 1) := by decide +kernel
theorem dK_583 : decode code 583 = .ok (.iload 4, 2) := by decide +kernel
theorem dK_585 : decode code 585 = .ok (.iconst 1, 1) := by decide +kernel
theorem dK_586 : decode code 586 = .ok (.iadd, 1) := by decide +kernel
theorem dK_587 : decode code 587 = .ok (.iaload, 1) := by decide +kernel
theorem dK_588 : decode code 588 = .ok (.aload_n 0, 1) := by decide +kernel
theorem dK_589 : decode code 589 = .ok (.iload 4, 2) := by decide +kernel
theorem dK_591 : decode code 591 = .ok (.iconst 2, 1) := by decide +kernel
theorem dK_592 : decode code 592 = .ok (.iadd, 1) := by decide +kernel
theorem dK_593 : decode code 593 = .ok (.iaload, 1) := by decide +kernel
theorem dK_594 : decode code 594 = .ok (.aload_n 3, 1) := by decide +kernel
theorem dK_595 : decode code 595 = .ok (.invokestatic 110, 3) := by decide +kernel
theorem dK_598 : decode code 598 = .ok (.istore 5, 2) := by decide +kernel
theorem dK_600 : decode code 600 = .ok (.aload_n 2, 1) := by decide +kernel
theorem dK_601 : decode code 601 = .ok (.aload_n 0, 1) := by decide +kernel
theorem dK_602 : decode code 602 = .ok (.iload 4, 2) := by decide +kernel
theorem dK_604 : decode code 604 = .ok (.iconst 1, 1) := by decide +kernel
theorem dK_605 : decode code 605 = .ok (.iadd, 1) := by decide +kernel
theorem dK_606 : decode code 606 = .ok (.iaload, 1) := by decide +kernel
theorem dK_607 : decode code 607 = .ok (.aload_n 0, 1) := by decide +kernel
theorem dK_608 : decode code 608 = .ok (.iload 4, 2) := by decide +kernel
theorem dK_610 : decode code 610 = .ok (.iconst 2, 1) := by decide +kernel
theorem dK_611 : decode code 611 = .ok (.iadd, 1) := by decide +kernel
theorem dK_612 : decode code 612 = .ok (.iaload, 1) := by decide +kernel
theorem dK_613 : decode code 613 = .ok (.invokevirtual 112, 3) := by decide +kernel
theorem dK_616 : decode code 616 = .ok (.istore 6, 2) := by decide +kernel
theorem dK_618 : decode code 618 = .ok (.aload_n 2, 1) := by decide +kernel
theorem dK_619 : decode code 619 = .ok (.invokevirtual 90, 3) := by decide +kernel
theorem dK_622 : decode code 622 = .ok (.iload 5, 2) := by decide +kernel
theorem dK_624 : decode code 624 = .ok (.if_icmp .eq 5, 3) := by decide +kernel
theorem dK_627 : decode code 627 = .ok (.iconst 0, 1) := by decide +kernel
theorem dK_628 : decode code 628 = .ok (.ireturn, 1) := by decide +kernel
