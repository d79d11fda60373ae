theorem d_LW_law_449 : decode code 449 = .ok (.iconst 4, 1) := by decide +kernel
theorem d_LW_law_450 : decode code 450 = .ok (.iadd, 1) := by decide +kernel
theorem d_LW_law_451 : decode code 451 = .ok (.iaload, 1) := by decide +kernel
theorem d_LW_law_452 : decode code 452 = .ok (.invokevirtual 78, 3) := by decide +kernel
theorem d_LW_law_455 : decode code 455 = .ok (.istore 6, 2) := by decide +kernel
theorem d_LW_law_457 : decode code 457 = .ok (.aload_n 2, 1) := by decide +kernel
theorem d_LW_law_458 : decode code 458 = .ok (.invokevirtual 64, 3) := by decide +kernel
theorem d_LW_law_461 : decode code 461 = .ok (.iload 5, 2) := by decide +kernel
theorem d_LW_law_463 : decode code 463 = .ok (.if_icmp .eq 5, 3) := by decide +kernel
theorem d_LW_law_466 : decode code 466 = .ok (.iconst 0, 1) := by decide +kernel
theorem d_LW_law_467 : decode code 467 = .ok (.ireturn, 1) := by decide +kernel
theorem d_LW_law_468 : decode code 468 = .ok (.iload 5, 2) := by decide +kernel
theorem d_LW_law_470 : decode code 470 = .ok (.ifCond .ne 15, 3) := by decide +kernel
theorem d_LW_law_473 : decode code 473 = .ok (.aload_n 3, 1) := by decide +kernel
theorem d_LW_law_474 : decode code 474 = .ok (.iconst 0, 1) := by decide +kernel
theorem d_LW_law_475 : decode code 475 = .ok (.laload, 1) := by decide +kernel
theorem d_LW_law_476 : decode code 476 = .ok (.iload 6, 2) := by decide +kernel
theorem d_LW_law_478 : decode code 478 = .ok (.i2l, 1) := by decide +kernel
theorem d_LW_law_479 : decode code 479 = .ok (.lcmp, 1) := by decide +kernel
theorem d_LW_law_480 : decode code 480 = .ok (.ifCond .eq 5, 3) := by decide +kernel
theorem d_LW_law_483 : decode code 483 = .ok (.iconst 0, 1) := by decide +kernel
theorem d_LW_law_484 : decode code 484 = .ok (.ireturn, 1) := by decide +kernel
theorem d_LW_law_485 : decode code 485 = .ok (.goto 368, 3) := by decide +kernel
theorem d_LW_law_488 : decode code 488 = .ok (.aload_n 1, 1) := by decide +kernel
theorem d_LW_law_489 : decode code 489 = .ok (.invokevirtual 79, 3) := by decide +kernel
theorem d_LW_law_492 : decode code 492 = .ok (.aload_n 2, 1) := by decide +kernel
theorem d_LW_law_493 : decode code 493 = .ok (.invokevirtual 82, 3) := by decide +kernel
theorem d_LW_law_496 : decode code 496 = .ok (.if_icmp .eq 357, 3) := by decide +kernel
theorem d_LW_law_499 : decode code 499 = .ok (.iconst 0, 1) := by decide +kernel
theorem d_LW_law_500 : decode code 500 = .ok (.ireturn, 1) := by decide +kernel
theorem d_LW_law_501 : decode code 501 = .ok (.aload_n 1, 1) := by decide +kernel
theorem d_LW_law_502 : decode code 502 = .ok (.aload_n 0, 1) := by decide +kernel
theorem d_LW_law_503 : decode code 503 = .ok (.iload 4, 2) := by decide +kernel
theorem d_LW_law_505 : decode code 505 = .ok (.iconst 1, 1) := by decide +kernel
theorem d_LW_law_506 : decode code 506 = .ok (.iadd, 1) := by decide +kernel
theorem d_LW_law_507 : decode code 507 = .ok (.iaload, 1) := by decide +kernel
theorem d_LW_law_508 : decode code 508 = .ok (.aload_n 0, 1) := by decide +kernel
theorem d_LW_law_509 : decode code 509 = .ok (.iload 4, 2) := by decide +kernel
theorem d_LW_law_511 : decode code 511 = .ok (.iconst 2, 1) := by decide +kernel
theorem d_LW_law_512 : decode code 512 = .ok (.iadd, 1) := by decide +kernel
theorem d_LW_law_513 : decode code 513 = .ok (.iaload, 1) := by decide +kernel
theorem d_LW_law_514 : decode code 514 = .ok (.aload_n 3, 1) := by decide +kernel
theorem d_LW_law_515 : decode code 515 = .ok (.invokestatic 83, 3) := by decide +kernel
theorem d_LW_law_518 : decode code 518 = .ok (.istore 5, 2) := by decide +kernel
theorem d_LW_law_520 : decode code 520 = .ok (.aload_n 2, 1) := by decide +kernel
theorem d_LW_law_521 : decode code 521 = .ok (.aload_n 0, 1) := by decide +kernel
theorem d_LW_law_522 : decode code 522 = .ok (.iload 4, 2) := by decide +kernel
theorem d_LW_law_524 : decode code 524 = .ok (.iconst 1, 1) := by decide +kernel
theorem d_LW_law_525 : decode code 525 = .ok (.iadd, 1) := by decide +kernel
theorem d_LW_law_526 : decode code 526 = .ok (.iaload, 1) := by decide +kernel
theorem d_LW_law_527 : decode code 527 = .ok (.aload_n 0, 1) := by decide +kernel
theorem d_LW_law_528 : decode code 528 = .ok (.iload 4, 2) := by decide +kernel
theorem d_LW_law_530 : decode code 530 = .ok (.iconst 2, 1) := by decide +kernel
theorem d_LW_law_531 : decode code 531 = .ok (.iadd, 1) := by decide +kernel
theorem d_LW_law_532 : decode code 532 = .ok (.iaload, 1) := by decide +kernel
theorem d_LW_law_533 : decode code 533 = .ok (.invokevirtual 85, 3) := by decide +kernel
theorem d_LW_law_536 : decode code 536 = .ok (.istore 6, 2) := by decide +kernel
theorem d_LW_law_538 : decode code 538 = .ok (.aload_n 2, 1) := by decide +kernel
theorem d_LW_law_539 : decode code 539 = .ok (.invokevirtual 64, 3) := by decide +kernel
theorem d_LW_law_542 : decode code 542 = .ok (.iload 5, 2) := by decide +kernel
theorem d_LW_law_544 : decode code 544 = .ok (.if_icmp .eq 5, 3) := by decide +kernel
theorem d_LW_law_547 : decode code 547 = .ok (.iconst 0, 1) := by decide +kernel
theorem d_LW_law_548 : decode code 548 = .ok (.ireturn, 1) := by decide +kernel
theorem d_LW_law_549 : decode code 549 = .ok (.iload 5, 2) := by decide +kernel
theorem d_LW_law_551 : decode code 551 = .ok (.ifCond .ne 15, 3) := by decide +kernel
theorem d_LW_law_554 : decode code 554 = .ok (.aload_n 3, 1) := by decide +kernel
theorem d_LW_law_555 : decode code 555 = .ok (.iconst 0, 1) := by decide +kernel
theorem d_LW_law_556 : decode code 556 = .ok (.laload, 1) := by decide +kernel
theorem d_LW_law_557 : decode code 557 = .ok (.iload 6, 2) := by decide +kernel
theorem d_LW_law_559 : decode code 559 = .ok (.i2l, 1) := by decide +kernel
theorem d_LW_law_560 : decode code 560 = .ok (.lcmp, 1) := by decide +kernel
theorem d_LW_law_561 : decode code 561 = .ok (.ifCond .eq 5, 3) := by decide +kernel
theorem d_LW_law_564 : decode code 564 = .ok (.iconst 0, 1) := by decide +kernel
theorem d_LW_law_565 : decode code 565 = .ok (.ireturn, 1) := by decide +kernel
theorem d_LW_law_566 : decode code 566 = .ok (.goto 287, 3) := by decide +kernel
theorem d_LW_law_569 : decode code 569 = .ok (.aload_n 1, 1) := by decide +kernel
theorem d_LW_law_570 : decode code 570 = .ok (.aload_n 0, 1) := by decide +kernel
theorem d_LW_law_571 : decode code 571 = .ok (.iload 4, 2) := by decide +kernel
theorem d_LW_law_573 : decode code 573 = .ok (.iconst 1, 1) := by decide +kernel
theorem d_LW_law_574 : decode code 574 = .ok (.iadd, 1) := by decide +kernel
theorem d_LW_law_575 : decode code 575 = .ok (.iaload, 1) := by decide +kernel
theorem d_LW_law_576 : decode code 576 = .ok (.aload_n 0, 1) := by decide +kernel
theorem d_LW_law_577 : decode code 577 = .ok (.iload 4, 2) := by decide +kernel
theorem d_LW_law_579 : decode code 579 = .ok (.iconst 2, 1) := by decide +kernel
theorem d_LW_law_580 : decode code 580 = .ok (.iadd, 1) := by decide +kernel
theorem d_LW_law_581 : decode code 581 = .ok (.iaload, 1) := by decide +kernel
theorem d_LW_law_582 : decode code 582 = .ok (.aload_n 0, 1) := by decide +kernel
theorem d_LW_law_583 : decode code 583 = .ok (.iload 4, 2) := by decide +kernel
theorem d_LW_law_585 : decode code 585 = .ok (.iconst 3, 1) := by decide +kernel
theorem d_LW_law_586 : decode code 586 = .ok (.iadd, 1) := by decide +kernel
theorem d_LW_law_587 : decode code 587 = .ok (.iaload, 1) := by decide +kernel
theorem d_LW_law_588 : decode code 588 = .ok (.aload_n 3, 1) := by decide +kernel
theorem d_LW_law_589 : decode code 589 = .ok (.invokestatic 86, 3) := by decide +kernel
theorem d_LW_law_592 : decode code 592 = .ok (.istore 5, 2) := by decide +kernel
theorem d_LW_law_594 : decode code 594 = .ok (.aload_n 2, 1) := by decide +kernel
theorem d_LW_law_595 : decode code 595 = .ok (.aload_n 0, 1) := by decide +kernel
theorem d_LW_law_596 : decode code 596 = .ok (.iload 4, 2) := by decide +kernel
theorem d_LW_law_598 : decode code 598 = .ok (.iconst 1, 1) := by decide +kernel
theorem d_LW_law_599 : decode code 599 = .ok (.iadd, 1) := by decide +kernel
theorem d_LW_law_600 : decode code 600 = .ok (.iaload, 1) := by decide +kernel
theorem d_LW_law_601 : decode code 601 = .ok (.aload_n 0, 1) := by decide +kernel
theorem d_LW_law_602 : decode code 602 = .ok (.iload 4, 2) := by decide +kernel
theorem d_LW_law_604 : decode code 604 = .ok (.iconst 2, 1) := by decide +kernel
theorem d_LW_law_605 : decode code 605 = .ok (.iadd, 1) := by decide +kernel
theorem d_LW_law_606 : decode code 606 = .ok (.iaload, 1) := by decide +kernel
theorem d_LW_law_607 : decode code 607 = .ok (.aload_n 0, 1) := by decide +kernel
theorem d_LW_law_608 : decode code 608 = .ok (.iload 4, 2) := by decide +kernel
theorem d_LW_law_610 : decode code 610 = .ok (.iconst 3, 1) := by decide +kernel
theorem d_LW_law_611 : decode code 611 = .ok (.iadd, 1) := by decide +kernel
theorem d_LW_law_612 : decode code 612 = .ok (.iaload, 1) := by decide +kernel
theorem d_LW_law_613 : decode code 613 = .ok (.invokevirtual 89, 3) := by decide +kernel
theorem d_LW_law_616 : decode code 616 = .ok (.istore 6, 2) := by decide +kernel
theorem d_LW_law_618 : decode code 618 = .ok (.aload_n 2, 1) := by decide +kernel
theorem d_LW_law_619 : decode code 619 = .ok (.invokevirtual 64, 3) := by decide +kernel
theorem d_LW_law_622 : decode code 622 = .ok (.iload 5, 2) := by decide +kernel
theorem d_LW_law_624 : decode code 624 = .ok (.if_icmp .eq 5, 3) := by decide +kernel
theorem d_LW_law_627 : decode code 627 = .ok (.iconst 0, 1) := by decide +kernel
theorem d_LW_law_628 : decode code 628 = .ok (.ireturn, 1) := by decide +kernel
theorem d_LW_law_629 : decode code 629 = .ok (.iload 5, 2) := by decide +kernel
theorem d_LW_law_631 : decode code 631 = .ok (.ifCond .ne 15, 3) := by decide +kernel
theorem d_LW_law_634 : decode code 634 = .ok (.aload_n 3, 1) := by decide +kernel
theorem d_LW_law_635 : decode code 635 = .ok (.iconst 0, 1) := by decide +kernel
theorem d_LW_law_636 : decode code 636 = .ok (.laload, 1) := by decide +kernel
theorem d_LW_law_637 : decode code 637 = .ok (.iload 6, 2) := by decide +kernel
theorem d_LW_law_639 : decode code 639 = .ok (.i2l, 1) := by decide +kernel
theorem d_LW_law_640 : decode code 640 = .ok (.lcmp, 1) := by decide +kernel
theorem d_LW_law_641 : decode code 641 = .ok (.ifCond .eq 5, 3) := by decide +kernel
theorem d_LW_law_644 : decode code 644 = .ok (.iconst 0, 1) := by decide +kernel
theorem d_LW_law_645 : decode code 645 = .ok (.ireturn, 1) := by decide +kernel
theorem d_LW_law_646 : decode code 646 = .ok (.goto 207, 3) := by decide +kernel
theorem d_LW_law_649 : decode code 649 = .ok (.aload_n 1, 1) := by decide +kernel
theorem d_LW_law_650 : decode code 650 = .ok (.aload_n 0, 1) := by decide +kernel
theorem d_LW_law_651 : decode code 651 = .ok (.iload 4, 2) := by decide +kernel
theorem d_LW_law_653 : decode code 653 = .ok (.iconst 1, 1) := by decide +kernel
