theorem dLaw_472 : decode code 472 = .ok (.istore 6, 2) := by decide +kernel
theorem dLaw_474 : decode code 474 = .ok (.aload_n 2, 1) := by decide +kernel
theorem dLaw_475 : decode code 475 = .ok (.invokevirtual 59, 3) := by decide +kernel
theorem dLaw_478 : decode code 478 = .ok (.iload 5, 2) := by decide +kernel
theorem dLaw_480 : decode code 480 = .ok (.if_icmp .eq 5, 3) := by decide +kernel
theorem dLaw_483 : decode code 483 = .ok (.iconst 0, 1) := by decide +kernel
theorem dLaw_484 : decode code 484 = .ok (.ireturn, 1) := by decide +kernel
theorem dLaw_485 : decode code 485 = .ok (.iload 5, 2) := by decide +kernel
theorem dLaw_487 : decode code 487 = .ok (.ifCond .ne 15, 3) := by decide +kernel
theorem dLaw_490 : decode code 490 = .ok (.aload_n 3, 1) := by decide +kernel
theorem dLaw_491 : decode code 491 = .ok (.iconst 0, 1) := by decide +kernel
theorem dLaw_492 : decode code 492 = .ok (.laload, 1) := by decide +kernel
theorem dLaw_493 : decode code 493 = .ok (.iload 6, 2) := by decide +kernel
theorem dLaw_495 : decode code 495 = .ok (.i2l, 1) := by decide +kernel
theorem dLaw_496 : decode code 496 = .ok (.lcmp, 1) := by decide +kernel
theorem dLaw_497 : decode code 497 = .ok (.ifCond .eq 5, 3) := by decide +kernel
theorem dLaw_500 : decode code 500 = .ok (.iconst 0, 1) := by decide +kernel
theorem dLaw_501 : decode code 501 = .ok (.ireturn, 1) := by decide +kernel
theorem dLaw_502 : decode code 502 = .ok (.goto 371, 3) := by decide +kernel
theorem dLaw_505 : decode code 505 = .ok (.aload_n 1, 1) := by decide +kernel
theorem dLaw_506 : decode code 506 = .ok (.invokevirtual 81, 3) := by decide +kernel
theorem dLaw_509 : decode code 509 = .ok (.aload_n 2, 1) := by decide +kernel
theorem dLaw_510 : decode code 510 = .ok (.invokevirtual 84, 3) := by decide +kernel
theorem dLaw_513 : decode code 513 = .ok (.if_icmp .eq 360, 3) := by decide +kernel
theorem dLaw_516 : decode code 516 = .ok (.iconst 0, 1) := by decide +kernel
theorem dLaw_517 : decode code 517 = .ok (.ireturn, 1) := by decide +kernel
theorem dLaw_518 : decode code 518 = .ok (.aload_n 1, 1) := by decide +kernel
theorem dLaw_519 : decode code 519 = .ok (.invokevirtual 85, 3) := by decide +kernel
theorem dLaw_522 : decode code 522 = .ok (.aload_n 2, 1) := by decide +kernel
theorem dLaw_523 : decode code 523 = .ok (.invokevirtual 88, 3) := by decide +kernel
theorem dLaw_526 : decode code 526 = .ok (.if_icmp .eq 347, 3) := by decide +kernel
theorem dLaw_529 : decode code 529 = .ok (.iconst 0, 1) := by decide +kernel
theorem dLaw_530 : decode code 530 = .ok (.ireturn, 1) := by decide +kernel
theorem dLaw_531 : decode code 531 = .ok (.aload_n 1, 1) := by decide +kernel
theorem dLaw_532 : decode code 532 = .ok (.aload_n 0, 1) := by decide +kernel
theorem dLaw_533 : decode code 533 = .ok (.iload 4, 2) := by decide +kernel
theorem dLaw_535 : decode code 535 = .ok (.iconst 1, 1) := by decide +kernel
theorem dLaw_536 : decode code 536 = .ok (.iadd, 1) := by decide +kernel
theorem dLaw_537 : decode code 537 = .ok (.iaload, 1) := by decide +kernel
theorem dLaw_538 : decode code 538 = .ok (.aload_n 3, 1) := by decide +kernel
theorem dLaw_539 : decode code 539 = .ok (.invokestatic 89, 3) := by decide +kernel
theorem dLaw_542 : decode code 542 = .ok (.istore 5, 2) := by decide +kernel
theorem dLaw_544 : decode code 544 = .ok (.aload_n 2, 1) := by decide +kernel
theorem dLaw_545 : decode code 545 = .ok (.aload_n 0, 1) := by decide +kernel
theorem dLaw_546 : decode code 546 = .ok (.iload 4, 2) := by decide +kernel
theorem dLaw_548 : decode code 548 = .ok (.iconst 1, 1) := by decide +kernel
theorem dLaw_549 : decode code 549 = .ok (.iadd, 1) := by decide +kernel
theorem dLaw_550 : decode code 550 = .ok (.iaload, 1) := by decide +kernel
theorem dLaw_551 : decode code 551 = .ok (.invokevirtual 91, 3) := by decide +kernel
theorem dLaw_554 : decode code 554 = .ok (.istore 6, 2) := by decide +kernel
theorem dLaw_556 : decode code 556 = .ok (.aload_n 2, 1) := by decide +kernel
theorem dLaw_557 : decode code 557 = .ok (.invokevirtual 59, 3) := by decide +kernel
theorem dLaw_560 : decode code 560 = .ok (.iload 5, 2) := by decide +kernel
theorem dLaw_562 : decode code 562 = .ok (.if_icmp .eq 5, 3) := by decide +kernel
theorem dLaw_565 : decode code 565 = .ok (.iconst 0, 1) := by decide +kernel
theorem dLaw_566 : decode code 566 = .ok (.ireturn, 1) := by decide +kernel
theorem dLaw_567 : decode code 567 = .ok (.iload 5, 2) := by decide +kernel
theorem dLaw_569 : decode code 569 = .ok (.ifCond .ne 15, 3) := by decide +kernel
theorem dLaw_572 : decode code 572 = .ok (.aload_n 3, 1) := by decide +kernel
theorem dLaw_573 : decode code 573 = .ok (.iconst 0, 1) := by decide +kernel
theorem dLaw_574 : decode code 574 = .ok (.laload, 1) := by decide +kernel
theorem dLaw_575 : decode code 575 = .ok (.iload 6, 2) := by decide +kernel
theorem dLaw_577 : decode code 577 = .ok (.i2l, 1) := by decide +kernel
theorem dLaw_578 : decode code 578 = .ok (.lcmp, 1) := by decide +kernel
theorem dLaw_579 : decode code 579 = .ok (.ifCond .eq 5, 3) := by decide +kernel
theorem dLaw_582 : decode code 582 = .ok (.iconst 0, 1) := by decide +kernel
theorem dLaw_583 : decode code 583 = .ok (.ireturn, 1) := by decide +kernel
theorem dLaw_584 : decode code 584 = .ok (.goto 289, 3) := by decide +kernel
theorem dLaw_587 : decode code 587 = .ok (.aload_n 1, 1) := by decide +kernel
theorem dLaw_588 : decode code 588 = .ok (.aload_n 0, 1) := by decide +kernel
theorem dLaw_589 : decode code 589 = .ok (.iload 4, 2) := by decide +kernel
theorem dLaw_591 : decode code 591 = .ok (.iconst 1, 1) := by decide +kernel
theorem dLaw_592 : decode code 592 = .ok (.iadd, 1) := by decide +kernel
theorem dLaw_593 : decode code 593 = .ok (.iaload, 1) := by decide +kernel
theorem dLaw_594 : decode code 594 = .ok (.aload_n 3, 1) := by decide +kernel
theorem dLaw_595 : decode code 595 = .ok (.invokestatic 92, 3) := by decide +kernel
theorem dLaw_598 : decode code 598 = .ok (.istore 5, 2) := by decide +kernel
theorem dLaw_600 : decode code 600 = .ok (.aload_n 2, 1) := by decide +kernel
theorem dLaw_601 : decode code 601 = .ok (.aload_n 0, 1) := by decide +kernel
theorem dLaw_602 : decode code 602 = .ok (.iload 4, 2) := by decide +kernel
theorem dLaw_604 : decode code 604 = .ok (.iconst 1, 1) := by decide +kernel
theorem dLaw_605 : decode code 605 = .ok (.iadd, 1) := by decide +kernel
theorem dLaw_606 : decode code 606 = .ok (.iaload, 1) := by decide +kernel
theorem dLaw_607 : decode code 607 = .ok (.invokevirtual 94, 3) := by decide +kernel
theorem dLaw_610 : decode code 610 = .ok (.lstore 6, 2) := by decide +kernel
theorem dLaw_612 : decode code 612 = .ok (.aload_n 2, 1) := by decide +kernel
theorem dLaw_613 : decode code 613 = .ok (.invokevirtual 59, 3) := by decide +kernel
theorem dLaw_616 : decode code 616 = .ok (.iload 5, 2) := by decide +kernel
theorem dLaw_618 : decode code 618 = .ok (.if_icmp .eq 5, 3) := by decide +kernel
theorem dLaw_621 : decode code 621 = .ok (.iconst 0, 1) := by decide +kernel
