theorem d_law_491 : decode code 491 = .ok (.lcmp, 1) := by decide +kernel
theorem d_law_492 : decode code 492 = .ok (.ifCond .eq 5, 3) := by decide +kernel
theorem d_law_495 : decode code 495 = .ok (.iconst 0, 1) := by decide +kernel
theorem d_law_496 : decode code 496 = .ok (.ireturn, 1) := by decide +kernel
theorem d_law_497 : decode code 497 = .ok (.goto 259, 3) := by decide +kernel
theorem d_law_500 : decode code 500 = .ok (.aload_n 1, 1) := by decide +kernel
theorem d_law_501 : decode code 501 = .ok (.invokevirtual 78, 3) := by decide +kernel
theorem d_law_504 : decode code 504 = .ok (.aload_n 2, 1) := by decide +kernel
theorem d_law_505 : decode code 505 = .ok (.invokevirtual 81, 3) := by decide +kernel
theorem d_law_508 : decode code 508 = .ok (.if_icmp .eq 248, 3) := by decide +kernel
theorem d_law_511 : decode code 511 = .ok (.iconst 0, 1) := by decide +kernel
theorem d_law_512 : decode code 512 = .ok (.ireturn, 1) := by decide +kernel
theorem d_law_513 : decode code 513 = .ok (.aload_n 1, 1) := by decide +kernel
theorem d_law_514 : decode code 514 = .ok (.invokevirtual 82, 3) := by decide +kernel
theorem d_law_517 : decode code 517 = .ok (.aload_n 2, 1) := by decide +kernel
theorem d_law_518 : decode code 518 = .ok (.invokevirtual 85, 3) := by decide +kernel
theorem d_law_521 : decode code 521 = .ok (.if_icmp .eq 235, 3) := by decide +kernel
theorem d_law_524 : decode code 524 = .ok (.iconst 0, 1) := by decide +kernel
theorem d_law_525 : decode code 525 = .ok (.ireturn, 1) := by decide +kernel
theorem d_law_526 : decode code 526 = .ok (.aload_n 1, 1) := by decide +kernel
theorem d_law_527 : decode code 527 = .ok (.aload_n 0, 1) := by decide +kernel
theorem d_law_528 : decode code 528 = .ok (.iload 4, 2) := by decide +kernel
theorem d_law_530 : decode code 530 = .ok (.iconst 1, 1) := by decide +kernel
theorem d_law_531 : decode code 531 = .ok (.iadd, 1) := by decide +kernel
theorem d_law_532 : decode code 532 = .ok (.iaload, 1) := by decide +kernel
theorem d_law_533 : decode code 533 = .ok (.aload_n 0, 1) := by decide +kernel
theorem d_law_534 : decode code 534 = .ok (.iload 4, 2) := by decide +kernel
theorem d_law_536 : decode code 536 = .ok (.iconst 2, 1) := by decide +kernel
theorem d_law_537 : decode code 537 = .ok (.iadd, 1) := by decide +kernel
theorem d_law_538 : decode code 538 = .ok (.iaload, 1) := by decide +kernel
theorem d_law_539 : decode code 539 = .ok (.aload_n 3, 1) := by decide +kernel
theorem d_law_540 : decode code 540 = .ok (.invokestatic 86, 3) := by decide +kernel
theorem d_law_543 : decode code 543 = .ok (.istore 5, 2) := by decide +kernel
theorem d_law_545 : decode code 545 = .ok (.aload_n 2, 1) := by decide +kernel
theorem d_law_546 : decode code 546 = .ok (.aload_n 0, 1) := by decide +kernel
theorem d_law_547 : decode code 547 = .ok (.iload 4, 2) := by decide +kernel
theorem d_law_549 : decode code 549 = .ok (.iconst 1, 1) := by decide +kernel
theorem d_law_550 : decode code 550 = .ok (.iadd, 1) := by decide +kernel
theorem d_law_551 : decode code 551 = .ok (.iaload, 1) := by decide +kernel
theorem d_law_552 : decode code 552 = .ok (.aload_n 0, 1) := by decide +kernel
theorem d_law_553 : decode code 553 = .ok (.iload 4, 2) := by decide +kernel
theorem d_law_555 : decode code 555 = .ok (.iconst 2, 1) := by decide +kernel
theorem d_law_556 : decode code 556 = .ok (.iadd, 1) := by decide +kernel
theorem d_law_557 : decode code 557 = .ok (.iaload, 1) := by decide +kernel
theorem d_law_558 : decode code 558 = .ok (.invokevirtual 88, 3) := by decide +kernel
theorem d_law_561 : decode code 561 = .ok (.istore 6, 2) := by decide +kernel
theorem d_law_563 : decode code 563 = .ok (.aload_n 2, 1) := by decide +kernel
theorem d_law_564 : decode code 564 = .ok (.invokevirtual 57, 3) := by decide +kernel
theorem d_law_567 : decode code 567 = .ok (.iload 5, 2) := by decide +kernel
theorem d_law_569 : decode code 569 = .ok (.if_icmp .eq 5, 3) := by decide +kernel
theorem d_law_572 : decode code 572 = .ok (.iconst 0, 1) := by decide +kernel
theorem d_law_573 : decode code 573 = .ok (.ireturn, 1) := by decide +kernel
theorem d_law_574 : decode code 574 = .ok (.iload 5, 2) := by decide +kernel
theorem d_law_576 : decode code 576 = .ok (.ifCond .ne 15, 3) := by decide +kernel
theorem d_law_579 : decode code 579 = .ok (.aload_n 3, 1) := by decide +kernel
theorem d_law_580 : decode code 580 = .ok (.iconst 0, 1) := by decide +kernel
theorem d_law_581 : decode code 581 = .ok (.laload, 1) := by decide +kernel
theorem d_law_582 : decode code 582 = .ok (.iload 6, 2) := by decide +kernel
theorem d_law_584 : decode code 584 = .ok (.i2l, 1) := by decide +kernel
theorem d_law_585 : decode code 585 = .ok (.lcmp, 1) := by decide +kernel
theorem d_law_586 : decode code 586 = .ok (.ifCond .eq 5, 3) := by decide +kernel
theorem d_law_589 : decode code 589 = .ok (.iconst 0, 1) := by decide +kernel
theorem d_law_590 : decode code 590 = .ok (.ireturn, 1) := by decide +kernel
theorem d_law_591 : decode code 591 = .ok (.goto 165, 3) := by decide +kernel
theorem d_law_594 : decode code 594 = .ok (.aload_n 1, 1) := by decide +kernel
theorem d_law_595 : decode code 595 = .ok (.aload_n 0, 1) := by decide +kernel
theorem d_law_596 : decode code 596 = .ok (.iload 4, 2) := by decide +kernel
theorem d_law_598 : decode code 598 = .ok (.iconst 1, 1) := by decide +kernel
theorem d_law_599 : decode code 599 = .ok (.iadd, 1) := by decide +kernel
theorem d_law_600 : decode code 600 = .ok (.iaload, 1) := by decide +kernel
