theorem d_L_law_458 : decode b_L_law 458 = .ok (.iconst 0, 1) := by decide +kernel
theorem d_L_law_459 : decode b_L_law 459 = .ok (.invokevirtual 95, 3) := by decide +kernel
theorem d_L_law_462 : decode b_L_law 462 = .ok (.goto 362, 3) := by decide +kernel
theorem d_L_law_465 : decode b_L_law 465 = .ok (.aload_n 1, 1) := by decide +kernel
theorem d_L_law_466 : decode b_L_law 466 = .ok (.aload_n 0, 1) := by decide +kernel
theorem d_L_law_467 : decode b_L_law 467 = .ok (.iload 4, 2) := by decide +kernel
theorem d_L_law_469 : decode b_L_law 469 = .ok (.iconst 1, 1) := by decide +kernel
theorem d_L_law_470 : decode b_L_law 470 = .ok (.iadd, 1) := by decide +kernel
theorem d_L_law_471 : decode b_L_law 471 = .ok (.iaload, 1) := by decide +kernel
theorem d_L_law_472 : decode b_L_law 472 = .ok (.aload_n 3, 1) := by decide +kernel
theorem d_L_law_473 : decode b_L_law 473 = .ok (.invokestatic 96, 3) := by decide +kernel
theorem d_L_law_476 : decode b_L_law 476 = .ok (.istore 5, 2) := by decide +kernel
theorem d_L_law_478 : decode b_L_law 478 = .ok (.aload_n 2, 1) := by decide +kernel
theorem d_L_law_479 : decode b_L_law 479 = .ok (.aload_n 0, 1) := by decide +kernel
theorem d_L_law_480 : decode b_L_law 480 = .ok (.iload 4, 2) := by decide +kernel
theorem d_L_law_482 : decode b_L_law 482 = .ok (.iconst 1, 1) := by decide +kernel
theorem d_L_law_483 : decode b_L_law 483 = .ok (.iadd, 1) := by decide +kernel
theorem d_L_law_484 : decode b_L_law 484 = .ok (.iaload, 1) := by decide +kernel
theorem d_L_law_485 : decode b_L_law 485 = .ok (.invokevirtual 99, 3) := by decide +kernel
theorem d_L_law_488 : decode b_L_law 488 = .ok (.istore 6, 2) := by decide +kernel
theorem d_L_law_490 : decode b_L_law 490 = .ok (.aload_n 2, 1) := by decide +kernel
theorem d_L_law_491 : decode b_L_law 491 = .ok (.invokevirtual 55, 3) := by decide +kernel
theorem d_L_law_494 : decode b_L_law 494 = .ok (.iload 5, 2) := by decide +kernel
theorem d_L_law_496 : decode b_L_law 496 = .ok (.if_icmp .eq 5, 3) := by decide +kernel
theorem d_L_law_499 : decode b_L_law 499 = .ok (.iconst 0, 1) := by decide +kernel
theorem d_L_law_500 : decode b_L_law 500 = .ok (.ireturn, 1) := by decide +kernel
theorem d_L_law_501 : decode b_L_law 501 = .ok (.iload 5, 2) := by decide +kernel
theorem d_L_law_503 : decode b_L_law 503 = .ok (.ifCond .ne 15, 3) := by decide +kernel
theorem d_L_law_506 : decode b_L_law 506 = .ok (.aload_n 3, 1) := by decide +kernel
theorem d_L_law_507 : decode b_L_law 507 = .ok (.iconst 0, 1) := by decide +kernel
theorem d_L_law_508 : decode b_L_law 508 = .ok (.laload, 1) := by decide +kernel
theorem d_L_law_509 : decode b_L_law 509 = .ok (.iload 6, 2) := by decide +kernel
theorem d_L_law_511 : decode b_L_law 511 = .ok (.i2l, 1) := by decide +kernel
theorem d_L_law_512 : decode b_L_law 512 = .ok (.lcmp, 1) := by decide +kernel
theorem d_L_law_513 : decode b_L_law 513 = .ok (.ifCond .eq 5, 3) := by decide +kernel
theorem d_L_law_516 : decode b_L_law 516 = .ok (.iconst 0, 1) := by decide +kernel
theorem d_L_law_517 : decode b_L_law 517 = .ok (.ireturn, 1) := by decide +kernel
theorem d_L_law_518 : decode b_L_law 518 = .ok (.goto 306, 3) := by decide +kernel
theorem d_L_law_521 : decode b_L_law 521 = .ok (.aload_n 1, 1) := by decide +kernel
theorem d_L_law_522 : decode b_L_law 522 = .ok (.aload_n 0, 1) := by decide +kernel
theorem d_L_law_523 : decode b_L_law 523 = .ok (.iload 4, 2) := by decide +kernel
theorem d_L_law_525 : decode b_L_law 525 = .ok (.iconst 1, 1) := by decide +kernel
theorem d_L_law_526 : decode b_L_law 526 = .ok (.iadd, 1) := by decide +kernel
theorem d_L_law_527 : decode b_L_law 527 = .ok (.iaload, 1) := by decide +kernel
theorem d_L_law_528 : decode b_L_law 528 = .ok (.aload_n 3, 1) := by decide +kernel
theorem d_L_law_529 : decode b_L_law 529 = .ok (.invokestatic 100, 3) := by decide +kernel
theorem d_L_law_532 : decode b_L_law 532 = .ok (.istore 5, 2) := by decide +kernel
theorem d_L_law_534 : decode b_L_law 534 = .ok (.aload_n 2, 1) := by decide +kernel
theorem d_L_law_535 : decode b_L_law 535 = .ok (.aload_n 0, 1) := by decide +kernel
theorem d_L_law_536 : decode b_L_law 536 = .ok (.iload 4, 2) := by decide +kernel
theorem d_L_law_538 : decode b_L_law 538 = .ok (.iconst 1, 1) := by decide +kernel
theorem d_L_law_539 : decode b_L_law 539 = .ok (.iadd, 1) := by decide +kernel
theorem d_L_law_540 : decode b_L_law 540 = .ok (.iaload, 1) := by decide +kernel
theorem d_L_law_541 : decode b_L_law 541 = .ok (.invokevirtual 102, 3) := by decide +kernel
theorem d_L_law_544 : decode b_L_law 544 = .ok (.istore 6, 2) := by decide +kernel
theorem d_L_law_546 : decode b_L_law 546 = .ok (.aload_n 2, 1) := by decide +kernel
theorem d_L_law_547 : decode b_L_law 547 = .ok (.invokevirtual 55, 3) := by decide +kernel
theorem d_L_law_550 : decode b_L_law 550 = .ok (.iload 5, 2) := by decide +kernel
theorem d_L_law_552 : decode b_L_law 552 = .ok (.if_icmp .eq 5, 3) := by decide +kernel
theorem d_L_law_555 : decode b_L_law 555 = .ok (.iconst 0, 1) := by decide +kernel
theorem d_L_law_556 : decode b_L_law 556 = .ok (.ireturn, 1) := by decide +kernel
theorem d_L_law_557 : decode b_L_law 557 = .ok (.iload 5, 2) := by decide +kernel
theorem d_L_law_559 : decode b_L_law 559 = .ok (.ifCond .ne 15, 3) := by decide +kernel
theorem d_L_law_562 : decode b_L_law 562 = .ok (.aload_n 3, 1) := by decide +kernel
theorem d_L_law_563 : decode b_L_law 563 = .ok (.iconst 0, 1) := by decide +kernel
theorem d_L_law_564 : decode b_L_law 564 = .ok (.laload, 1) := by decide +kernel
theorem d_L_law_565 : decode b_L_law 565 = .ok (.iload 6, 2) := by decide +kernel
theorem d_L_law_567 : decode b_L_law 567 = .ok (.i2l, 1) := by decide +kernel
theorem d_L_law_568 : decode b_L_law 568 = .ok (.lcmp, 1) := by decide +kernel
theorem d_L_law_569 : decode b_L_law 569 = .ok (.ifCond .eq 5, 3) := by decide +kernel
theorem d_L_law_572 : decode b_L_law 572 = .ok (.iconst 0, 1) := by decide +kernel
theorem d_L_law_573 : decode b_L_law 573 = .ok (.ireturn, 1) := by decide +kernel
theorem d_L_law_574 : decode b_L_law 574 = .ok (.goto 250, 3) := by decide +kernel
theorem d_L_law_577 : decode b_L_law 577 = .ok (.aload_n 1, 1) := by decide +kernel
theorem d_L_law_578 : decode b_L_law 578 = .ok (.aload_n 0, 1) := by decide +kernel
theorem d_L_law_579 : decode b_L_law 579 = .ok (.iload 4, 2) := by decide +kernel
theorem d_L_law_581 : decode b_L_law 581 = .ok (.iconst 1, 1) := by decide +kernel
theorem d_L_law_582 : decode b_L_law 582 = .ok (.iadd, 1) := by decide +kernel
theorem d_L_law_583 : decode b_L_law 583 = .ok (.iaload, 1) := by decide +kernel
theorem d_L_law_584 : decode b_L_law 584 = .ok (.i2l, 1) := by decide +kernel
theorem d_L_law_585 : decode b_L_law 585 = .ok (.bipush 32, 2) := by decide +kernel
theorem d_L_law_587 : decode b_L_law 587 = .ok (.lshl, 1) := by decide +kernel
theorem d_L_law_588 : decode b_L_law 588 = .ok (.aload_n 0, 1) := by decide +kernel
theorem d_L_law_589 : decode b_L_law 589 = .ok (.iload 4, 2) := by decide +kernel
theorem d_L_law_591 : decode b_L_law 591 = .ok (.iconst 2, 1) := by decide +kernel
theorem d_L_law_592 : decode b_L_law 592 = .ok (.iadd, 1) := by decide +kernel
theorem d_L_law_593 : decode b_L_law 593 = .ok (.iaload, 1) := by decide +kernel
theorem d_L_law_594 : decode b_L_law 594 = .ok (.i2l, 1) := by decide +kernel
theorem d_L_law_595 : decode b_L_law 595 = .ok (.ldc2_w 47, 3) := by decide +kernel
theorem d_L_law_598 : decode b_L_law 598 = .ok (.land, 1) := by decide +kernel
theorem d_L_law_599 : decode b_L_law 599 = .ok (.lor, 1) := by decide +kernel
theorem d_L_law_600 : decode b_L_law 600 = .ok (.aload_n 3, 1) := by decide +kernel
theorem d_L_law_601 : decode b_L_law 601 = .ok (.invokestatic 103, 3) := by decide +kernel
theorem d_L_law_604 : decode b_L_law 604 = .ok (.istore 5, 2) := by decide +kernel
theorem d_L_law_606 : decode b_L_law 606 = .ok (.aload_n 2, 1) := by decide +kernel
theorem d_L_law_607 : decode b_L_law 607 = .ok (.aload_n 0, 1) := by decide +kernel
theorem d_L_law_608 : decode b_L_law 608 = .ok (.iload 4, 2) := by decide +kernel
theorem d_L_law_610 : decode b_L_law 610 = .ok (.iconst 1, 1) := by decide +kernel
theorem d_L_law_611 : decode b_L_law 611 = .ok (.iadd, 1) := by decide +kernel
theorem d_L_law_612 : decode b_L_law 612 = .ok (.iaload, 1) := by decide +kernel
theorem d_L_law_613 : decode b_L_law 613 = .ok (.i2l, 1) := by decide +kernel
theorem d_L_law_614 : decode b_L_law 614 = .ok (.bipush 32, 2) := by decide +kernel
theorem d_L_law_616 : decode b_L_law 616 = .ok (.lshl, 1) := by decide +kernel
theorem d_L_law_617 : decode b_L_law 617 = .ok (.aload_n 0, 1) := by decide +kernel
theorem d_L_law_618 : decode b_L_law 618 = .ok (.iload 4, 2) := by decide +kernel
theorem d_L_law_620 : decode b_L_law 620 = .ok (.iconst 2, 1) := by decide +kernel
theorem d_L_law_621 : decode b_L_law 621 = .ok (.iadd, 1) := by decide +kernel
theorem d_L_law_622 : decode b_L_law 622 = .ok (.iaload, 1) := by decide +kernel
theorem d_L_law_623 : decode b_L_law 623 = .ok (.i2l, 1) := by decide +kernel
theorem d_L_law_624 : decode b_L_law 624 = .ok (.ldc2_w 47, 3) := by decide +kernel
theorem d_L_law_627 : decode b_L_law 627 = .ok (.land, 1) := by decide +kernel
theorem d_L_law_628 : decode b_L_law 628 = .ok (.lor, 1) := by decide +kernel
theorem d_L_law_629 : decode b_L_law 629 = .ok (.invokevirtual 106, 3) := by decide +kernel
theorem d_L_law_632 : decode b_L_law 632 = .ok (.istore 6, 2) := by decide +kernel
theorem d_L_law_634 : decode b_L_law 634 = .ok (.aload_n 2, 1) := by decide +kernel
theorem d_L_law_635 : decode b_L_law 635 = .ok (.invokevirtual 55, 3) := by decide +kernel
theorem d_L_law_638 : decode b_L_law 638 = .ok (.iload 5, 2) := by decide +kernel
theorem d_L_law_640 : decode b_L_law 640 = .ok (.if_icmp .eq 5, 3) := by decide +kernel
theorem d_L_law_643 : decode b_L_law 643 = .ok (.iconst 0, 1) := by decide +kernel
theorem d_L_law_644 : decode b_L_law 644 = .ok (.ireturn, 1) := by decide +kernel
