theorem dL_law_511 : decode cL_law 511 = .ok (.ifCond .eq 130, 3) := by decide +kernel
theorem dL_law_514 : decode cL_law 514 = .ok (.aload_n 1, 1) := by decide +kernel
theorem dL_law_515 : decode cL_law 515 = .ok (.iload 12, 2) := by decide +kernel
theorem dL_law_517 : decode cL_law 517 = .ok (.invokevirtual 88, 3) := by decide +kernel
theorem dL_law_520 : decode cL_law 520 = .ok (.aload_n 1, 1) := by decide +kernel
theorem dL_law_521 : decode cL_law 521 = .ok (.iload 13, 2) := by decide +kernel
theorem dL_law_523 : decode cL_law 523 = .ok (.invokevirtual 88, 3) := by decide +kernel
theorem dL_law_526 : decode cL_law 526 = .ok (.iconst 1, 1) := by decide +kernel
theorem dL_law_527 : decode cL_law 527 = .ok (.iadd, 1) := by decide +kernel
theorem dL_law_528 : decode cL_law 528 = .ok (.if_icmp .ne 113, 3) := by decide +kernel
theorem dL_law_531 : decode cL_law 531 = .ok (.aload 10, 2) := by decide +kernel
theorem dL_law_533 : decode cL_law 533 = .ok (.iload 12, 2) := by decide +kernel
theorem dL_law_535 : decode cL_law 535 = .ok (.iconst 1, 1) := by decide +kernel
theorem dL_law_536 : decode cL_law 536 = .ok (.bastore, 1) := by decide +kernel
theorem dL_law_537 : decode cL_law 537 = .ok (.goto 104, 3) := by decide +kernel
theorem dL_law_540 : decode cL_law 540 = .ok (.aload 9, 2) := by decide +kernel
theorem dL_law_542 : decode cL_law 542 = .ok (.iload 12, 2) := by decide +kernel
theorem dL_law_544 : decode cL_law 544 = .ok (.baload, 1) := by decide +kernel
theorem dL_law_545 : decode cL_law 545 = .ok (.ifCond .eq 34, 3) := by decide +kernel
theorem dL_law_548 : decode cL_law 548 = .ok (.lload 19, 2) := by decide +kernel
theorem dL_law_550 : decode cL_law 550 = .ok (.aload_n 1, 1) := by decide +kernel
theorem dL_law_551 : decode cL_law 551 = .ok (.iload 12, 2) := by decide +kernel
theorem dL_law_553 : decode cL_law 553 = .ok (.iconst 0, 1) := by decide +kernel
theorem dL_law_554 : decode cL_law 554 = .ok (.invokevirtual 91, 3) := by decide +kernel
theorem dL_law_557 : decode cL_law 557 = .ok (.i2l, 1) := by decide +kernel
theorem dL_law_558 : decode cL_law 558 = .ok (.lmul, 1) := by decide +kernel
theorem dL_law_559 : decode cL_law 559 = .ok (.lload 15, 2) := by decide +kernel
theorem dL_law_561 : decode cL_law 561 = .ok (.lmul, 1) := by decide +kernel
theorem dL_law_562 : decode cL_law 562 = .ok (.aload_n 1, 1) := by decide +kernel
theorem dL_law_563 : decode cL_law 563 = .ok (.iload 12, 2) := by decide +kernel
theorem dL_law_565 : decode cL_law 565 = .ok (.iconst 1, 1) := by decide +kernel
theorem dL_law_566 : decode cL_law 566 = .ok (.invokevirtual 91, 3) := by decide +kernel
theorem dL_law_569 : decode cL_law 569 = .ok (.i2l, 1) := by decide +kernel
theorem dL_law_570 : decode cL_law 570 = .ok (.lload 17, 2) := by decide +kernel
theorem dL_law_572 : decode cL_law 572 = .ok (.lmul, 1) := by decide +kernel
theorem dL_law_573 : decode cL_law 573 = .ok (.invokestatic 52, 3) := by decide +kernel
theorem dL_law_576 : decode cL_law 576 = .ok (.goto 31, 3) := by decide +kernel
theorem dL_law_579 : decode cL_law 579 = .ok (.lload 19, 2) := by decide +kernel
theorem dL_law_581 : decode cL_law 581 = .ok (.aload_n 1, 1) := by decide +kernel
theorem dL_law_582 : decode cL_law 582 = .ok (.iload 13, 2) := by decide +kernel
theorem dL_law_584 : decode cL_law 584 = .ok (.iconst 0, 1) := by decide +kernel
theorem dL_law_585 : decode cL_law 585 = .ok (.invokevirtual 91, 3) := by decide +kernel
theorem dL_law_588 : decode cL_law 588 = .ok (.i2l, 1) := by decide +kernel
theorem dL_law_589 : decode cL_law 589 = .ok (.lmul, 1) := by decide +kernel
theorem dL_law_590 : decode cL_law 590 = .ok (.lload 17, 2) := by decide +kernel
theorem dL_law_592 : decode cL_law 592 = .ok (.lmul, 1) := by decide +kernel
theorem dL_law_593 : decode cL_law 593 = .ok (.aload_n 1, 1) := by decide +kernel
theorem dL_law_594 : decode cL_law 594 = .ok (.iload 13, 2) := by decide +kernel
theorem dL_law_596 : decode cL_law 596 = .ok (.iconst 1, 1) := by decide +kernel
theorem dL_law_597 : decode cL_law 597 = .ok (.invokevirtual 91, 3) := by decide +kernel
theorem dL_law_600 : decode cL_law 600 = .ok (.i2l, 1) := by decide +kernel
theorem dL_law_601 : decode cL_law 601 = .ok (.lload 15, 2) := by decide +kernel
theorem dL_law_603 : decode cL_law 603 = .ok (.lmul, 1) := by decide +kernel
theorem dL_law_604 : decode cL_law 604 = .ok (.invokestatic 52, 3) := by decide +kernel
theorem dL_law_607 : decode cL_law 607 = .ok (.astore 21, 2) := by decide +kernel
theorem dL_law_609 : decode cL_law 609 = .ok (.iload 14, 2) := by decide +kernel
theorem dL_law_611 : decode cL_law 611 = .ok (.ifCond .ne 28, 3) := by decide +kernel
theorem dL_law_614 : decode cL_law 614 = .ok (.aload 21, 2) := by decide +kernel
theorem dL_law_616 : decode cL_law 616 = .ok (.iconst 0, 1) := by decide +kernel
theorem dL_law_617 : decode cL_law 617 = .ok (.laload, 1) := by decide +kernel
theorem dL_law_618 : decode cL_law 618 = .ok (.invokestatic 99, 3) := by decide +kernel
theorem dL_law_621 : decode cL_law 621 = .ok (.ldc2_w 71, 3) := by decide +kernel
theorem dL_law_624 : decode cL_law 624 = .ok (.lcmp, 1) := by decide +kernel
theorem dL_law_625 : decode cL_law 625 = .ok (.ifCond .gt 16, 3) := by decide +kernel
theorem dL_law_628 : decode cL_law 628 = .ok (.aload 21, 2) := by decide +kernel
theorem dL_law_630 : decode cL_law 630 = .ok (.iconst 1, 1) := by decide +kernel
theorem dL_law_631 : decode cL_law 631 = .ok (.laload, 1) := by decide +kernel
theorem dL_law_632 : decode cL_law 632 = .ok (.ldc2_w 71, 3) := by decide +kernel
theorem dL_law_635 : decode cL_law 635 = .ok (.lcmp, 1) := by decide +kernel
theorem dL_law_636 : decode cL_law 636 = .ok (.ifCond .gt 5, 3) := by decide +kernel
theorem dL_law_639 : decode cL_law 639 = .ok (.iconst 0, 1) := by decide +kernel
theorem dL_law_640 : decode cL_law 640 = .ok (.ireturn, 1) := by decide +kernel
theorem dL_law_641 : decode cL_law 641 = .ok (.iinc 11 1, 3) := by decide +kernel
theorem dL_law_644 : decode cL_law 644 = .ok (.goto (-374), 3) := by decide +kernel
theorem dL_law_647 : decode cL_law 647 = .ok (.iconst 0, 1) := by decide +kernel
theorem dL_law_648 : decode cL_law 648 = .ok (.istore 11, 2) := by decide +kernel
theorem dL_law_650 : decode cL_law 650 = .ok (.iload 11, 2) := by decide +kernel
theorem dL_law_652 : decode cL_law 652 = .ok (.aload 6, 2) := by decide +kernel
theorem dL_law_654 : decode cL_law 654 = .ok (.iconst 3, 1) := by decide +kernel
theorem dL_law_655 : decode cL_law 655 = .ok (.iaload, 1) := by decide +kernel
theorem dL_law_656 : decode cL_law 656 = .ok (.if_icmp .ge 136, 3) := by decide +kernel
theorem dL_law_659 : decode cL_law 659 = .ok (.iconst 0, 1) := by decide +kernel
theorem dL_law_660 : decode cL_law 660 = .ok (.istore 12, 2) := by decide +kernel
theorem dL_law_662 : decode cL_law 662 = .ok (.iconst 0, 1) := by decide +kernel
theorem dL_law_663 : decode cL_law 663 = .ok (.istore 13, 2) := by decide +kernel
theorem dL_law_665 : decode cL_law 665 = .ok (.iconst 0, 1) := by decide +kernel
theorem dL_law_666 : decode cL_law 666 = .ok (.istore 14, 2) := by decide +kernel
theorem dL_law_668 : decode cL_law 668 = .ok (.iload 14, 2) := by decide +kernel
theorem dL_law_670 : decode cL_law 670 = .ok (.iconst 3, 1) := by decide +kernel
theorem dL_law_671 : decode cL_law 671 = .ok (.if_icmp .ge 66, 3) := by decide +kernel
theorem dL_law_674 : decode cL_law 674 = .ok (.aload 5, 2) := by decide +kernel
theorem dL_law_676 : decode cL_law 676 = .ok (.iconst 5, 1) := by decide +kernel
theorem dL_law_677 : decode cL_law 677 = .ok (.iload 11, 2) := by decide +kernel
theorem dL_law_679 : decode cL_law 679 = .ok (.imul, 1) := by decide +kernel
theorem dL_law_680 : decode cL_law 680 = .ok (.iload 14, 2) := by decide +kernel
theorem dL_law_682 : decode cL_law 682 = .ok (.iadd, 1) := by decide +kernel
theorem dL_law_683 : decode cL_law 683 = .ok (.iaload, 1) := by decide +kernel
theorem dL_law_684 : decode cL_law 684 = .ok (.istore 15, 2) := by decide +kernel
theorem dL_law_686 : decode cL_law 686 = .ok (.iload 12, 2) := by decide +kernel
theorem dL_law_688 : decode cL_law 688 = .ok (.aload 9, 2) := by decide +kernel
