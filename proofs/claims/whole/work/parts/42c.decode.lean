theorem d_L_law_505 : decode code 505 = .ok (.land, 1) := by decide +kernel
theorem d_L_law_506 : decode code 506 = .ok (.lor, 1) := by decide +kernel
theorem d_L_law_507 : decode code 507 = .ok (.aload_n 0, 1) := by decide +kernel
theorem d_L_law_508 : decode code 508 = .ok (.iload 4, 2) := by decide +kernel
theorem d_L_law_510 : decode code 510 = .ok (.bipush 7, 2) := by decide +kernel
theorem d_L_law_512 : decode code 512 = .ok (.iadd, 1) := by decide +kernel
theorem d_L_law_513 : decode code 513 = .ok (.iaload, 1) := by decide +kernel
theorem d_L_law_514 : decode code 514 = .ok (.i2l, 1) := by decide +kernel
theorem d_L_law_515 : decode code 515 = .ok (.bipush 32, 2) := by decide +kernel
theorem d_L_law_517 : decode code 517 = .ok (.lshl, 1) := by decide +kernel
theorem d_L_law_518 : decode code 518 = .ok (.aload_n 0, 1) := by decide +kernel
theorem d_L_law_519 : decode code 519 = .ok (.iload 4, 2) := by decide +kernel
theorem d_L_law_521 : decode code 521 = .ok (.bipush 8, 2) := by decide +kernel
theorem d_L_law_523 : decode code 523 = .ok (.iadd, 1) := by decide +kernel
theorem d_L_law_524 : decode code 524 = .ok (.iaload, 1) := by decide +kernel
theorem d_L_law_525 : decode code 525 = .ok (.i2l, 1) := by decide +kernel
theorem d_L_law_526 : decode code 526 = .ok (.ldc2_w 79, 3) := by decide +kernel
theorem d_L_law_529 : decode code 529 = .ok (.land, 1) := by decide +kernel
theorem d_L_law_530 : decode code 530 = .ok (.lor, 1) := by decide +kernel
theorem d_L_law_531 : decode code 531 = .ok (.invokevirtual 96, 3) := by decide +kernel
theorem d_L_law_534 : decode code 534 = .ok (.istore 6, 2) := by decide +kernel
theorem d_L_law_536 : decode code 536 = .ok (.aload_n 2, 1) := by decide +kernel
theorem d_L_law_537 : decode code 537 = .ok (.invokevirtual 85, 3) := by decide +kernel
theorem d_L_law_540 : decode code 540 = .ok (.iload 5, 2) := by decide +kernel
theorem d_L_law_542 : decode code 542 = .ok (.if_icmp .eq 5, 3) := by decide +kernel
theorem d_L_law_545 : decode code 545 = .ok (.iconst 0, 1) := by decide +kernel
theorem d_L_law_546 : decode code 546 = .ok (.ireturn, 1) := by decide +kernel
theorem d_L_law_547 : decode code 547 = .ok (.iload 5, 2) := by decide +kernel
theorem d_L_law_549 : decode code 549 = .ok (.ifCond .ne 15, 3) := by decide +kernel
theorem d_L_law_552 : decode code 552 = .ok (.aload_n 3, 1) := by decide +kernel
theorem d_L_law_553 : decode code 553 = .ok (.iconst 0, 1) := by decide +kernel
theorem d_L_law_554 : decode code 554 = .ok (.laload, 1) := by decide +kernel
theorem d_L_law_555 : decode code 555 = .ok (.iload 6, 2) := by decide +kernel
theorem d_L_law_557 : decode code 557 = .ok (.i2l, 1) := by decide +kernel
theorem d_L_law_558 : decode code 558 = .ok (.lcmp, 1) := by decide +kernel
theorem d_L_law_559 : decode code 559 = .ok (.ifCond .eq 5, 3) := by decide +kernel
theorem d_L_law_562 : decode code 562 = .ok (.iconst 0, 1) := by decide +kernel
theorem d_L_law_563 : decode code 563 = .ok (.ireturn, 1) := by decide +kernel
theorem d_L_law_564 : decode code 564 = .ok (.goto 1035, 3) := by decide +kernel
theorem d_L_law_567 : decode code 567 = .ok (.aload_n 1, 1) := by decide +kernel
theorem d_L_law_568 : decode code 568 = .ok (.aload_n 0, 1) := by decide +kernel
theorem d_L_law_569 : decode code 569 = .ok (.iload 4, 2) := by decide +kernel
theorem d_L_law_571 : decode code 571 = .ok (.iconst 1, 1) := by decide +kernel
theorem d_L_law_572 : decode code 572 = .ok (.iadd, 1) := by decide +kernel
theorem d_L_law_573 : decode code 573 = .ok (.iaload, 1) := by decide +kernel
theorem d_L_law_574 : decode code 574 = .ok (.aload_n 0, 1) := by decide +kernel
theorem d_L_law_575 : decode code 575 = .ok (.iload 4, 2) := by decide +kernel
theorem d_L_law_577 : decode code 577 = .ok (.iconst 2, 1) := by decide +kernel
theorem d_L_law_578 : decode code 578 = .ok (.iadd, 1) := by decide +kernel
theorem d_L_law_579 : decode code 579 = .ok (.iaload, 1) := by decide +kernel
theorem d_L_law_580 : decode code 580 = .ok (.aload_n 3, 1) := by decide +kernel
theorem d_L_law_581 : decode code 581 = .ok (.invokestatic 97, 3) := by decide +kernel
theorem d_L_law_584 : decode code 584 = .ok (.istore 5, 2) := by decide +kernel
theorem d_L_law_586 : decode code 586 = .ok (.aload_n 2, 1) := by decide +kernel
theorem d_L_law_587 : decode code 587 = .ok (.aload_n 0, 1) := by decide +kernel
theorem d_L_law_588 : decode code 588 = .ok (.iload 4, 2) := by decide +kernel
theorem d_L_law_590 : decode code 590 = .ok (.iconst 1, 1) := by decide +kernel
theorem d_L_law_591 : decode code 591 = .ok (.iadd, 1) := by decide +kernel
theorem d_L_law_592 : decode code 592 = .ok (.iaload, 1) := by decide +kernel
theorem d_L_law_593 : decode code 593 = .ok (.aload_n 0, 1) := by decide +kernel
theorem d_L_law_594 : decode code 594 = .ok (.iload 4, 2) := by decide +kernel
theorem d_L_law_596 : decode code 596 = .ok (.iconst 2, 1) := by decide +kernel
theorem d_L_law_597 : decode code 597 = .ok (.iadd, 1) := by decide +kernel
theorem d_L_law_598 : decode code 598 = .ok (.iaload, 1) := by decide +kernel
theorem d_L_law_599 : decode code 599 = .ok (.invokevirtual 99, 3) := by decide +kernel
theorem d_L_law_602 : decode code 602 = .ok (.istore 6, 2) := by decide +kernel
theorem d_L_law_604 : decode code 604 = .ok (.aload_n 2, 1) := by decide +kernel
theorem d_L_law_605 : decode code 605 = .ok (.invokevirtual 85, 3) := by decide +kernel
theorem d_L_law_608 : decode code 608 = .ok (.iload 5, 2) := by decide +kernel
theorem d_L_law_610 : decode code 610 = .ok (.if_icmp .eq 5, 3) := by decide +kernel
theorem d_L_law_613 : decode code 613 = .ok (.iconst 0, 1) := by decide +kernel
theorem d_L_law_614 : decode code 614 = .ok (.ireturn, 1) := by decide +kernel
theorem d_L_law_615 : decode code 615 = .ok (.iload 5, 2) := by decide +kernel
theorem d_L_law_617 : decode code 617 = .ok (.ifCond .ne 22, 3) := by decide +kernel
theorem d_L_law_620 : decode code 620 = .ok (.aload_n 3, 1) := by decide +kernel
theorem d_L_law_621 : decode code 621 = .ok (.iconst 0, 1) := by decide +kernel
theorem d_L_law_622 : decode code 622 = .ok (.laload, 1) := by decide +kernel
theorem d_L_law_623 : decode code 623 = .ok (.iload 6, 2) := by decide +kernel
theorem d_L_law_625 : decode code 625 = .ok (.ifCond .eq 7, 3) := by decide +kernel
theorem d_L_law_628 : decode code 628 = .ok (.lconst 1, 1) := by decide +kernel
theorem d_L_law_629 : decode code 629 = .ok (.goto 4, 3) := by decide +kernel
theorem d_L_law_632 : decode code 632 = .ok (.lconst 0, 1) := by decide +kernel
theorem d_L_law_633 : decode code 633 = .ok (.lcmp, 1) := by decide +kernel
theorem d_L_law_634 : decode code 634 = .ok (.ifCond .eq 5, 3) := by decide +kernel
theorem d_L_law_637 : decode code 637 = .ok (.iconst 0, 1) := by decide +kernel
theorem d_L_law_638 : decode code 638 = .ok (.ireturn, 1) := by decide +kernel
theorem d_L_law_639 : decode code 639 = .ok (.goto 960, 3) := by decide +kernel
theorem d_L_law_642 : decode code 642 = .ok (.aload_n 1, 1) := by decide +kernel
theorem d_L_law_643 : decode code 643 = .ok (.aload_n 0, 1) := by decide +kernel
theorem d_L_law_644 : decode code 644 = .ok (.iload 4, 2) := by decide +kernel
theorem d_L_law_646 : decode code 646 = .ok (.iconst 1, 1) := by decide +kernel
theorem d_L_law_647 : decode code 647 = .ok (.iadd, 1) := by decide +kernel
theorem d_L_law_648 : decode code 648 = .ok (.iaload, 1) := by decide +kernel
theorem d_L_law_649 : decode code 649 = .ok (.aload_n 0, 1) := by decide +kernel
theorem d_L_law_650 : decode code 650 = .ok (.iload 4, 2) := by decide +kernel
theorem d_L_law_652 : decode code 652 = .ok (.iconst 2, 1) := by decide +kernel
theorem d_L_law_653 : decode code 653 = .ok (.iadd, 1) := by decide +kernel
theorem d_L_law_654 : decode code 654 = .ok (.iaload, 1) := by decide +kernel
theorem d_L_law_655 : decode code 655 = .ok (.aload_n 0, 1) := by decide +kernel
theorem d_L_law_656 : decode code 656 = .ok (.iload 4, 2) := by decide +kernel
theorem d_L_law_658 : decode code 658 = .ok (.iconst 3, 1) := by decide +kernel
theorem d_L_law_659 : decode code 659 = .ok (.iadd, 1) := by decide +kernel
theorem d_L_law_660 : decode code 660 = .ok (.iaload, 1) := by decide +kernel
theorem d_L_law_661 : decode code 661 = .ok (.i2l, 1) := by decide +kernel
theorem d_L_law_662 : decode code 662 = .ok (.bipush 32, 2) := by decide +kernel
theorem d_L_law_664 : decode code 664 = .ok (.lshl, 1) := by decide +kernel
theorem d_L_law_665 : decode code 665 = .ok (.aload_n 0, 1) := by decide +kernel
theorem d_L_law_666 : decode code 666 = .ok (.iload 4, 2) := by decide +kernel
theorem d_L_law_668 : decode code 668 = .ok (.iconst 4, 1) := by decide +kernel
theorem d_L_law_669 : decode code 669 = .ok (.iadd, 1) := by decide +kernel
theorem d_L_law_670 : decode code 670 = .ok (.iaload, 1) := by decide +kernel
theorem d_L_law_671 : decode code 671 = .ok (.i2l, 1) := by decide +kernel
theorem d_L_law_672 : decode code 672 = .ok (.ldc2_w 79, 3) := by decide +kernel
theorem d_L_law_675 : decode code 675 = .ok (.land, 1) := by decide +kernel
theorem d_L_law_676 : decode code 676 = .ok (.lor, 1) := by decide +kernel
theorem d_L_law_677 : decode code 677 = .ok (.aload_n 0, 1) := by decide +kernel
theorem d_L_law_678 : decode code 678 = .ok (.iload 4, 2) := by decide +kernel
theorem d_L_law_680 : decode code 680 = .ok (.iconst 5, 1) := by decide +kernel
theorem d_L_law_681 : decode code 681 = .ok (.iadd, 1) := by decide +kernel
theorem d_L_law_682 : decode code 682 = .ok (.iaload, 1) := by decide +kernel
theorem d_L_law_683 : decode code 683 = .ok (.i2l, 1) := by decide +kernel
theorem d_L_law_684 : decode code 684 = .ok (.bipush 32, 2) := by decide +kernel
theorem d_L_law_686 : decode code 686 = .ok (.lshl, 1) := by decide +kernel
theorem d_L_law_687 : decode code 687 = .ok (.aload_n 0, 1) := by decide +kernel
theorem d_L_law_688 : decode code 688 = .ok (.iload 4, 2) := by decide +kernel
theorem d_L_law_690 : decode code 690 = .ok (.bipush 6, 2) := by decide +kernel
theorem d_L_law_692 : decode code 692 = .ok (.iadd, 1) := by decide +kernel
theorem d_L_law_693 : decode code 693 = .ok (.iaload, 1) := by decide +kernel
theorem d_L_law_694 : decode code 694 = .ok (.i2l, 1) := by decide +kernel
theorem d_L_law_695 : decode code 695 = .ok (.ldc2_w 79, 3) := by decide +kernel
theorem d_L_law_698 : decode code 698 = .ok (.land, 1) := by decide +kernel
theorem d_L_law_699 : decode code 699 = .ok (.lor, 1) := by decide +kernel
theorem d_L_law_700 : decode code 700 = .ok (.aload_n 3, 1) := by decide +kernel
theorem d_L_law_701 : decode code 701 = .ok (.invokestatic 100, 3) := by decide +kernel
theorem d_L_law_704 : decode code 704 = .ok (.istore 5, 2) := by decide +kernel
theorem d_L_law_706 : decode code 706 = .ok (.aload_n 2, 1) := by decide +kernel
theorem d_L_law_707 : decode code 707 = .ok (.aload_n 0, 1) := by decide +kernel
theorem d_L_law_708 : decode code 708 = .ok (.iload 4, 2) := by decide +kernel
theorem d_L_law_710 : decode code 710 = .ok (.iconst 1, 1) := by decide +kernel
theorem d_L_law_711 : decode code 711 = .ok (.iadd, 1) := by decide +kernel
theorem d_L_law_712 : decode code 712 = .ok (.iaload, 1) := by decide +kernel
theorem d_L_law_713 : decode code 713 = .ok (.aload_n 0, 1) := by decide +kernel
theorem d_L_law_714 : decode code 714 = .ok (.iload 4, 2) := by decide +kernel
theorem d_L_law_716 : decode code 716 = .ok (.iconst 2, 1) := by decide +kernel
theorem d_L_law_717 : decode code 717 = .ok (.iadd, 1) := by decide +kernel
theorem d_L_law_718 : decode code 718 = .ok (.iaload, 1) := by decide +kernel
theorem d_L_law_719 : decode code 719 = .ok (.aload_n 0, 1) := by decide +kernel
theorem d_L_law_720 : decode code 720 = .ok (.iload 4, 2) := by decide +kernel
theorem d_L_law_722 : decode code 722 = .ok (.iconst 3, 1) := by decide +kernel
theorem d_L_law_723 : decode code 723 = .ok (.iadd, 1) := by decide +kernel
