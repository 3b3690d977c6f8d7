theorem d_L_law_520 : decode code 520 = .ok (.if_icmp .eq 5, 3) := by decide +kernel
theorem d_L_law_523 : decode code 523 = .ok (.iconst 0, 1) := by decide +kernel
theorem d_L_law_524 : decode code 524 = .ok (.ireturn, 1) := by decide +kernel
theorem d_L_law_525 : decode code 525 = .ok (.iload 5, 2) := by decide +kernel
theorem d_L_law_527 : decode code 527 = .ok (.ifCond .ne 15, 3) := by decide +kernel
theorem d_L_law_530 : decode code 530 = .ok (.aload_n 3, 1) := by decide +kernel
theorem d_L_law_531 : decode code 531 = .ok (.iconst 0, 1) := by decide +kernel
theorem d_L_law_532 : decode code 532 = .ok (.laload, 1) := by decide +kernel
theorem d_L_law_533 : decode code 533 = .ok (.iload 6, 2) := by decide +kernel
theorem d_L_law_535 : decode code 535 = .ok (.i2l, 1) := by decide +kernel
theorem d_L_law_536 : decode code 536 = .ok (.lcmp, 1) := by decide +kernel
theorem d_L_law_537 : decode code 537 = .ok (.ifCond .eq 5, 3) := by decide +kernel
theorem d_L_law_540 : decode code 540 = .ok (.iconst 0, 1) := by decide +kernel
theorem d_L_law_541 : decode code 541 = .ok (.ireturn, 1) := by decide +kernel
theorem d_L_law_542 : decode code 542 = .ok (.goto 438, 3) := by decide +kernel
theorem d_L_law_545 : decode code 545 = .ok (.aload_n 1, 1) := by decide +kernel
theorem d_L_law_546 : decode code 546 = .ok (.aload_n 0, 1) := by decide +kernel
theorem d_L_law_547 : decode code 547 = .ok (.iload 4, 2) := by decide +kernel
theorem d_L_law_549 : decode code 549 = .ok (.iconst 1, 1) := by decide +kernel
theorem d_L_law_550 : decode code 550 = .ok (.iadd, 1) := by decide +kernel
theorem d_L_law_551 : decode code 551 = .ok (.iaload, 1) := by decide +kernel
theorem d_L_law_552 : decode code 552 = .ok (.aload_n 3, 1) := by decide +kernel
theorem d_L_law_553 : decode code 553 = .ok (.invokestatic 95, 3) := by decide +kernel
theorem d_L_law_556 : decode code 556 = .ok (.istore 5, 2) := by decide +kernel
theorem d_L_law_558 : decode code 558 = .ok (.aload_n 2, 1) := by decide +kernel
theorem d_L_law_559 : decode code 559 = .ok (.aload_n 0, 1) := by decide +kernel
theorem d_L_law_560 : decode code 560 = .ok (.iload 4, 2) := by decide +kernel
theorem d_L_law_562 : decode code 562 = .ok (.iconst 1, 1) := by decide +kernel
theorem d_L_law_563 : decode code 563 = .ok (.iadd, 1) := by decide +kernel
theorem d_L_law_564 : decode code 564 = .ok (.iaload, 1) := by decide +kernel
theorem d_L_law_565 : decode code 565 = .ok (.invokevirtual 97, 3) := by decide +kernel
theorem d_L_law_568 : decode code 568 = .ok (.istore 6, 2) := by decide +kernel
theorem d_L_law_570 : decode code 570 = .ok (.aload_n 2, 1) := by decide +kernel
theorem d_L_law_571 : decode code 571 = .ok (.invokevirtual 68, 3) := by decide +kernel
theorem d_L_law_574 : decode code 574 = .ok (.iload 5, 2) := by decide +kernel
theorem d_L_law_576 : decode code 576 = .ok (.if_icmp .eq 5, 3) := by decide +kernel
theorem d_L_law_579 : decode code 579 = .ok (.iconst 0, 1) := by decide +kernel
theorem d_L_law_580 : decode code 580 = .ok (.ireturn, 1) := by decide +kernel
theorem d_L_law_581 : decode code 581 = .ok (.iload 5, 2) := by decide +kernel
theorem d_L_law_583 : decode code 583 = .ok (.ifCond .ne 15, 3) := by decide +kernel
theorem d_L_law_586 : decode code 586 = .ok (.aload_n 3, 1) := by decide +kernel
theorem d_L_law_587 : decode code 587 = .ok (.iconst 0, 1) := by decide +kernel
theorem d_L_law_588 : decode code 588 = .ok (.laload, 1) := by decide +kernel
theorem d_L_law_589 : decode code 589 = .ok (.iload 6, 2) := by decide +kernel
theorem d_L_law_591 : decode code 591 = .ok (.i2l, 1) := by decide +kernel
theorem d_L_law_592 : decode code 592 = .ok (.lcmp, 1) := by decide +kernel
theorem d_L_law_593 : decode code 593 = .ok (.ifCond .eq 5, 3) := by decide +kernel
theorem d_L_law_596 : decode code 596 = .ok (.iconst 0, 1) := by decide +kernel
theorem d_L_law_597 : decode code 597 = .ok (.ireturn, 1) := by decide +kernel
theorem d_L_law_598 : decode code 598 = .ok (.goto 382, 3) := by decide +kernel
theorem d_L_law_601 : decode code 601 = .ok (.aload_n 1, 1) := by decide +kernel
theorem d_L_law_602 : decode code 602 = .ok (.aload_n 0, 1) := by decide +kernel
theorem d_L_law_603 : decode code 603 = .ok (.iload 4, 2) := by decide +kernel
theorem d_L_law_605 : decode code 605 = .ok (.iconst 1, 1) := by decide +kernel
theorem d_L_law_606 : decode code 606 = .ok (.iadd, 1) := by decide +kernel
theorem d_L_law_607 : decode code 607 = .ok (.iaload, 1) := by decide +kernel
theorem d_L_law_608 : decode code 608 = .ok (.aload_n 0, 1) := by decide +kernel
theorem d_L_law_609 : decode code 609 = .ok (.iload 4, 2) := by decide +kernel
theorem d_L_law_611 : decode code 611 = .ok (.iconst 2, 1) := by decide +kernel
theorem d_L_law_612 : decode code 612 = .ok (.iadd, 1) := by decide +kernel
theorem d_L_law_613 : decode code 613 = .ok (.iaload, 1) := by decide +kernel
theorem d_L_law_614 : decode code 614 = .ok (.ifCond .eq 7, 3) := by decide +kernel
theorem d_L_law_617 : decode code 617 = .ok (.iconst 1, 1) := by decide +kernel
theorem d_L_law_618 : decode code 618 = .ok (.goto 4, 3) := by decide +kernel
theorem d_L_law_621 : decode code 621 = .ok (.iconst 0, 1) := by decide +kernel
theorem d_L_law_622 : decode code 622 = .ok (.aload_n 3, 1) := by decide +kernel
theorem d_L_law_623 : decode code 623 = .ok (.invokestatic 98, 3) := by decide +kernel
theorem d_L_law_626 : decode code 626 = .ok (.istore 5, 2) := by decide +kernel
theorem d_L_law_628 : decode code 628 = .ok (.aload_n 2, 1) := by decide +kernel
theorem d_L_law_629 : decode code 629 = .ok (.aload_n 0, 1) := by decide +kernel
theorem d_L_law_630 : decode code 630 = .ok (.iload 4, 2) := by decide +kernel
theorem d_L_law_632 : decode code 632 = .ok (.iconst 1, 1) := by decide +kernel
theorem d_L_law_633 : decode code 633 = .ok (.iadd, 1) := by decide +kernel
theorem d_L_law_634 : decode code 634 = .ok (.iaload, 1) := by decide +kernel
theorem d_L_law_635 : decode code 635 = .ok (.aload_n 0, 1) := by decide +kernel
theorem d_L_law_636 : decode code 636 = .ok (.iload 4, 2) := by decide +kernel
theorem d_L_law_638 : decode code 638 = .ok (.iconst 2, 1) := by decide +kernel
theorem d_L_law_639 : decode code 639 = .ok (.iadd, 1) := by decide +kernel
theorem d_L_law_640 : decode code 640 = .ok (.iaload, 1) := by decide +kernel
theorem d_L_law_641 : decode code 641 = .ok (.ifCond .eq 7, 3) := by decide +kernel
theorem d_L_law_644 : decode code 644 = .ok (.iconst 1, 1) := by decide +kernel
theorem d_L_law_645 : decode code 645 = .ok (.goto 4, 3) := by decide +kernel
theorem d_L_law_648 : decode code 648 = .ok (.iconst 0, 1) := by decide +kernel
theorem d_L_law_649 : decode code 649 = .ok (.invokevirtual 101, 3) := by decide +kernel
theorem d_L_law_652 : decode code 652 = .ok (.lstore 6, 2) := by decide +kernel
theorem d_L_law_654 : decode code 654 = .ok (.aload_n 2, 1) := by decide +kernel
theorem d_L_law_655 : decode code 655 = .ok (.invokevirtual 68, 3) := by decide +kernel
theorem d_L_law_658 : decode code 658 = .ok (.iload 5, 2) := by decide +kernel
theorem d_L_law_660 : decode code 660 = .ok (.if_icmp .eq 5, 3) := by decide +kernel
theorem d_L_law_663 : decode code 663 = .ok (.iconst 0, 1) := by decide +kernel
theorem d_L_law_664 : decode code 664 = .ok (.ireturn, 1) := by decide +kernel
theorem d_L_law_665 : decode code 665 = .ok (.iload 5, 2) := by decide +kernel
theorem d_L_law_667 : decode code 667 = .ok (.ifCond .ne 14, 3) := by decide +kernel
theorem d_L_law_670 : decode code 670 = .ok (.aload_n 3, 1) := by decide +kernel
theorem d_L_law_671 : decode code 671 = .ok (.iconst 0, 1) := by decide +kernel
theorem d_L_law_672 : decode code 672 = .ok (.laload, 1) := by decide +kernel
theorem d_L_law_673 : decode code 673 = .ok (.lload 6, 2) := by decide +kernel
theorem d_L_law_675 : decode code 675 = .ok (.lcmp, 1) := by decide +kernel
theorem d_L_law_676 : decode code 676 = .ok (.ifCond .eq 5, 3) := by decide +kernel
theorem d_L_law_679 : decode code 679 = .ok (.iconst 0, 1) := by decide +kernel
theorem d_L_law_680 : decode code 680 = .ok (.ireturn, 1) := by decide +kernel
theorem d_L_law_681 : decode code 681 = .ok (.goto 299, 3) := by decide +kernel
theorem d_L_law_684 : decode code 684 = .ok (.aload_n 1, 1) := by decide +kernel
theorem d_L_law_685 : decode code 685 = .ok (.aload_n 0, 1) := by decide +kernel
theorem d_L_law_686 : decode code 686 = .ok (.iload 4, 2) := by decide +kernel
theorem d_L_law_688 : decode code 688 = .ok (.iconst 1, 1) := by decide +kernel
theorem d_L_law_689 : decode code 689 = .ok (.iadd, 1) := by decide +kernel
theorem d_L_law_690 : decode code 690 = .ok (.iaload, 1) := by decide +kernel
theorem d_L_law_691 : decode code 691 = .ok (.aload_n 3, 1) := by decide +kernel
theorem d_L_law_692 : decode code 692 = .ok (.invokestatic 102, 3) := by decide +kernel
theorem d_L_law_695 : decode code 695 = .ok (.istore 5, 2) := by decide +kernel
theorem d_L_law_697 : decode code 697 = .ok (.aload_n 2, 1) := by decide +kernel
theorem d_L_law_698 : decode code 698 = .ok (.aload_n 0, 1) := by decide +kernel
theorem d_L_law_699 : decode code 699 = .ok (.iload 4, 2) := by decide +kernel
theorem d_L_law_701 : decode code 701 = .ok (.iconst 1, 1) := by decide +kernel
theorem d_L_law_702 : decode code 702 = .ok (.iadd, 1) := by decide +kernel
theorem d_L_law_703 : decode code 703 = .ok (.iaload, 1) := by decide +kernel
theorem d_L_law_704 : decode code 704 = .ok (.invokevirtual 104, 3) := by decide +kernel
theorem d_L_law_707 : decode code 707 = .ok (.istore 6, 2) := by decide +kernel
theorem d_L_law_709 : decode code 709 = .ok (.aload_n 2, 1) := by decide +kernel
theorem d_L_law_710 : decode code 710 = .ok (.invokevirtual 68, 3) := by decide +kernel
theorem d_L_law_713 : decode code 713 = .ok (.iload 5, 2) := by decide +kernel
theorem d_L_law_715 : decode code 715 = .ok (.if_icmp .eq 5, 3) := by decide +kernel
theorem d_L_law_718 : decode code 718 = .ok (.iconst 0, 1) := by decide +kernel
theorem d_L_law_719 : decode code 719 = .ok (.ireturn, 1) := by decide +kernel
theorem d_L_law_720 : decode code 720 = .ok (.iload 5, 2) := by decide +kernel
theorem d_L_law_722 : decode code 722 = .ok (.ifCond .ne 15, 3) := by decide +kernel
theorem d_L_law_725 : decode code 725 = .ok (.aload_n 3, 1) := by decide +kernel
theorem d_L_law_726 : decode code 726 = .ok (.iconst 0, 1) := by decide +kernel
theorem d_L_law_727 : decode code 727 = .ok (.laload, 1) := by decide +kernel
theorem d_L_law_728 : decode code 728 = .ok (.iload 6, 2) := by decide +kernel
theorem d_L_law_730 : decode code 730 = .ok (.i2l, 1) := by decide +kernel
theorem d_L_law_731 : decode code 731 = .ok (.lcmp, 1) := by decide +kernel
theorem d_L_law_732 : decode code 732 = .ok (.ifCond .eq 5, 3) := by decide +kernel
theorem d_L_law_735 : decode code 735 = .ok (.iconst 0, 1) := by decide +kernel
theorem d_L_law_736 : decode code 736 = .ok (.ireturn, 1) := by decide +kernel
theorem d_L_law_737 : decode code 737 = .ok (.goto 243, 3) := by decide +kernel
theorem d_L_law_740 : decode code 740 = .ok (.aload_n 1, 1) := by decide +kernel
theorem d_L_law_741 : decode code 741 = .ok (.aload_n 0, 1) := by decide +kernel
theorem d_L_law_742 : decode code 742 = .ok (.iload 4, 2) := by decide +kernel
theorem d_L_law_744 : decode code 744 = .ok (.iconst 1, 1) := by decide +kernel
theorem d_L_law_745 : decode code 745 = .ok (.iadd, 1) := by decide +kernel
theorem d_L_law_746 : decode code 746 = .ok (.iaload, 1) := by decide +kernel
theorem d_L_law_747 : decode code 747 = .ok (.aload_n 0, 1) := by decide +kernel
theorem d_L_law_748 : decode code 748 = .ok (.iload 4, 2) := by decide +kernel
theorem d_L_law_750 : decode code 750 = .ok (.iconst 2, 1) := by decide +kernel
theorem d_L_law_751 : decode code 751 = .ok (.iadd, 1) := by decide +kernel
theorem d_L_law_752 : decode code 752 = .ok (.iaload, 1) := by decide +kernel
theorem d_L_law_753 : decode code 753 = .ok (.aload_n 3, 1) := by decide +kernel
theorem d_L_law_754 : decode code 754 = .ok (.invokestatic 105, 3) := by decide +kernel
theorem d_L_law_757 : decode code 757 = .ok (.istore 5, 2) := by decide +kernel
theorem d_L_law_759 : decode code 759 = .ok (.aload_n 2, 1) := by decide +kernel
theorem d_L_law_760 : decode code 760 = .ok (.aload_n 0, 1) := by decide +kernel
theorem d_L_law_761 : decode code 761 = .ok (.iload 4, 2) := by decide +kernel
theorem d_L_law_763 : decode code 763 = .ok (.iconst 1, 1) := by decide +kernel
theorem d_L_law_764 : decode code 764 = .ok (.iadd, 1) := by decide +kernel
theorem d_L_law_765 : decode code 765 = .ok (.iaload, 1) := by decide +kernel
theorem d_L_law_766 : decode code 766 = .ok (.aload_n 0, 1) := by decide +kernel
theorem d_L_law_767 : decode code 767 = .ok (.iload 4, 2) := by decide +kernel
theorem d_L_law_769 : decode code 769 = .ok (.iconst 2, 1) := by decide +kernel
theorem d_L_law_770 : decode code 770 = .ok (.iadd, 1) := by decide +kernel
theorem d_L_law_771 : decode code 771 = .ok (.iaload, 1) := by decide +kernel
theorem d_L_law_772 : decode code 772 = .ok (.invokevirtual 107, 3) := by decide +kernel
theorem d_L_law_775 : decode code 775 = .ok (.lstore 6, 2) := by decide +kernel
theorem d_L_law_777 : decode code 777 = .ok (.aload_n 2, 1) := by decide +kernel
theorem d_L_law_778 : decode code 778 = .ok (.invokevirtual 68, 3) := by decide +kernel
