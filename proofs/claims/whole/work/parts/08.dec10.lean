theorem d_L_law_524 : decode b_L_law 524 = .ok (.iadd, 1) := by decide +kernel
theorem d_L_law_525 : decode b_L_law 525 = .ok (.iaload, 1) := by decide +kernel
theorem d_L_law_526 : decode b_L_law 526 = .ok (.aload_n 0, 1) := by decide +kernel
theorem d_L_law_527 : decode b_L_law 527 = .ok (.iload 4, 2) := by decide +kernel
theorem d_L_law_529 : decode b_L_law 529 = .ok (.iconst 2, 1) := by decide +kernel
theorem d_L_law_530 : decode b_L_law 530 = .ok (.iadd, 1) := by decide +kernel
theorem d_L_law_531 : decode b_L_law 531 = .ok (.iaload, 1) := by decide +kernel
theorem d_L_law_532 : decode b_L_law 532 = .ok (.invokevirtual 91, 3) := by decide +kernel
theorem d_L_law_535 : decode b_L_law 535 = .ok (.istore 6, 2) := by decide +kernel
theorem d_L_law_537 : decode b_L_law 537 = .ok (.aload_n 2, 1) := by decide +kernel
theorem d_L_law_538 : decode b_L_law 538 = .ok (.invokevirtual 69, 3) := by decide +kernel
theorem d_L_law_541 : decode b_L_law 541 = .ok (.iload 5, 2) := by decide +kernel
theorem d_L_law_543 : decode b_L_law 543 = .ok (.if_icmp .eq 5, 3) := by decide +kernel
theorem d_L_law_546 : decode b_L_law 546 = .ok (.iconst 0, 1) := by decide +kernel
theorem d_L_law_547 : decode b_L_law 547 = .ok (.ireturn, 1) := by decide +kernel
theorem d_L_law_548 : decode b_L_law 548 = .ok (.iload 5, 2) := by decide +kernel
theorem d_L_law_550 : decode b_L_law 550 = .ok (.ifCond .ne 15, 3) := by decide +kernel
theorem d_L_law_553 : decode b_L_law 553 = .ok (.aload_n 3, 1) := by decide +kernel
theorem d_L_law_554 : decode b_L_law 554 = .ok (.iconst 0, 1) := by decide +kernel
theorem d_L_law_555 : decode b_L_law 555 = .ok (.laload, 1) := by decide +kernel
theorem d_L_law_556 : decode b_L_law 556 = .ok (.iload 6, 2) := by decide +kernel
theorem d_L_law_558 : decode b_L_law 558 = .ok (.i2l, 1) := by decide +kernel
theorem d_L_law_559 : decode b_L_law 559 = .ok (.lcmp, 1) := by decide +kernel
theorem d_L_law_560 : decode b_L_law 560 = .ok (.ifCond .eq 5, 3) := by decide +kernel
theorem d_L_law_563 : decode b_L_law 563 = .ok (.iconst 0, 1) := by decide +kernel
theorem d_L_law_564 : decode b_L_law 564 = .ok (.ireturn, 1) := by decide +kernel
theorem d_L_law_565 : decode b_L_law 565 = .ok (.goto 434, 3) := by decide +kernel
theorem d_L_law_568 : decode b_L_law 568 = .ok (.aload_n 1, 1) := by decide +kernel
theorem d_L_law_569 : decode b_L_law 569 = .ok (.aload_n 0, 1) := by decide +kernel
theorem d_L_law_570 : decode b_L_law 570 = .ok (.iload 4, 2) := by decide +kernel
theorem d_L_law_572 : decode b_L_law 572 = .ok (.iconst 1, 1) := by decide +kernel
theorem d_L_law_573 : decode b_L_law 573 = .ok (.iadd, 1) := by decide +kernel
theorem d_L_law_574 : decode b_L_law 574 = .ok (.iaload, 1) := by decide +kernel
theorem d_L_law_575 : decode b_L_law 575 = .ok (.aload_n 0, 1) := by decide +kernel
theorem d_L_law_576 : decode b_L_law 576 = .ok (.iload 4, 2) := by decide +kernel
theorem d_L_law_578 : decode b_L_law 578 = .ok (.iconst 2, 1) := by decide +kernel
theorem d_L_law_579 : decode b_L_law 579 = .ok (.iadd, 1) := by decide +kernel
theorem d_L_law_580 : decode b_L_law 580 = .ok (.iaload, 1) := by decide +kernel
theorem d_L_law_581 : decode b_L_law 581 = .ok (.aload_n 3, 1) := by decide +kernel
theorem d_L_law_582 : decode b_L_law 582 = .ok (.invokestatic 92, 3) := by decide +kernel
theorem d_L_law_585 : decode b_L_law 585 = .ok (.istore 5, 2) := by decide +kernel
theorem d_L_law_587 : decode b_L_law 587 = .ok (.aload_n 2, 1) := by decide +kernel
theorem d_L_law_588 : decode b_L_law 588 = .ok (.aload_n 0, 1) := by decide +kernel
theorem d_L_law_589 : decode b_L_law 589 = .ok (.iload 4, 2) := by decide +kernel
theorem d_L_law_591 : decode b_L_law 591 = .ok (.iconst 1, 1) := by decide +kernel
theorem d_L_law_592 : decode b_L_law 592 = .ok (.iadd, 1) := by decide +kernel
theorem d_L_law_593 : decode b_L_law 593 = .ok (.iaload, 1) := by decide +kernel
theorem d_L_law_594 : decode b_L_law 594 = .ok (.aload_n 0, 1) := by decide +kernel
theorem d_L_law_595 : decode b_L_law 595 = .ok (.iload 4, 2) := by decide +kernel
theorem d_L_law_597 : decode b_L_law 597 = .ok (.iconst 2, 1) := by decide +kernel
theorem d_L_law_598 : decode b_L_law 598 = .ok (.iadd, 1) := by decide +kernel
theorem d_L_law_599 : decode b_L_law 599 = .ok (.iaload, 1) := by decide +kernel
theorem d_L_law_600 : decode b_L_law 600 = .ok (.invokevirtual 94, 3) := by decide +kernel
theorem d_L_law_603 : decode b_L_law 603 = .ok (.istore 6, 2) := by decide +kernel
theorem d_L_law_605 : decode b_L_law 605 = .ok (.aload_n 2, 1) := by decide +kernel
theorem d_L_law_606 : decode b_L_law 606 = .ok (.invokevirtual 69, 3) := by decide +kernel
theorem d_L_law_609 : decode b_L_law 609 = .ok (.iload 5, 2) := by decide +kernel
theorem d_L_law_611 : decode b_L_law 611 = .ok (.if_icmp .eq 5, 3) := by decide +kernel
theorem d_L_law_614 : decode b_L_law 614 = .ok (.iconst 0, 1) := by decide +kernel
theorem d_L_law_615 : decode b_L_law 615 = .ok (.ireturn, 1) := by decide +kernel
theorem d_L_law_616 : decode b_L_law 616 = .ok (.iload 5, 2) := by decide +kernel
theorem d_L_law_618 : decode b_L_law 618 = .ok (.ifCond .ne 15, 3) := by decide +kernel
theorem d_L_law_621 : decode b_L_law 621 = .ok (.aload_n 3, 1) := by decide +kernel
theorem d_L_law_622 : decode b_L_law 622 = .ok (.iconst 0, 1) := by decide +kernel
theorem d_L_law_623 : decode b_L_law 623 = .ok (.laload, 1) := by decide +kernel
theorem d_L_law_624 : decode b_L_law 624 = .ok (.iload 6, 2) := by decide +kernel
theorem d_L_law_626 : decode b_L_law 626 = .ok (.i2l, 1) := by decide +kernel
theorem d_L_law_627 : decode b_L_law 627 = .ok (.lcmp, 1) := by decide +kernel
theorem d_L_law_628 : decode b_L_law 628 = .ok (.ifCond .eq 5, 3) := by decide +kernel
theorem d_L_law_631 : decode b_L_law 631 = .ok (.iconst 0, 1) := by decide +kernel
theorem d_L_law_632 : decode b_L_law 632 = .ok (.ireturn, 1) := by decide +kernel
theorem d_L_law_633 : decode b_L_law 633 = .ok (.goto 366, 3) := by decide +kernel
theorem d_L_law_636 : decode b_L_law 636 = .ok (.aload_n 1, 1) := by decide +kernel
theorem d_L_law_637 : decode b_L_law 637 = .ok (.aload_n 0, 1) := by decide +kernel
theorem d_L_law_638 : decode b_L_law 638 = .ok (.iload 4, 2) := by decide +kernel
theorem d_L_law_640 : decode b_L_law 640 = .ok (.iconst 1, 1) := by decide +kernel
theorem d_L_law_641 : decode b_L_law 641 = .ok (.iadd, 1) := by decide +kernel
theorem d_L_law_642 : decode b_L_law 642 = .ok (.iaload, 1) := by decide +kernel
theorem d_L_law_643 : decode b_L_law 643 = .ok (.aload_n 0, 1) := by decide +kernel
theorem d_L_law_644 : decode b_L_law 644 = .ok (.iload 4, 2) := by decide +kernel
theorem d_L_law_646 : decode b_L_law 646 = .ok (.iconst 2, 1) := by decide +kernel
theorem d_L_law_647 : decode b_L_law 647 = .ok (.iadd, 1) := by decide +kernel
theorem d_L_law_648 : decode b_L_law 648 = .ok (.iaload, 1) := by decide +kernel
theorem d_L_law_649 : decode b_L_law 649 = .ok (.aload_n 3, 1) := by decide +kernel
theorem d_L_law_650 : decode b_L_law 650 = .ok (.invokestatic 95, 3) := by decide +kernel
theorem d_L_law_653 : decode b_L_law 653 = .ok (.istore 5, 2) := by decide +kernel
theorem d_L_law_655 : decode b_L_law 655 = .ok (.aload_n 2, 1) := by decide +kernel
theorem d_L_law_656 : decode b_L_law 656 = .ok (.aload_n 0, 1) := by decide +kernel
theorem d_L_law_657 : decode b_L_law 657 = .ok (.iload 4, 2) := by decide +kernel
theorem d_L_law_659 : decode b_L_law 659 = .ok (.iconst 1, 1) := by decide +kernel
theorem d_L_law_660 : decode b_L_law 660 = .ok (.iadd, 1) := by decide +kernel
theorem d_L_law_661 : decode b_L_law 661 = .ok (.iaload, 1) := by decide +kernel
theorem d_L_law_662 : decode b_L_law 662 = .ok (.aload_n 0, 1) := by decide +kernel
theorem d_L_law_663 : decode b_L_law 663 = .ok (.iload 4, 2) := by decide +kernel
theorem d_L_law_665 : decode b_L_law 665 = .ok (.iconst 2, 1) := by decide +kernel
theorem d_L_law_666 : decode b_L_law 666 = .ok (.iadd, 1) := by decide +kernel
theorem d_L_law_667 : decode b_L_law 667 = .ok (.iaload, 1) := by decide +kernel
theorem d_L_law_668 : decode b_L_law 668 = .ok (.invokevirtual 97, 3) := by decide +kernel
theorem d_L_law_671 : decode b_L_law 671 = .ok (.lstore 6, 2) := by decide +kernel
theorem d_L_law_673 : decode b_L_law 673 = .ok (.aload_n 2, 1) := by decide +kernel
theorem d_L_law_674 : decode b_L_law 674 = .ok (.invokevirtual 69, 3) := by decide +kernel
theorem d_L_law_677 : decode b_L_law 677 = .ok (.iload 5, 2) := by decide +kernel
theorem d_L_law_679 : decode b_L_law 679 = .ok (.if_icmp .eq 5, 3) := by decide +kernel
theorem d_L_law_682 : decode b_L_law 682 = .ok (.iconst 0, 1) := by decide +kernel
theorem d_L_law_683 : decode b_L_law 683 = .ok (.ireturn, 1) := by decide +kernel
theorem d_L_law_684 : decode b_L_law 684 = .ok (.iload 5, 2) := by decide +kernel
theorem d_L_law_686 : decode b_L_law 686 = .ok (.ifCond .ne 14, 3) := by decide +kernel
theorem d_L_law_689 : decode b_L_law 689 = .ok (.aload_n 3, 1) := by decide +kernel
theorem d_L_law_690 : decode b_L_law 690 = .ok (.iconst 0, 1) := by decide +kernel
theorem d_L_law_691 : decode b_L_law 691 = .ok (.laload, 1) := by decide +kernel
theorem d_L_law_692 : decode b_L_law 692 = .ok (.lload 6, 2) := by decide +kernel
theorem d_L_law_694 : decode b_L_law 694 = .ok (.lcmp, 1) := by decide +kernel
theorem d_L_law_695 : decode b_L_law 695 = .ok (.ifCond .eq 5, 3) := by decide +kernel
theorem d_L_law_698 : decode b_L_law 698 = .ok (.iconst 0, 1) := by decide +kernel
theorem d_L_law_699 : decode b_L_law 699 = .ok (.ireturn, 1) := by decide +kernel
theorem d_L_law_700 : decode b_L_law 700 = .ok (.goto 299, 3) := by decide +kernel
theorem d_L_law_703 : decode b_L_law 703 = .ok (.aload_n 1, 1) := by decide +kernel
theorem d_L_law_704 : decode b_L_law 704 = .ok (.aload_n 0, 1) := by decide +kernel
theorem d_L_law_705 : decode b_L_law 705 = .ok (.iload 4, 2) := by decide +kernel
theorem d_L_law_707 : decode b_L_law 707 = .ok (.iconst 1, 1) := by decide +kernel
theorem d_L_law_708 : decode b_L_law 708 = .ok (.iadd, 1) := by decide +kernel
theorem d_L_law_709 : decode b_L_law 709 = .ok (.iaload, 1) := by decide +kernel
theorem d_L_law_710 : decode b_L_law 710 = .ok (.aload_n 0, 1) := by decide +kernel
theorem d_L_law_711 : decode b_L_law 711 = .ok (.iload 4, 2) := by decide +kernel
theorem d_L_law_713 : decode b_L_law 713 = .ok (.iconst 2, 1) := by decide +kernel
theorem d_L_law_714 : decode b_L_law 714 = .ok (.iadd, 1) := by decide +kernel
theorem d_L_law_715 : decode b_L_law 715 = .ok (.iaload, 1) := by decide +kernel
theorem d_L_law_716 : decode b_L_law 716 = .ok (.aload_n 0, 1) := by decide +kernel
theorem d_L_law_717 : decode b_L_law 717 = .ok (.iload 4, 2) := by decide +kernel
theorem d_L_law_719 : decode b_L_law 719 = .ok (.iconst 3, 1) := by decide +kernel
theorem d_L_law_720 : decode b_L_law 720 = .ok (.iadd, 1) := by decide +kernel
theorem d_L_law_721 : decode b_L_law 721 = .ok (.iaload, 1) := by decide +kernel
theorem d_L_law_722 : decode b_L_law 722 = .ok (.aload_n 3, 1) := by decide +kernel
theorem d_L_law_723 : decode b_L_law 723 = .ok (.invokestatic 98, 3) := by decide +kernel
theorem d_L_law_726 : decode b_L_law 726 = .ok (.istore 5, 2) := by decide +kernel
theorem d_L_law_728 : decode b_L_law 728 = .ok (.aload_n 2, 1) := by decide +kernel
theorem d_L_law_729 : decode b_L_law 729 = .ok (.aload_n 0, 1) := by decide +kernel
theorem d_L_law_730 : decode b_L_law 730 = .ok (.iload 4, 2) := by decide +kernel
theorem d_L_law_732 : decode b_L_law 732 = .ok (.iconst 1, 1) := by decide +kernel
theorem d_L_law_733 : decode b_L_law 733 = .ok (.iadd, 1) := by decide +kernel
theorem d_L_law_734 : decode b_L_law 734 = .ok (.iaload, 1) := by decide +kernel
theorem d_L_law_735 : decode b_L_law 735 = .ok (.aload_n 0, 1) := by decide +kernel
theorem d_L_law_736 : decode b_L_law 736 = .ok (.iload 4, 2) := by decide +kernel
theorem d_L_law_738 : decode b_L_law 738 = .ok (.iconst 2, 1) := by decide +kernel
theorem d_L_law_739 : decode b_L_law 739 = .ok (.iadd, 1) := by decide +kernel
theorem d_L_law_740 : decode b_L_law 740 = .ok (.iaload, 1) := by decide +kernel
theorem d_L_law_741 : decode b_L_law 741 = .ok (.aload_n 0, 1) := by decide +kernel
theorem d_L_law_742 : decode b_L_law 742 = .ok (.iload 4, 2) := by decide +kernel
theorem d_L_law_744 : decode b_L_law 744 = .ok (.iconst 3, 1) := by decide +kernel
theorem d_L_law_745 : decode b_L_law 745 = .ok (.iadd, 1) := by decide +kernel
theorem d_L_law_746 : decode b_L_law 746 = .ok (.iaload, 1) := by decide +kernel
theorem d_L_law_747 : decode b_L_law 747 = .ok (.invokevirtual 100, 3) := by decide +kernel
theorem d_L_law_750 : decode b_L_law 750 = .ok (.istore 6, 2) := by decide +kernel
theorem d_L_law_752 : decode b_L_law 752 = .ok (.aload_n 2, 1) := by decide +kernel
theorem d_L_law_753 : decode b_L_law 753 = .ok (.invokevirtual 69, 3) := by decide +kernel
theorem d_L_law_756 : decode b_L_law 756 = .ok (.iload 5, 2) := by decide +kernel
theorem d_L_law_758 : decode b_L_law 758 = .ok (.if_icmp .eq 5, 3) := by decide +kernel
theorem d_L_law_761 : decode b_L_law 761 = .ok (.iconst 0, 1) := by decide +kernel
theorem d_L_law_762 : decode b_L_law 762 = .ok (.ireturn, 1) := by decide +kernel
theorem d_L_law_763 : decode b_L_law 763 = .ok (.iload 5, 2) := by decide +kernel
theorem d_L_law_765 : decode b_L_law 765 = .ok (.ifCond .ne 15, 3) := by decide +kernel
theorem d_L_law_768 : decode b_L_law 768 = .ok (.aload_n 3, 1) := by decide +kernel
theorem d_L_law_769 : decode b_L_law 769 = .ok (.iconst 0, 1) := by decide +kernel
theorem d_L_law_770 : decode b_L_law 770 = .ok (.laload, 1) := by decide +kernel
theorem d_L_law_771 : decode b_L_law 771 = .ok (.iload 6, 2) := by decide +kernel
theorem d_L_law_773 : decode b_L_law 773 = .ok (.i2l, 1) := by decide +kernel
theorem d_L_law_774 : decode b_L_law 774 = .ok (.lcmp, 1) := by decide +kernel
theorem d_L_law_775 : decode b_L_law 775 = .ok (.ifCond .eq 5, 3) := by decide +kernel
theorem d_L_law_778 : decode b_L_law 778 = .ok (.iconst 0, 1) := by decide +kernel
theorem d_L_law_779 : decode b_L_law 779 = .ok (.ireturn, 1) := by decide +kernel
theorem d_L_law_780 : decode b_L_law 780 = .ok (.goto 219, 3) := by decide +kernel
theorem d_L_law_783 : decode b_L_law 783 = .ok (.aload_n 1, 1) := by decide +kernel
theorem d_L_law_784 : decode b_L_law 784 = .ok (.aload_n 0, 1) := by decide +kernel
theorem d_L_law_785 : decode b_L_law 785 = .ok (.iload 4, 2) := by decide +kernel
theorem d_L_law_787 : decode b_L_law 787 = .ok (.iconst 1, 1) := by decide +kernel
theorem d_L_law_788 : decode b_L_law 788 = .ok (.iadd, 1) := by decide +kernel
theorem d_L_law_789 : decode b_L_law 789 = .ok (.iaload, 1) := by decide +kernel
theorem d_L_law_790 : decode b_L_law 790 = .ok (.aload_n 0, 1) := by decide +kernel
theorem d_L_law_791 : decode b_L_law 791 = .ok (.iload 4, 2) := by decide +kernel
theorem d_L_law_793 : decode b_L_law 793 = .ok (.iconst 2, 1) := by decide +kernel
theorem d_L_law_794 : decode b_L_law 794 = .ok (.iadd, 1) := by decide +kernel
theorem d_L_law_795 : decode b_L_law 795 = .ok (.iaload, 1) := by decide +kernel
theorem d_L_law_796 : decode b_L_law 796 = .ok (.aload_n 0, 1) := by decide +kernel
theorem d_L_law_797 : decode b_L_law 797 = .ok (.iload 4, 2) := by decide +kernel
theorem d_L_law_799 : decode b_L_law 799 = .ok (.iconst 3, 1) := by decide +kernel
theorem d_L_law_800 : decode b_L_law 800 = .ok (.iadd, 1) := by decide +kernel
theorem d_L_law_801 : decode b_L_law 801 = .ok (.iaload, 1) := by decide +kernel
theorem d_L_law_802 : decode b_L_law 802 = .ok (.aload_n 3, 1) := by decide +kernel
theorem d_L_law_803 : decode b_L_law 803 = .ok (.invokestatic 101, 3) := by decide +kernel
theorem d_L_law_806 : decode b_L_law 806 = .ok (.istore 5, 2) := by decide +kernel
theorem d_L_law_808 : decode b_L_law 808 = .ok (.aload_n 2, 1) := by decide +kernel
theorem d_L_law_809 : decode b_L_law 809 = .ok (.aload_n 0, 1) := by decide +kernel
theorem d_L_law_810 : decode b_L_law 810 = .ok (.iload 4, 2) := by decide +kernel
theorem d_L_law_812 : decode b_L_law 812 = .ok (.iconst 1, 1) := by decide +kernel
theorem d_L_law_813 : decode b_L_law 813 = .ok (.iadd, 1) := by decide +kernel
theorem d_L_law_814 : decode b_L_law 814 = .ok (.iaload, 1) := by decide +kernel
theorem d_L_law_815 : decode b_L_law 815 = .ok (.aload_n 0, 1) := by decide +kernel
theorem d_L_law_816 : decode b_L_law 816 = .ok (.iload 4, 2) := by decide +kernel
theorem d_L_law_818 : decode b_L_law 818 = .ok (.iconst 2, 1) := by decide +kernel
theorem d_L_law_819 : decode b_L_law 819 = .ok (.iadd, 1) := by decide +kernel
theorem d_L_law_820 : decode b_L_law 820 = .ok (.iaload, 1) := by decide +kernel
theorem d_L_law_821 : decode b_L_law 821 = .ok (.aload_n 0, 1) := by decide +kernel
theorem d_L_law_822 : decode b_L_law 822 = .ok (.iload 4, 2) := by decide +kernel
theorem d_L_law_824 : decode b_L_law 824 = .ok (.iconst 3, 1) := by decide +kernel
theorem d_L_law_825 : decode b_L_law 825 = .ok (.iadd, 1) := by decide +kernel
theorem d_L_law_826 : decode b_L_law 826 = .ok (.iaload, 1) := by decide +kernel
theorem d_L_law_827 : decode b_L_law 827 = .ok (.invokevirtual 103, 3) := by decide +kernel
theorem d_L_law_830 : decode b_L_law 830 = .ok (.istore 6, 2) := by decide +kernel
theorem d_L_law_832 : decode b_L_law 832 = .ok (.aload_n 2, 1) := by decide +kernel
theorem d_L_law_833 : decode b_L_law 833 = .ok (.invokevirtual 69, 3) := by decide +kernel
theorem d_L_law_836 : decode b_L_law 836 = .ok (.iload 5, 2) := by decide +kernel
theorem d_L_law_838 : decode b_L_law 838 = .ok (.if_icmp .eq 5, 3) := by decide +kernel
theorem d_L_law_841 : decode b_L_law 841 = .ok (.iconst 0, 1) := by decide +kernel
theorem d_L_law_842 : decode b_L_law 842 = .ok (.ireturn, 1) := by decide +kernel
theorem d_L_law_843 : decode b_L_law 843 = .ok (.iload 5, 2) := by decide +kernel
theorem d_L_law_845 : decode b_L_law 845 = .ok (.ifCond .ne 15, 3) := by decide +kernel
theorem d_L_law_848 : decode b_L_law 848 = .ok (.aload_n 3, 1) := by decide +kernel
theorem d_L_law_849 : decode b_L_law 849 = .ok (.iconst 0, 1) := by decide +kernel
theorem d_L_law_850 : decode b_L_law 850 = .ok (.laload, 1) := by decide +kernel
theorem d_L_law_851 : decode b_L_law 851 = .ok (.iload 6, 2) := by decide +kernel
theorem d_L_law_853 : decode b_L_law 853 = .ok (.i2l, 1) := by decide +kernel
theorem d_L_law_854 : decode b_L_law 854 = .ok (.lcmp, 1) := by decide +kernel
theorem d_L_law_855 : decode b_L_law 855 = .ok (.ifCond .eq 5, 3) := by decide +kernel
theorem d_L_law_858 : decode b_L_law 858 = .ok (.iconst 0, 1) := by decide +kernel
theorem d_L_law_859 : decode b_L_law 859 = .ok (.ireturn, 1) := by decide +kernel
theorem d_L_law_860 : decode b_L_law 860 = .ok (.goto 139, 3) := by decide +kernel
theorem d_L_law_863 : decode b_L_law 863 = .ok (.aload_n 1, 1) := by decide +kernel
theorem d_L_law_864 : decode b_L_law 864 = .ok (.aload_n 0, 1) := by decide +kernel
theorem d_L_law_865 : decode b_L_law 865 = .ok (.iload 4, 2) := by decide +kernel
theorem d_L_law_867 : decode b_L_law 867 = .ok (.iconst 1, 1) := by decide +kernel
theorem d_L_law_868 : decode b_L_law 868 = .ok (.iadd, 1) := by decide +kernel
theorem d_L_law_869 : decode b_L_law 869 = .ok (.iaload, 1) := by decide +kernel
theorem d_L_law_870 : decode b_L_law 870 = .ok (.aload_n 0, 1) := by decide +kernel
theorem d_L_law_871 : decode b_L_law 871 = .ok (.iload 4, 2) := by decide +kernel
theorem d_L_law_873 : decode b_L_law 873 = .ok (.iconst 2, 1) := by decide +kernel
theorem d_L_law_874 : decode b_L_law 874 = .ok (.iadd, 1) := by decide +kernel
theorem d_L_law_875 : decode b_L_law 875 = .ok (.iaload, 1) := by decide +kernel
theorem d_L_law_876 : decode b_L_law 876 = .ok (.aload_n 0, 1) := by decide +kernel
theorem d_L_law_877 : decode b_L_law 877 = .ok (.iload 4, 2) := by decide +kernel
theorem d_L_law_879 : decode b_L_law 879 = .ok (.iconst 3, 1) := by decide +kernel
theorem d_L_law_880 : decode b_L_law 880 = .ok (.iadd, 1) := by decide +kernel
theorem d_L_law_881 : decode b_L_law 881 = .ok (.iaload, 1) := by decide +kernel
theorem d_L_law_882 : decode b_L_law 882 = .ok (.aload_n 3, 1) := by decide +kernel
theorem d_L_law_883 : decode b_L_law 883 = .ok (.invokestatic 104, 3) := by decide +kernel
theorem d_L_law_886 : decode b_L_law 886 = .ok (.istore 5, 2) := by decide +kernel
theorem d_L_law_888 : decode b_L_law 888 = .ok (.aload_n 2, 1) := by decide +kernel
theorem d_L_law_889 : decode b_L_law 889 = .ok (.aload_n 0, 1) := by decide +kernel
theorem d_L_law_890 : decode b_L_law 890 = .ok (.iload 4, 2) := by decide +kernel
theorem d_L_law_892 : decode b_L_law 892 = .ok (.iconst 1, 1) := by decide +kernel
theorem d_L_law_893 : decode b_L_law 893 = .ok (.iadd, 1) := by decide +kernel
theorem d_L_law_894 : decode b_L_law 894 = .ok (.iaload, 1) := by decide +kernel
theorem d_L_law_895 : decode b_L_law 895 = .ok (.aload_n 0, 1) := by decide +kernel
theorem d_L_law_896 : decode b_L_law 896 = .ok (.iload 4, 2) := by decide +kernel
theorem d_L_law_898 : decode b_L_law 898 = .ok (.iconst 2, 1) := by decide +kernel
theorem d_L_law_899 : decode b_L_law 899 = .ok (.iadd, 1) := by decide +kernel
theorem d_L_law_900 : decode b_L_law 900 = .ok (.iaload, 1) := by decide +kernel
theorem d_L_law_901 : decode b_L_law 901 = .ok (.aload_n 0, 1) := by decide +kernel
theorem d_L_law_902 : decode b_L_law 902 = .ok (.iload 4, 2) := by decide +kernel
theorem d_L_law_904 : decode b_L_law 904 = .ok (.iconst 3, 1) := by decide +kernel
theorem d_L_law_905 : decode b_L_law 905 = .ok (.iadd, 1) := by decide +kernel
theorem d_L_law_906 : decode b_L_law 906 = .ok (.iaload, 1) := by decide +kernel
theorem d_L_law_907 : decode b_L_law 907 = .ok (.invokevirtual 106, 3) := by decide +kernel
theorem d_L_law_910 : decode b_L_law 910 = .ok (.istore 6, 2) := by decide +kernel
theorem d_L_law_912 : decode b_L_law 912 = .ok (.aload_n 2, 1) := by decide +kernel
theorem d_L_law_913 : decode b_L_law 913 = .ok (.invokevirtual 69, 3) := by decide +kernel
theorem d_L_law_916 : decode b_L_law 916 = .ok (.iload 5, 2) := by decide +kernel
theorem d_L_law_918 : decode b_L_law 918 = .ok (.if_icmp .eq 5, 3) := by decide +kernel
theorem d_L_law_921 : decode b_L_law 921 = .ok (.iconst 0, 1) := by decide +kernel
theorem d_L_law_922 : decode b_L_law 922 = .ok (.ireturn, 1) := by decide +kernel
theorem d_L_law_923 : decode b_L_law 923 = .ok (.iload 5, 2) := by decide +kernel
theorem d_L_law_925 : decode b_L_law 925 = .ok (.ifCond .ne 15, 3) := by decide +kernel
theorem d_L_law_928 : decode b_L_law 928 = .ok (.aload_n 3, 1) := by decide +kernel
theorem d_L_law_929 : decode b_L_law 929 = .ok (.iconst 0, 1) := by decide +kernel
theorem d_L_law_930 : decode b_L_law 930 = .ok (.laload, 1) := by decide +kernel
theorem d_L_law_931 : decode b_L_law 931 = .ok (.iload 6, 2) := by decide +kernel
theorem d_L_law_933 : decode b_L_law 933 = .ok (.i2l, 1) := by decide +kernel
theorem d_L_law_934 : decode b_L_law 934 = .ok (.lcmp, 1) := by decide +kernel
theorem d_L_law_935 : decode b_L_law 935 = .ok (.ifCond .eq 5, 3) := by decide +kernel
theorem d_L_law_938 : decode b_L_law 938 = .ok (.iconst 0, 1) := by decide +kernel
theorem d_L_law_939 : decode b_L_law 939 = .ok (.ireturn, 1) := by decide +kernel
theorem d_L_law_940 : decode b_L_law 940 = .ok (.goto 59, 3) := by decide +kernel
theorem d_L_law_943 : decode b_L_law 943 = .ok (.aload_n 1, 1) := by decide +kernel
theorem d_L_law_944 : decode b_L_law 944 = .ok (.aload_n 0, 1) := by decide +kernel
theorem d_L_law_945 : decode b_L_law 945 = .ok (.iload 4, 2) := by decide +kernel
theorem d_L_law_947 : decode b_L_law 947 = .ok (.iconst 1, 1) := by decide +kernel
theorem d_L_law_948 : decode b_L_law 948 = .ok (.iadd, 1) := by decide +kernel
theorem d_L_law_949 : decode b_L_law 949 = .ok (.iaload, 1) := by decide +kernel
theorem d_L_law_950 : decode b_L_law 950 = .ok (.aload_n 3, 1) := by decide +kernel
theorem d_L_law_951 : decode b_L_law 951 = .ok (.invokestatic 107, 3) := by decide +kernel
theorem d_L_law_954 : decode b_L_law 954 = .ok (.istore 5, 2) := by decide +kernel
theorem d_L_law_956 : decode b_L_law 956 = .ok (.aload_n 2, 1) := by decide +kernel
theorem d_L_law_957 : decode b_L_law 957 = .ok (.aload_n 0, 1) := by decide +kernel
theorem d_L_law_958 : decode b_L_law 958 = .ok (.iload 4, 2) := by decide +kernel
theorem d_L_law_960 : decode b_L_law 960 = .ok (.iconst 1, 1) := by decide +kernel
theorem d_L_law_961 : decode b_L_law 961 = .ok (.iadd, 1) := by decide +kernel
theorem d_L_law_962 : decode b_L_law 962 = .ok (.iaload, 1) := by decide +kernel
theorem d_L_law_963 : decode b_L_law 963 = .ok (.invokevirtual 110, 3) := by decide +kernel
theorem d_L_law_966 : decode b_L_law 966 = .ok (.istore 6, 2) := by decide +kernel
theorem d_L_law_968 : decode b_L_law 968 = .ok (.aload_n 2, 1) := by decide +kernel
theorem d_L_law_969 : decode b_L_law 969 = .ok (.invokevirtual 69, 3) := by decide +kernel
theorem d_L_law_972 : decode b_L_law 972 = .ok (.iload 5, 2) := by decide +kernel
theorem d_L_law_974 : decode b_L_law 974 = .ok (.if_icmp .eq 5, 3) := by decide +kernel
theorem d_L_law_977 : decode b_L_law 977 = .ok (.iconst 0, 1) := by decide +kernel
theorem d_L_law_978 : decode b_L_law 978 = .ok (.ireturn, 1) := by decide +kernel
theorem d_L_law_979 : decode b_L_law 979 = .ok (.iload 5, 2) := by decide +kernel
theorem d_L_law_981 : decode b_L_law 981 = .ok (.ifCond .ne 15, 3) := by decide +kernel
theorem d_L_law_984 : decode b_L_law 984 = .ok (.aload_n 3, 1) := by decide +kernel
theorem d_L_law_985 : decode b_L_law 985 = .ok (.iconst 0, 1) := by decide +kernel
theorem d_L_law_986 : decode b_L_law 986 = .ok (.laload, 1) := by decide +kernel
theorem d_L_law_987 : decode b_L_law 987 = .ok (.iload 6, 2) := by decide +kernel
theorem d_L_law_989 : decode b_L_law 989 = .ok (.i2l, 1) := by decide +kernel
theorem d_L_law_990 : decode b_L_law 990 = .ok (.lcmp, 1) := by decide +kernel
theorem d_L_law_991 : decode b_L_law 991 = .ok (.ifCond .eq 5, 3) := by decide +kernel
theorem d_L_law_994 : decode b_L_law 994 = .ok (.iconst 0, 1) := by decide +kernel
theorem d_L_law_995 : decode b_L_law 995 = .ok (.ireturn, 1) := by decide +kernel
theorem d_L_law_996 : decode b_L_law 996 = .ok (.goto 3, 3) := by decide +kernel
theorem d_L_law_999 : decode b_L_law 999 = .ok (.iinc 4 4, 3) := by decide +kernel
theorem d_L_law_1002 : decode b_L_law 1002 = .ok (.goto (-979), 3) := by decide +kernel
theorem d_L_law_1005 : decode b_L_law 1005 = .ok (.iconst 1, 1) := by decide +kernel
theorem d_L_law_1006 : decode b_L_law 1006 = .ok (.ireturn, 1) := by decide +kernel
