theorem dL_law_516 : decode cL_law 516 = .ok (.iload 21, 2) := by decide +kernel
theorem dL_law_518 : decode cL_law 518 = .ok (.ifCond .ne 6, 3) := by decide +kernel
theorem dL_law_521 : decode cL_law 521 = .ok (.goto 1465, 3) := by decide +kernel
theorem dL_law_524 : decode cL_law 524 = .ok (.aload_n 3, 1) := by decide +kernel
theorem dL_law_525 : decode cL_law 525 = .ok (.bipush 6, 2) := by decide +kernel
theorem dL_law_527 : decode cL_law 527 = .ok (.iload 15, 2) := by decide +kernel
theorem dL_law_529 : decode cL_law 529 = .ok (.imul, 1) := by decide +kernel
theorem dL_law_530 : decode cL_law 530 = .ok (.iload 18, 2) := by decide +kernel
theorem dL_law_532 : decode cL_law 532 = .ok (.iadd, 1) := by decide +kernel
theorem dL_law_533 : decode cL_law 533 = .ok (.iaload, 1) := by decide +kernel
theorem dL_law_534 : decode cL_law 534 = .ok (.istore 22, 2) := by decide +kernel
theorem dL_law_536 : decode cL_law 536 = .ok (.aload_n 3, 1) := by decide +kernel
theorem dL_law_537 : decode cL_law 537 = .ok (.bipush 6, 2) := by decide +kernel
theorem dL_law_539 : decode cL_law 539 = .ok (.iload 15, 2) := by decide +kernel
theorem dL_law_541 : decode cL_law 541 = .ok (.imul, 1) := by decide +kernel
theorem dL_law_542 : decode cL_law 542 = .ok (.iload 18, 2) := by decide +kernel
theorem dL_law_544 : decode cL_law 544 = .ok (.iadd, 1) := by decide +kernel
theorem dL_law_545 : decode cL_law 545 = .ok (.iload 19, 2) := by decide +kernel
theorem dL_law_547 : decode cL_law 547 = .ok (.iastore, 1) := by decide +kernel
theorem dL_law_548 : decode cL_law 548 = .ok (.aload 4, 2) := by decide +kernel
theorem dL_law_550 : decode cL_law 550 = .ok (.bipush 6, 2) := by decide +kernel
theorem dL_law_552 : decode cL_law 552 = .ok (.iload 15, 2) := by decide +kernel
theorem dL_law_554 : decode cL_law 554 = .ok (.imul, 1) := by decide +kernel
theorem dL_law_555 : decode cL_law 555 = .ok (.iload 18, 2) := by decide +kernel
theorem dL_law_557 : decode cL_law 557 = .ok (.iadd, 1) := by decide +kernel
theorem dL_law_558 : decode cL_law 558 = .ok (.aload 10, 2) := by decide +kernel
theorem dL_law_560 : decode cL_law 560 = .ok (.iconst 1, 1) := by decide +kernel
theorem dL_law_561 : decode cL_law 561 = .ok (.iaload, 1) := by decide +kernel
theorem dL_law_562 : decode cL_law 562 = .ok (.iastore, 1) := by decide +kernel
theorem dL_law_563 : decode cL_law 563 = .ok (.aload_n 1, 1) := by decide +kernel
theorem dL_law_564 : decode cL_law 564 = .ok (.iload 17, 2) := by decide +kernel
theorem dL_law_566 : decode cL_law 566 = .ok (.iload 18, 2) := by decide +kernel
theorem dL_law_568 : decode cL_law 568 = .ok (.iload 19, 2) := by decide +kernel
theorem dL_law_570 : decode cL_law 570 = .ok (.invokevirtual 53, 3) := by decide +kernel
theorem dL_law_573 : decode cL_law 573 = .ok (.iload 22, 2) := by decide +kernel
theorem dL_law_575 : decode cL_law 575 = .ok (.if_icmp .eq 5, 3) := by decide +kernel
theorem dL_law_578 : decode cL_law 578 = .ok (.iconst 0, 1) := by decide +kernel
theorem dL_law_579 : decode cL_law 579 = .ok (.ireturn, 1) := by decide +kernel
theorem dL_law_580 : decode cL_law 580 = .ok (.goto 1375, 3) := by decide +kernel
theorem dL_law_583 : decode cL_law 583 = .ok (.iload 14, 2) := by decide +kernel
theorem dL_law_585 : decode cL_law 585 = .ok (.bipush 11, 2) := by decide +kernel
theorem dL_law_587 : decode cL_law 587 = .ok (.if_icmp .ne 65, 3) := by decide +kernel
theorem dL_law_590 : decode cL_law 590 = .ok (.iload 20, 2) := by decide +kernel
theorem dL_law_592 : decode cL_law 592 = .ok (.ifCond .eq 11, 3) := by decide +kernel
theorem dL_law_595 : decode cL_law 595 = .ok (.aload 10, 2) := by decide +kernel
theorem dL_law_597 : decode cL_law 597 = .ok (.iconst 4, 1) := by decide +kernel
theorem dL_law_598 : decode cL_law 598 = .ok (.iaload, 1) := by decide +kernel
theorem dL_law_599 : decode cL_law 599 = .ok (.iconst 1, 1) := by decide +kernel
theorem dL_law_600 : decode cL_law 600 = .ok (.if_icmp .ne 26, 3) := by decide +kernel
theorem dL_law_603 : decode cL_law 603 = .ok (.aload_n 1, 1) := by decide +kernel
theorem dL_law_604 : decode cL_law 604 = .ok (.iconst 1, 1) := by decide +kernel
theorem dL_law_605 : decode cL_law 605 = .ok (.iload 17, 2) := by decide +kernel
theorem dL_law_607 : decode cL_law 607 = .ok (.iconst 0, 1) := by decide +kernel
theorem dL_law_608 : decode cL_law 608 = .ok (.invokestatic 98, 3) := by decide +kernel
theorem dL_law_611 : decode cL_law 611 = .ok (.iload 20, 2) := by decide +kernel
theorem dL_law_613 : decode cL_law 613 = .ok (.ifCond .eq 7, 3) := by decide +kernel
theorem dL_law_616 : decode cL_law 616 = .ok (.iconst 3, 1) := by decide +kernel
theorem dL_law_617 : decode cL_law 617 = .ok (.goto 4, 3) := by decide +kernel
theorem dL_law_620 : decode cL_law 620 = .ok (.iconst 1, 1) := by decide +kernel
theorem dL_law_621 : decode cL_law 621 = .ok (.if_icmp .eq 1365, 3) := by decide +kernel
theorem dL_law_624 : decode cL_law 624 = .ok (.iconst 0, 1) := by decide +kernel
theorem dL_law_625 : decode cL_law 625 = .ok (.ireturn, 1) := by decide +kernel
theorem dL_law_626 : decode cL_law 626 = .ok (.iload 13, 2) := by decide +kernel
theorem dL_law_628 : decode cL_law 628 = .ok (.iconst 2, 1) := by decide +kernel
theorem dL_law_629 : decode cL_law 629 = .ok (.invokestatic 152, 3) := by decide +kernel
theorem dL_law_632 : decode cL_law 632 = .ok (.ifCond .ne 1323, 3) := by decide +kernel
theorem dL_law_635 : decode cL_law 635 = .ok (.aload_n 1, 1) := by decide +kernel
theorem dL_law_636 : decode cL_law 636 = .ok (.iload 17, 2) := by decide +kernel
theorem dL_law_638 : decode cL_law 638 = .ok (.invokevirtual 38, 3) := by decide +kernel
theorem dL_law_641 : decode cL_law 641 = .ok (.iload 15, 2) := by decide +kernel
theorem dL_law_643 : decode cL_law 643 = .ok (.aload_n 2, 1) := by decide +kernel
theorem dL_law_644 : decode cL_law 644 = .ok (.invokestatic 139, 3) := by decide +kernel
theorem dL_law_647 : decode cL_law 647 = .ok (.if_icmp .eq 1308, 3) := by decide +kernel
theorem dL_law_650 : decode cL_law 650 = .ok (.iconst 0, 1) := by decide +kernel
theorem dL_law_651 : decode cL_law 651 = .ok (.ireturn, 1) := by decide +kernel
theorem dL_law_652 : decode cL_law 652 = .ok (.iload 14, 2) := by decide +kernel
theorem dL_law_654 : decode cL_law 654 = .ok (.bipush 14, 2) := by decide +kernel
theorem dL_law_656 : decode cL_law 656 = .ok (.if_icmp .ge 195, 3) := by decide +kernel
theorem dL_law_659 : decode cL_law 659 = .ok (.iload 13, 2) := by decide +kernel
theorem dL_law_661 : decode cL_law 661 = .ok (.iconst 4, 1) := by decide +kernel
theorem dL_law_662 : decode cL_law 662 = .ok (.invokestatic 152, 3) := by decide +kernel
theorem dL_law_665 : decode cL_law 665 = .ok (.ifCond .ne 7, 3) := by decide +kernel
theorem dL_law_668 : decode cL_law 668 = .ok (.iconst (-1), 1) := by decide +kernel
theorem dL_law_669 : decode cL_law 669 = .ok (.goto 5, 3) := by decide +kernel
theorem dL_law_672 : decode cL_law 672 = .ok (.iload 16, 2) := by decide +kernel
theorem dL_law_674 : decode cL_law 674 = .ok (.istore 22, 2) := by decide +kernel
theorem dL_law_676 : decode cL_law 676 = .ok (.iconst 0, 1) := by decide +kernel
theorem dL_law_677 : decode cL_law 677 = .ok (.istore 23, 2) := by decide +kernel
theorem dL_law_679 : decode cL_law 679 = .ok (.iload 22, 2) := by decide +kernel
theorem dL_law_681 : decode cL_law 681 = .ok (.istore 24, 2) := by decide +kernel
theorem dL_law_683 : decode cL_law 683 = .ok (.iload 24, 2) := by decide +kernel
theorem dL_law_685 : decode cL_law 685 = .ok (.ifCond .lt 45, 3) := by decide +kernel
theorem dL_law_688 : decode cL_law 688 = .ok (.aload_n 2, 1) := by decide +kernel
theorem dL_law_689 : decode cL_law 689 = .ok (.bipush 6, 2) := by decide +kernel
theorem dL_law_691 : decode cL_law 691 = .ok (.iload 24, 2) := by decide +kernel
theorem dL_law_693 : decode cL_law 693 = .ok (.imul, 1) := by decide +kernel
theorem dL_law_694 : decode cL_law 694 = .ok (.iaload, 1) := by decide +kernel
theorem dL_law_695 : decode cL_law 695 = .ok (.iconst 1, 1) := by decide +kernel
theorem dL_law_696 : decode cL_law 696 = .ok (.if_icmp .ne 34, 3) := by decide +kernel
theorem dL_law_699 : decode cL_law 699 = .ok (.iload 23, 2) := by decide +kernel
theorem dL_law_701 : decode cL_law 701 = .ok (.iload 24, 2) := by decide +kernel
theorem dL_law_703 : decode cL_law 703 = .ok (.iload 15, 2) := by decide +kernel
theorem dL_law_705 : decode cL_law 705 = .ok (.if_icmp .ne 7, 3) := by decide +kernel
theorem dL_law_708 : decode cL_law 708 = .ok (.iconst 1, 1) := by decide +kernel
theorem dL_law_709 : decode cL_law 709 = .ok (.goto 4, 3) := by decide +kernel
theorem dL_law_712 : decode cL_law 712 = .ok (.iconst 0, 1) := by decide +kernel
theorem dL_law_713 : decode cL_law 713 = .ok (.ior, 1) := by decide +kernel
theorem dL_law_714 : decode cL_law 714 = .ok (.istore 23, 2) := by decide +kernel
theorem dL_law_716 : decode cL_law 716 = .ok (.aload_n 2, 1) := by decide +kernel
theorem dL_law_717 : decode cL_law 717 = .ok (.bipush 6, 2) := by decide +kernel
theorem dL_law_719 : decode cL_law 719 = .ok (.iload 24, 2) := by decide +kernel
theorem dL_law_721 : decode cL_law 721 = .ok (.imul, 1) := by decide +kernel
theorem dL_law_722 : decode cL_law 722 = .ok (.iconst 3, 1) := by decide +kernel
theorem dL_law_723 : decode cL_law 723 = .ok (.iadd, 1) := by decide +kernel
theorem dL_law_724 : decode cL_law 724 = .ok (.iaload, 1) := by decide +kernel
theorem dL_law_725 : decode cL_law 725 = .ok (.istore 24, 2) := by decide +kernel
theorem dL_law_727 : decode cL_law 727 = .ok (.goto (-44), 3) := by decide +kernel
theorem dL_law_730 : decode cL_law 730 = .ok (.iload 20, 2) := by decide +kernel
theorem dL_law_732 : decode cL_law 732 = .ok (.ifCond .eq 18, 3) := by decide +kernel
theorem dL_law_735 : decode cL_law 735 = .ok (.iload 22, 2) := by decide +kernel
theorem dL_law_737 : decode cL_law 737 = .ok (.ifCond .lt 17, 3) := by decide +kernel
theorem dL_law_740 : decode cL_law 740 = .ok (.aload_n 2, 1) := by decide +kernel
theorem dL_law_741 : decode cL_law 741 = .ok (.bipush 6, 2) := by decide +kernel
theorem dL_law_743 : decode cL_law 743 = .ok (.iload 22, 2) := by decide +kernel
theorem dL_law_745 : decode cL_law 745 = .ok (.imul, 1) := by decide +kernel
theorem dL_law_746 : decode cL_law 746 = .ok (.iaload, 1) := by decide +kernel
theorem dL_law_747 : decode cL_law 747 = .ok (.ifCond .ne 7, 3) := by decide +kernel
theorem dL_law_750 : decode cL_law 750 = .ok (.iconst 1, 1) := by decide +kernel
theorem dL_law_751 : decode cL_law 751 = .ok (.goto 25, 3) := by decide +kernel
theorem dL_law_754 : decode cL_law 754 = .ok (.iload 23, 2) := by decide +kernel
theorem dL_law_756 : decode cL_law 756 = .ok (.ifCond .eq 7, 3) := by decide +kernel
theorem dL_law_759 : decode cL_law 759 = .ok (.iconst 2, 1) := by decide +kernel
theorem dL_law_760 : decode cL_law 760 = .ok (.goto 16, 3) := by decide +kernel
theorem dL_law_763 : decode cL_law 763 = .ok (.aload 10, 2) := by decide +kernel
theorem dL_law_765 : decode cL_law 765 = .ok (.iconst 4, 1) := by decide +kernel
theorem dL_law_766 : decode cL_law 766 = .ok (.iaload, 1) := by decide +kernel
theorem dL_law_767 : decode cL_law 767 = .ok (.iconst 1, 1) := by decide +kernel
theorem dL_law_768 : decode cL_law 768 = .ok (.if_icmp .ne 7, 3) := by decide +kernel
theorem dL_law_771 : decode cL_law 771 = .ok (.iconst 3, 1) := by decide +kernel
theorem dL_law_772 : decode cL_law 772 = .ok (.goto 4, 3) := by decide +kernel
theorem dL_law_775 : decode cL_law 775 = .ok (.iconst 0, 1) := by decide +kernel
theorem dL_law_776 : decode cL_law 776 = .ok (.istore 24, 2) := by decide +kernel
theorem dL_law_778 : decode cL_law 778 = .ok (.iload 24, 2) := by decide +kernel
theorem dL_law_780 : decode cL_law 780 = .ok (.ifCond .le 23, 3) := by decide +kernel
theorem dL_law_783 : decode cL_law 783 = .ok (.aload_n 1, 1) := by decide +kernel
theorem dL_law_784 : decode cL_law 784 = .ok (.iconst 2, 1) := by decide +kernel
theorem dL_law_785 : decode cL_law 785 = .ok (.iload 17, 2) := by decide +kernel
theorem dL_law_787 : decode cL_law 787 = .ok (.iload 22, 2) := by decide +kernel
theorem dL_law_789 : decode cL_law 789 = .ok (.aload_n 2, 1) := by decide +kernel
theorem dL_law_790 : decode cL_law 790 = .ok (.invokestatic 102, 3) := by decide +kernel
theorem dL_law_793 : decode cL_law 793 = .ok (.invokestatic 98, 3) := by decide +kernel
theorem dL_law_796 : decode cL_law 796 = .ok (.iload 24, 2) := by decide +kernel
theorem dL_law_798 : decode cL_law 798 = .ok (.if_icmp .eq 1188, 3) := by decide +kernel
theorem dL_law_801 : decode cL_law 801 = .ok (.iconst 0, 1) := by decide +kernel
theorem dL_law_802 : decode cL_law 802 = .ok (.ireturn, 1) := by decide +kernel
theorem dL_law_803 : decode cL_law 803 = .ok (.aload_n 2, 1) := by decide +kernel
theorem dL_law_804 : decode cL_law 804 = .ok (.bipush 6, 2) := by decide +kernel
theorem dL_law_806 : decode cL_law 806 = .ok (.iload 15, 2) := by decide +kernel
theorem dL_law_808 : decode cL_law 808 = .ok (.imul, 1) := by decide +kernel
theorem dL_law_809 : decode cL_law 809 = .ok (.iconst 3, 1) := by decide +kernel
theorem dL_law_810 : decode cL_law 810 = .ok (.iadd, 1) := by decide +kernel
theorem dL_law_811 : decode cL_law 811 = .ok (.iaload, 1) := by decide +kernel
theorem dL_law_812 : decode cL_law 812 = .ok (.aload_n 2, 1) := by decide +kernel
theorem dL_law_813 : decode cL_law 813 = .ok (.invokestatic 102, 3) := by decide +kernel
theorem dL_law_816 : decode cL_law 816 = .ok (.istore 25, 2) := by decide +kernel
theorem dL_law_818 : decode cL_law 818 = .ok (.aload_n 2, 1) := by decide +kernel
theorem dL_law_819 : decode cL_law 819 = .ok (.bipush 6, 2) := by decide +kernel
theorem dL_law_821 : decode cL_law 821 = .ok (.iload 15, 2) := by decide +kernel
theorem dL_law_823 : decode cL_law 823 = .ok (.imul, 1) := by decide +kernel
theorem dL_law_824 : decode cL_law 824 = .ok (.iconst 3, 1) := by decide +kernel
theorem dL_law_825 : decode cL_law 825 = .ok (.iadd, 1) := by decide +kernel
theorem dL_law_826 : decode cL_law 826 = .ok (.iload 22, 2) := by decide +kernel
theorem dL_law_828 : decode cL_law 828 = .ok (.iastore, 1) := by decide +kernel
theorem dL_law_829 : decode cL_law 829 = .ok (.aload_n 1, 1) := by decide +kernel
theorem dL_law_830 : decode cL_law 830 = .ok (.iload 17, 2) := by decide +kernel
theorem dL_law_832 : decode cL_law 832 = .ok (.iload 22, 2) := by decide +kernel
theorem dL_law_834 : decode cL_law 834 = .ok (.aload_n 2, 1) := by decide +kernel
theorem dL_law_835 : decode cL_law 835 = .ok (.invokestatic 102, 3) := by decide +kernel
theorem dL_law_838 : decode cL_law 838 = .ok (.invokevirtual 42, 3) := by decide +kernel
theorem dL_law_841 : decode cL_law 841 = .ok (.iload 25, 2) := by decide +kernel
theorem dL_law_843 : decode cL_law 843 = .ok (.if_icmp .eq 5, 3) := by decide +kernel
theorem dL_law_846 : decode cL_law 846 = .ok (.iconst 0, 1) := by decide +kernel
theorem dL_law_847 : decode cL_law 847 = .ok (.ireturn, 1) := by decide +kernel
theorem dL_law_848 : decode cL_law 848 = .ok (.goto 1107, 3) := by decide +kernel
theorem dL_law_851 : decode cL_law 851 = .ok (.iload 14, 2) := by decide +kernel
theorem dL_law_853 : decode cL_law 853 = .ok (.bipush 14, 2) := by decide +kernel
theorem dL_law_855 : decode cL_law 855 = .ok (.if_icmp .ne 178, 3) := by decide +kernel
theorem dL_law_858 : decode cL_law 858 = .ok (.aload 10, 2) := by decide +kernel
theorem dL_law_860 : decode cL_law 860 = .ok (.iconst 2, 1) := by decide +kernel
theorem dL_law_861 : decode cL_law 861 = .ok (.iaload, 1) := by decide +kernel
theorem dL_law_862 : decode cL_law 862 = .ok (.bipush 8, 2) := by decide +kernel
theorem dL_law_864 : decode cL_law 864 = .ok (.if_icmp .ne 6, 3) := by decide +kernel
theorem dL_law_867 : decode cL_law 867 = .ok (.goto 1119, 3) := by decide +kernel
theorem dL_law_870 : decode cL_law 870 = .ok (.aload 6, 2) := by decide +kernel
theorem dL_law_872 : decode cL_law 872 = .ok (.iconst 3, 1) := by decide +kernel
theorem dL_law_873 : decode cL_law 873 = .ok (.aload 10, 2) := by decide +kernel
theorem dL_law_875 : decode cL_law 875 = .ok (.iconst 2, 1) := by decide +kernel
theorem dL_law_876 : decode cL_law 876 = .ok (.iaload, 1) := by decide +kernel
theorem dL_law_877 : decode cL_law 877 = .ok (.imul, 1) := by decide +kernel
theorem dL_law_878 : decode cL_law 878 = .ok (.iload 13, 2) := by decide +kernel
theorem dL_law_880 : decode cL_law 880 = .ok (.bipush 64, 2) := by decide +kernel
theorem dL_law_882 : decode cL_law 882 = .ok (.invokestatic 152, 3) := by decide +kernel
theorem dL_law_885 : decode cL_law 885 = .ok (.iload 13, 2) := by decide +kernel
theorem dL_law_887 : decode cL_law 887 = .ok (.bipush 6, 2) := by decide +kernel
theorem dL_law_889 : decode cL_law 889 = .ok (.ishr, 1) := by decide +kernel
theorem dL_law_890 : decode cL_law 890 = .ok (.bipush 64, 2) := by decide +kernel
theorem dL_law_892 : decode cL_law 892 = .ok (.invokestatic 152, 3) := by decide +kernel
theorem dL_law_895 : decode cL_law 895 = .ok (.iand, 1) := by decide +kernel
theorem dL_law_896 : decode cL_law 896 = .ok (.iastore, 1) := by decide +kernel
theorem dL_law_897 : decode cL_law 897 = .ok (.aload 6, 2) := by decide +kernel
theorem dL_law_899 : decode cL_law 899 = .ok (.iconst 3, 1) := by decide +kernel
theorem dL_law_900 : decode cL_law 900 = .ok (.aload 10, 2) := by decide +kernel
theorem dL_law_902 : decode cL_law 902 = .ok (.iconst 2, 1) := by decide +kernel
theorem dL_law_903 : decode cL_law 903 = .ok (.iaload, 1) := by decide +kernel
theorem dL_law_904 : decode cL_law 904 = .ok (.imul, 1) := by decide +kernel
theorem dL_law_905 : decode cL_law 905 = .ok (.iconst 1, 1) := by decide +kernel
theorem dL_law_906 : decode cL_law 906 = .ok (.iadd, 1) := by decide +kernel
theorem dL_law_907 : decode cL_law 907 = .ok (.iload 13, 2) := by decide +kernel
theorem dL_law_909 : decode cL_law 909 = .ok (.bipush 12, 2) := by decide +kernel
theorem dL_law_911 : decode cL_law 911 = .ok (.ishr, 1) := by decide +kernel
theorem dL_law_912 : decode cL_law 912 = .ok (.bipush 64, 2) := by decide +kernel
theorem dL_law_914 : decode cL_law 914 = .ok (.invokestatic 152, 3) := by decide +kernel
theorem dL_law_917 : decode cL_law 917 = .ok (.iload 13, 2) := by decide +kernel
theorem dL_law_919 : decode cL_law 919 = .ok (.bipush 15, 2) := by decide +kernel
theorem dL_law_921 : decode cL_law 921 = .ok (.ishr, 1) := by decide +kernel
theorem dL_law_922 : decode cL_law 922 = .ok (.bipush 64, 2) := by decide +kernel
theorem dL_law_924 : decode cL_law 924 = .ok (.invokestatic 152, 3) := by decide +kernel
theorem dL_law_927 : decode cL_law 927 = .ok (.iand, 1) := by decide +kernel
theorem dL_law_928 : decode cL_law 928 = .ok (.iload 13, 2) := by decide +kernel
theorem dL_law_930 : decode cL_law 930 = .ok (.bipush 18, 2) := by decide +kernel
theorem dL_law_932 : decode cL_law 932 = .ok (.ishr, 1) := by decide +kernel
theorem dL_law_933 : decode cL_law 933 = .ok (.bipush 64, 2) := by decide +kernel
theorem dL_law_935 : decode cL_law 935 = .ok (.invokestatic 152, 3) := by decide +kernel
theorem dL_law_938 : decode cL_law 938 = .ok (.iand, 1) := by decide +kernel
theorem dL_law_939 : decode cL_law 939 = .ok (.iastore, 1) := by decide +kernel
theorem dL_law_940 : decode cL_law 940 = .ok (.aload 6, 2) := by decide +kernel
theorem dL_law_942 : decode cL_law 942 = .ok (.iconst 3, 1) := by decide +kernel
theorem dL_law_943 : decode cL_law 943 = .ok (.aload 10, 2) := by decide +kernel
theorem dL_law_945 : decode cL_law 945 = .ok (.iconst 2, 1) := by decide +kernel
theorem dL_law_946 : decode cL_law 946 = .ok (.iaload, 1) := by decide +kernel
theorem dL_law_947 : decode cL_law 947 = .ok (.imul, 1) := by decide +kernel
theorem dL_law_948 : decode cL_law 948 = .ok (.iconst 2, 1) := by decide +kernel
theorem dL_law_949 : decode cL_law 949 = .ok (.iadd, 1) := by decide +kernel
theorem dL_law_950 : decode cL_law 950 = .ok (.iload 13, 2) := by decide +kernel
theorem dL_law_952 : decode cL_law 952 = .ok (.bipush 21, 2) := by decide +kernel
theorem dL_law_954 : decode cL_law 954 = .ok (.ishr, 1) := by decide +kernel
theorem dL_law_955 : decode cL_law 955 = .ok (.iconst 2, 1) := by decide +kernel
theorem dL_law_956 : decode cL_law 956 = .ok (.invokestatic 152, 3) := by decide +kernel
theorem dL_law_959 : decode cL_law 959 = .ok (.ifCond .ne 7, 3) := by decide +kernel
theorem dL_law_962 : decode cL_law 962 = .ok (.iconst 0, 1) := by decide +kernel
theorem dL_law_963 : decode cL_law 963 = .ok (.goto 13, 3) := by decide +kernel
theorem dL_law_966 : decode cL_law 966 = .ok (.iload 13, 2) := by decide +kernel
theorem dL_law_968 : decode cL_law 968 = .ok (.bipush 22, 2) := by decide +kernel
theorem dL_law_970 : decode cL_law 970 = .ok (.ishr, 1) := by decide +kernel
theorem dL_law_971 : decode cL_law 971 = .ok (.bipush 64, 2) := by decide +kernel
theorem dL_law_973 : decode cL_law 973 = .ok (.invokestatic 152, 3) := by decide +kernel
theorem dL_law_976 : decode cL_law 976 = .ok (.iastore, 1) := by decide +kernel
theorem dL_law_977 : decode cL_law 977 = .ok (.aload 10, 2) := by decide +kernel
theorem dL_law_979 : decode cL_law 979 = .ok (.iconst 2, 1) := by decide +kernel
theorem dL_law_980 : decode cL_law 980 = .ok (.dup2, 1) := by decide +kernel
theorem dL_law_981 : decode cL_law 981 = .ok (.iaload, 1) := by decide +kernel
theorem dL_law_982 : decode cL_law 982 = .ok (.iconst 1, 1) := by decide +kernel
theorem dL_law_983 : decode cL_law 983 = .ok (.iadd, 1) := by decide +kernel
theorem dL_law_984 : decode cL_law 984 = .ok (.iastore, 1) := by decide +kernel
theorem dL_law_985 : decode cL_law 985 = .ok (.aload_n 1, 1) := by decide +kernel
theorem dL_law_986 : decode cL_law 986 = .ok (.aload 6, 2) := by decide +kernel
theorem dL_law_988 : decode cL_law 988 = .ok (.iconst 3, 1) := by decide +kernel
theorem dL_law_989 : decode cL_law 989 = .ok (.aload 10, 2) := by decide +kernel
theorem dL_law_991 : decode cL_law 991 = .ok (.iconst 2, 1) := by decide +kernel
theorem dL_law_992 : decode cL_law 992 = .ok (.iaload, 1) := by decide +kernel
theorem dL_law_993 : decode cL_law 993 = .ok (.imul, 1) := by decide +kernel
theorem dL_law_994 : decode cL_law 994 = .ok (.iconst 3, 1) := by decide +kernel
theorem dL_law_995 : decode cL_law 995 = .ok (.isub, 1) := by decide +kernel
theorem dL_law_996 : decode cL_law 996 = .ok (.iaload, 1) := by decide +kernel
theorem dL_law_997 : decode cL_law 997 = .ok (.aload 6, 2) := by decide +kernel
theorem dL_law_999 : decode cL_law 999 = .ok (.iconst 3, 1) := by decide +kernel
theorem dL_law_1000 : decode cL_law 1000 = .ok (.aload 10, 2) := by decide +kernel
theorem dL_law_1002 : decode cL_law 1002 = .ok (.iconst 2, 1) := by decide +kernel
theorem dL_law_1003 : decode cL_law 1003 = .ok (.iaload, 1) := by decide +kernel
theorem dL_law_1004 : decode cL_law 1004 = .ok (.imul, 1) := by decide +kernel
theorem dL_law_1005 : decode cL_law 1005 = .ok (.iconst 2, 1) := by decide +kernel
theorem dL_law_1006 : decode cL_law 1006 = .ok (.isub, 1) := by decide +kernel
theorem dL_law_1007 : decode cL_law 1007 = .ok (.iaload, 1) := by decide +kernel
theorem dL_law_1008 : decode cL_law 1008 = .ok (.aload 6, 2) := by decide +kernel
theorem dL_law_1010 : decode cL_law 1010 = .ok (.iconst 3, 1) := by decide +kernel
theorem dL_law_1011 : decode cL_law 1011 = .ok (.aload 10, 2) := by decide +kernel
theorem dL_law_1013 : decode cL_law 1013 = .ok (.iconst 2, 1) := by decide +kernel
theorem dL_law_1014 : decode cL_law 1014 = .ok (.iaload, 1) := by decide +kernel
theorem dL_law_1015 : decode cL_law 1015 = .ok (.imul, 1) := by decide +kernel
theorem dL_law_1016 : decode cL_law 1016 = .ok (.iconst 1, 1) := by decide +kernel
