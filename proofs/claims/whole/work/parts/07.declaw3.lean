theorem d_L_law_645 : decode b_L_law 645 = .ok (.iload 5, 2) := by decide +kernel
theorem d_L_law_647 : decode b_L_law 647 = .ok (.ifCond .ne 15, 3) := by decide +kernel
theorem d_L_law_650 : decode b_L_law 650 = .ok (.aload_n 3, 1) := by decide +kernel
theorem d_L_law_651 : decode b_L_law 651 = .ok (.iconst 0, 1) := by decide +kernel
theorem d_L_law_652 : decode b_L_law 652 = .ok (.laload, 1) := by decide +kernel
theorem d_L_law_653 : decode b_L_law 653 = .ok (.iload 6, 2) := by decide +kernel
theorem d_L_law_655 : decode b_L_law 655 = .ok (.i2l, 1) := by decide +kernel
theorem d_L_law_656 : decode b_L_law 656 = .ok (.lcmp, 1) := by decide +kernel
theorem d_L_law_657 : decode b_L_law 657 = .ok (.ifCond .eq 5, 3) := by decide +kernel
theorem d_L_law_660 : decode b_L_law 660 = .ok (.iconst 0, 1) := by decide +kernel
theorem d_L_law_661 : decode b_L_law 661 = .ok (.ireturn, 1) := by decide +kernel
theorem d_L_law_662 : decode b_L_law 662 = .ok (.goto 162, 3) := by decide +kernel
theorem d_L_law_665 : decode b_L_law 665 = .ok (.aload_n 1, 1) := by decide +kernel
theorem d_L_law_666 : decode b_L_law 666 = .ok (.invokevirtual 107, 3) := by decide +kernel
theorem d_L_law_669 : decode b_L_law 669 = .ok (.aload_n 2, 1) := by decide +kernel
theorem d_L_law_670 : decode b_L_law 670 = .ok (.invokevirtual 110, 3) := by decide +kernel
theorem d_L_law_673 : decode b_L_law 673 = .ok (.if_icmp .eq 151, 3) := by decide +kernel
theorem d_L_law_676 : decode b_L_law 676 = .ok (.iconst 0, 1) := by decide +kernel
theorem d_L_law_677 : decode b_L_law 677 = .ok (.ireturn, 1) := by decide +kernel
theorem d_L_law_678 : decode b_L_law 678 = .ok (.aload_n 1, 1) := by decide +kernel
theorem d_L_law_679 : decode b_L_law 679 = .ok (.invokevirtual 111, 3) := by decide +kernel
theorem d_L_law_682 : decode b_L_law 682 = .ok (.aload_n 2, 1) := by decide +kernel
theorem d_L_law_683 : decode b_L_law 683 = .ok (.invokevirtual 114, 3) := by decide +kernel
theorem d_L_law_686 : decode b_L_law 686 = .ok (.if_icmp .eq 138, 3) := by decide +kernel
theorem d_L_law_689 : decode b_L_law 689 = .ok (.iconst 0, 1) := by decide +kernel
theorem d_L_law_690 : decode b_L_law 690 = .ok (.ireturn, 1) := by decide +kernel
theorem d_L_law_691 : decode b_L_law 691 = .ok (.aload_n 1, 1) := by decide +kernel
theorem d_L_law_692 : decode b_L_law 692 = .ok (.invokevirtual 115, 3) := by decide +kernel
theorem d_L_law_695 : decode b_L_law 695 = .ok (.aload_n 2, 1) := by decide +kernel
theorem d_L_law_696 : decode b_L_law 696 = .ok (.invokevirtual 119, 3) := by decide +kernel
theorem d_L_law_699 : decode b_L_law 699 = .ok (.lcmp, 1) := by decide +kernel
theorem d_L_law_700 : decode b_L_law 700 = .ok (.ifCond .eq 124, 3) := by decide +kernel
theorem d_L_law_703 : decode b_L_law 703 = .ok (.iconst 0, 1) := by decide +kernel
theorem d_L_law_704 : decode b_L_law 704 = .ok (.ireturn, 1) := by decide +kernel
theorem d_L_law_705 : decode b_L_law 705 = .ok (.aload_n 1, 1) := by decide +kernel
theorem d_L_law_706 : decode b_L_law 706 = .ok (.aload_n 0, 1) := by decide +kernel
theorem d_L_law_707 : decode b_L_law 707 = .ok (.iload 4, 2) := by decide +kernel
theorem d_L_law_709 : decode b_L_law 709 = .ok (.iconst 1, 1) := by decide +kernel
theorem d_L_law_710 : decode b_L_law 710 = .ok (.iadd, 1) := by decide +kernel
theorem d_L_law_711 : decode b_L_law 711 = .ok (.iaload, 1) := by decide +kernel
theorem d_L_law_712 : decode b_L_law 712 = .ok (.invokevirtual 120, 3) := by decide +kernel
theorem d_L_law_715 : decode b_L_law 715 = .ok (.aload_n 2, 1) := by decide +kernel
theorem d_L_law_716 : decode b_L_law 716 = .ok (.aload_n 0, 1) := by decide +kernel
theorem d_L_law_717 : decode b_L_law 717 = .ok (.iload 4, 2) := by decide +kernel
theorem d_L_law_719 : decode b_L_law 719 = .ok (.iconst 1, 1) := by decide +kernel
theorem d_L_law_720 : decode b_L_law 720 = .ok (.iadd, 1) := by decide +kernel
theorem d_L_law_721 : decode b_L_law 721 = .ok (.iaload, 1) := by decide +kernel
theorem d_L_law_722 : decode b_L_law 722 = .ok (.invokevirtual 123, 3) := by decide +kernel
theorem d_L_law_725 : decode b_L_law 725 = .ok (.if_icmp .eq 99, 3) := by decide +kernel
theorem d_L_law_728 : decode b_L_law 728 = .ok (.iconst 0, 1) := by decide +kernel
theorem d_L_law_729 : decode b_L_law 729 = .ok (.ireturn, 1) := by decide +kernel
theorem d_L_law_730 : decode b_L_law 730 = .ok (.aload_n 1, 1) := by decide +kernel
theorem d_L_law_731 : decode b_L_law 731 = .ok (.aload_n 0, 1) := by decide +kernel
theorem d_L_law_732 : decode b_L_law 732 = .ok (.iload 4, 2) := by decide +kernel
theorem d_L_law_734 : decode b_L_law 734 = .ok (.iconst 1, 1) := by decide +kernel
theorem d_L_law_735 : decode b_L_law 735 = .ok (.iadd, 1) := by decide +kernel
theorem d_L_law_736 : decode b_L_law 736 = .ok (.iaload, 1) := by decide +kernel
theorem d_L_law_737 : decode b_L_law 737 = .ok (.aload_n 0, 1) := by decide +kernel
theorem d_L_law_738 : decode b_L_law 738 = .ok (.iload 4, 2) := by decide +kernel
theorem d_L_law_740 : decode b_L_law 740 = .ok (.iconst 2, 1) := by decide +kernel
theorem d_L_law_741 : decode b_L_law 741 = .ok (.iadd, 1) := by decide +kernel
theorem d_L_law_742 : decode b_L_law 742 = .ok (.iaload, 1) := by decide +kernel
theorem d_L_law_743 : decode b_L_law 743 = .ok (.aload_n 3, 1) := by decide +kernel
theorem d_L_law_744 : decode b_L_law 744 = .ok (.invokestatic 124, 3) := by decide +kernel
theorem d_L_law_747 : decode b_L_law 747 = .ok (.istore 5, 2) := by decide +kernel
theorem d_L_law_749 : decode b_L_law 749 = .ok (.aload_n 2, 1) := by decide +kernel
theorem d_L_law_750 : decode b_L_law 750 = .ok (.aload_n 0, 1) := by decide +kernel
theorem d_L_law_751 : decode b_L_law 751 = .ok (.iload 4, 2) := by decide +kernel
theorem d_L_law_753 : decode b_L_law 753 = .ok (.iconst 1, 1) := by decide +kernel
theorem d_L_law_754 : decode b_L_law 754 = .ok (.iadd, 1) := by decide +kernel
theorem d_L_law_755 : decode b_L_law 755 = .ok (.iaload, 1) := by decide +kernel
theorem d_L_law_756 : decode b_L_law 756 = .ok (.aload_n 0, 1) := by decide +kernel
theorem d_L_law_757 : decode b_L_law 757 = .ok (.iload 4, 2) := by decide +kernel
theorem d_L_law_759 : decode b_L_law 759 = .ok (.iconst 2, 1) := by decide +kernel
theorem d_L_law_760 : decode b_L_law 760 = .ok (.iadd, 1) := by decide +kernel
theorem d_L_law_761 : decode b_L_law 761 = .ok (.iaload, 1) := by decide +kernel
theorem d_L_law_762 : decode b_L_law 762 = .ok (.invokevirtual 127, 3) := by decide +kernel
theorem d_L_law_765 : decode b_L_law 765 = .ok (.istore 6, 2) := by decide +kernel
theorem d_L_law_767 : decode b_L_law 767 = .ok (.aload_n 2, 1) := by decide +kernel
theorem d_L_law_768 : decode b_L_law 768 = .ok (.invokevirtual 55, 3) := by decide +kernel
theorem d_L_law_771 : decode b_L_law 771 = .ok (.iload 5, 2) := by decide +kernel
theorem d_L_law_773 : decode b_L_law 773 = .ok (.if_icmp .eq 5, 3) := by decide +kernel
theorem d_L_law_776 : decode b_L_law 776 = .ok (.iconst 0, 1) := by decide +kernel
theorem d_L_law_777 : decode b_L_law 777 = .ok (.ireturn, 1) := by decide +kernel
theorem d_L_law_778 : decode b_L_law 778 = .ok (.iload 5, 2) := by decide +kernel
theorem d_L_law_780 : decode b_L_law 780 = .ok (.ifCond .ne 15, 3) := by decide +kernel
theorem d_L_law_783 : decode b_L_law 783 = .ok (.aload_n 3, 1) := by decide +kernel
theorem d_L_law_784 : decode b_L_law 784 = .ok (.iconst 0, 1) := by decide +kernel
theorem d_L_law_785 : decode b_L_law 785 = .ok (.laload, 1) := by decide +kernel
theorem d_L_law_786 : decode b_L_law 786 = .ok (.iload 6, 2) := by decide +kernel
theorem d_L_law_788 : decode b_L_law 788 = .ok (.i2l, 1) := by decide +kernel
theorem d_L_law_789 : decode b_L_law 789 = .ok (.lcmp, 1) := by decide +kernel
theorem d_L_law_790 : decode b_L_law 790 = .ok (.ifCond .eq 5, 3) := by decide +kernel
theorem d_L_law_793 : decode b_L_law 793 = .ok (.iconst 0, 1) := by decide +kernel
theorem d_L_law_794 : decode b_L_law 794 = .ok (.ireturn, 1) := by decide +kernel
theorem d_L_law_795 : decode b_L_law 795 = .ok (.goto 29, 3) := by decide +kernel
theorem d_L_law_798 : decode b_L_law 798 = .ok (.aload_n 1, 1) := by decide +kernel
theorem d_L_law_799 : decode b_L_law 799 = .ok (.aload_n 0, 1) := by decide +kernel
theorem d_L_law_800 : decode b_L_law 800 = .ok (.iload 4, 2) := by decide +kernel
theorem d_L_law_802 : decode b_L_law 802 = .ok (.iconst 1, 1) := by decide +kernel
theorem d_L_law_803 : decode b_L_law 803 = .ok (.iadd, 1) := by decide +kernel
theorem d_L_law_804 : decode b_L_law 804 = .ok (.iaload, 1) := by decide +kernel
theorem d_L_law_805 : decode b_L_law 805 = .ok (.invokevirtual 128, 3) := by decide +kernel
theorem d_L_law_808 : decode b_L_law 808 = .ok (.aload_n 2, 1) := by decide +kernel
theorem d_L_law_809 : decode b_L_law 809 = .ok (.aload_n 0, 1) := by decide +kernel
theorem d_L_law_810 : decode b_L_law 810 = .ok (.iload 4, 2) := by decide +kernel
theorem d_L_law_812 : decode b_L_law 812 = .ok (.iconst 1, 1) := by decide +kernel
theorem d_L_law_813 : decode b_L_law 813 = .ok (.iadd, 1) := by decide +kernel
theorem d_L_law_814 : decode b_L_law 814 = .ok (.iaload, 1) := by decide +kernel
theorem d_L_law_815 : decode b_L_law 815 = .ok (.invokevirtual 132, 3) := by decide +kernel
theorem d_L_law_818 : decode b_L_law 818 = .ok (.lcmp, 1) := by decide +kernel
theorem d_L_law_819 : decode b_L_law 819 = .ok (.ifCond .eq 5, 3) := by decide +kernel
theorem d_L_law_822 : decode b_L_law 822 = .ok (.iconst 0, 1) := by decide +kernel
theorem d_L_law_823 : decode b_L_law 823 = .ok (.ireturn, 1) := by decide +kernel
theorem d_L_law_824 : decode b_L_law 824 = .ok (.iinc 4 4, 3) := by decide +kernel
theorem d_L_law_827 : decode b_L_law 827 = .ok (.goto (-804), 3) := by decide +kernel
theorem d_L_law_830 : decode b_L_law 830 = .ok (.iconst 1, 1) := by decide +kernel
theorem d_L_law_831 : decode b_L_law 831 = .ok (.ireturn, 1) := by decide +kernel
