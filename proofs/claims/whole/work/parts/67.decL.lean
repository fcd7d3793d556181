theorem dk_L_law_726 : decode code 726 = .ok (.aload_n 0, 1) := by decide +kernel
theorem dk_L_law_727 : decode code 727 = .ok (.iload_n 3, 1) := by decide +kernel
theorem dk_L_law_728 : decode code 728 = .ok (.iconst 2, 1) := by decide +kernel
theorem dk_L_law_729 : decode code 729 = .ok (.iadd, 1) := by decide +kernel
theorem dk_L_law_730 : decode code 730 = .ok (.iaload, 1) := by decide +kernel
theorem dk_L_law_731 : decode code 731 = .ok (.invokevirtual 93, 3) := by decide +kernel
theorem dk_L_law_734 : decode code 734 = .ok (.aload_n 2, 1) := by decide +kernel
theorem dk_L_law_735 : decode code 735 = .ok (.aload_n 0, 1) := by decide +kernel
theorem dk_L_law_736 : decode code 736 = .ok (.iload_n 3, 1) := by decide +kernel
theorem dk_L_law_737 : decode code 737 = .ok (.iconst 1, 1) := by decide +kernel
theorem dk_L_law_738 : decode code 738 = .ok (.iadd, 1) := by decide +kernel
theorem dk_L_law_739 : decode code 739 = .ok (.iaload, 1) := by decide +kernel
theorem dk_L_law_740 : decode code 740 = .ok (.aload_n 0, 1) := by decide +kernel
theorem dk_L_law_741 : decode code 741 = .ok (.iload_n 3, 1) := by decide +kernel
theorem dk_L_law_742 : decode code 742 = .ok (.iconst 2, 1) := by decide +kernel
theorem dk_L_law_743 : decode code 743 = .ok (.iadd, 1) := by decide +kernel
theorem dk_L_law_744 : decode code 744 = .ok (.iaload, 1) := by decide +kernel
theorem dk_L_law_745 : decode code 745 = .ok (.invokevirtual 96, 3) := by decide +kernel
theorem dk_L_law_748 : decode code 748 = .ok (.if_icmp .eq 170, 3) := by decide +kernel
theorem dk_L_law_751 : decode code 751 = .ok (.iconst 0, 1) := by decide +kernel
theorem dk_L_law_752 : decode code 752 = .ok (.ireturn, 1) := by decide +kernel
theorem dk_L_law_753 : decode code 753 = .ok (.aload_n 1, 1) := by decide +kernel
theorem dk_L_law_754 : decode code 754 = .ok (.aload_n 0, 1) := by decide +kernel
theorem dk_L_law_755 : decode code 755 = .ok (.iload_n 3, 1) := by decide +kernel
theorem dk_L_law_756 : decode code 756 = .ok (.iconst 1, 1) := by decide +kernel
theorem dk_L_law_757 : decode code 757 = .ok (.iadd, 1) := by decide +kernel
theorem dk_L_law_758 : decode code 758 = .ok (.iaload, 1) := by decide +kernel
theorem dk_L_law_759 : decode code 759 = .ok (.aload_n 0, 1) := by decide +kernel
theorem dk_L_law_760 : decode code 760 = .ok (.iload_n 3, 1) := by decide +kernel
theorem dk_L_law_761 : decode code 761 = .ok (.iconst 2, 1) := by decide +kernel
theorem dk_L_law_762 : decode code 762 = .ok (.iadd, 1) := by decide +kernel
theorem dk_L_law_763 : decode code 763 = .ok (.iaload, 1) := by decide +kernel
theorem dk_L_law_764 : decode code 764 = .ok (.aload_n 0, 1) := by decide +kernel
theorem dk_L_law_765 : decode code 765 = .ok (.iload_n 3, 1) := by decide +kernel
theorem dk_L_law_766 : decode code 766 = .ok (.iconst 3, 1) := by decide +kernel
theorem dk_L_law_767 : decode code 767 = .ok (.iadd, 1) := by decide +kernel
theorem dk_L_law_768 : decode code 768 = .ok (.iaload, 1) := by decide +kernel
theorem dk_L_law_769 : decode code 769 = .ok (.invokevirtual 97, 3) := by decide +kernel
theorem dk_L_law_772 : decode code 772 = .ok (.aload_n 2, 1) := by decide +kernel
theorem dk_L_law_773 : decode code 773 = .ok (.aload_n 0, 1) := by decide +kernel
theorem dk_L_law_774 : decode code 774 = .ok (.iload_n 3, 1) := by decide +kernel
theorem dk_L_law_775 : decode code 775 = .ok (.iconst 1, 1) := by decide +kernel
theorem dk_L_law_776 : decode code 776 = .ok (.iadd, 1) := by decide +kernel
theorem dk_L_law_777 : decode code 777 = .ok (.iaload, 1) := by decide +kernel
theorem dk_L_law_778 : decode code 778 = .ok (.aload_n 0, 1) := by decide +kernel
theorem dk_L_law_779 : decode code 779 = .ok (.iload_n 3, 1) := by decide +kernel
theorem dk_L_law_780 : decode code 780 = .ok (.iconst 2, 1) := by decide +kernel
theorem dk_L_law_781 : decode code 781 = .ok (.iadd, 1) := by decide +kernel
theorem dk_L_law_782 : decode code 782 = .ok (.iaload, 1) := by decide +kernel
theorem dk_L_law_783 : decode code 783 = .ok (.aload_n 0, 1) := by decide +kernel
theorem dk_L_law_784 : decode code 784 = .ok (.iload_n 3, 1) := by decide +kernel
theorem dk_L_law_785 : decode code 785 = .ok (.iconst 3, 1) := by decide +kernel
theorem dk_L_law_786 : decode code 786 = .ok (.iadd, 1) := by decide +kernel
theorem dk_L_law_787 : decode code 787 = .ok (.iaload, 1) := by decide +kernel
theorem dk_L_law_788 : decode code 788 = .ok (.invokevirtual 100, 3) := by decide +kernel
theorem dk_L_law_791 : decode code 791 = .ok (.if_icmp .eq 127, 3) := by decide +kernel
theorem dk_L_law_794 : decode code 794 = .ok (.iconst 0, 1) := by decide +kernel
theorem dk_L_law_795 : decode code 795 = .ok (.ireturn, 1) := by decide +kernel
theorem dk_L_law_796 : decode code 796 = .ok (.aload_n 1, 1) := by decide +kernel
theorem dk_L_law_797 : decode code 797 = .ok (.aload_n 0, 1) := by decide +kernel
theorem dk_L_law_798 : decode code 798 = .ok (.iload_n 3, 1) := by decide +kernel
theorem dk_L_law_799 : decode code 799 = .ok (.iconst 1, 1) := by decide +kernel
theorem dk_L_law_800 : decode code 800 = .ok (.iadd, 1) := by decide +kernel
theorem dk_L_law_801 : decode code 801 = .ok (.iaload, 1) := by decide +kernel
theorem dk_L_law_802 : decode code 802 = .ok (.invokevirtual 101, 3) := by decide +kernel
theorem dk_L_law_805 : decode code 805 = .ok (.aload_n 2, 1) := by decide +kernel
theorem dk_L_law_806 : decode code 806 = .ok (.aload_n 0, 1) := by decide +kernel
theorem dk_L_law_807 : decode code 807 = .ok (.iload_n 3, 1) := by decide +kernel
theorem dk_L_law_808 : decode code 808 = .ok (.iconst 1, 1) := by decide +kernel
theorem dk_L_law_809 : decode code 809 = .ok (.iadd, 1) := by decide +kernel
theorem dk_L_law_810 : decode code 810 = .ok (.iaload, 1) := by decide +kernel
theorem dk_L_law_811 : decode code 811 = .ok (.invokevirtual 104, 3) := by decide +kernel
theorem dk_L_law_814 : decode code 814 = .ok (.if_icmp .eq 104, 3) := by decide +kernel
theorem dk_L_law_817 : decode code 817 = .ok (.iconst 0, 1) := by decide +kernel
theorem dk_L_law_818 : decode code 818 = .ok (.ireturn, 1) := by decide +kernel
theorem dk_L_law_819 : decode code 819 = .ok (.aload_n 1, 1) := by decide +kernel
theorem dk_L_law_820 : decode code 820 = .ok (.aload_n 0, 1) := by decide +kernel
theorem dk_L_law_821 : decode code 821 = .ok (.iload_n 3, 1) := by decide +kernel
theorem dk_L_law_822 : decode code 822 = .ok (.iconst 1, 1) := by decide +kernel
theorem dk_L_law_823 : decode code 823 = .ok (.iadd, 1) := by decide +kernel
