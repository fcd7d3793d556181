theorem dk_L_law_626 : decode code 626 = .ok (.if_icmp .eq 292, 3) := by decide +kernel
theorem dk_L_law_629 : decode code 629 = .ok (.iconst 0, 1) := by decide +kernel
theorem dk_L_law_630 : decode code 630 = .ok (.ireturn, 1) := by decide +kernel
theorem dk_L_law_631 : decode code 631 = .ok (.aload_n 1, 1) := by decide +kernel
theorem dk_L_law_632 : decode code 632 = .ok (.aload_n 0, 1) := by decide +kernel
theorem dk_L_law_633 : decode code 633 = .ok (.iload_n 3, 1) := by decide +kernel
theorem dk_L_law_634 : decode code 634 = .ok (.iconst 1, 1) := by decide +kernel
theorem dk_L_law_635 : decode code 635 = .ok (.iadd, 1) := by decide +kernel
theorem dk_L_law_636 : decode code 636 = .ok (.iaload, 1) := by decide +kernel
theorem dk_L_law_637 : decode code 637 = .ok (.aload_n 0, 1) := by decide +kernel
theorem dk_L_law_638 : decode code 638 = .ok (.iload_n 3, 1) := by decide +kernel
theorem dk_L_law_639 : decode code 639 = .ok (.iconst 2, 1) := by decide +kernel
theorem dk_L_law_640 : decode code 640 = .ok (.iadd, 1) := by decide +kernel
theorem dk_L_law_641 : decode code 641 = .ok (.iaload, 1) := by decide +kernel
theorem dk_L_law_642 : decode code 642 = .ok (.invokevirtual 81, 3) := by decide +kernel
theorem dk_L_law_645 : decode code 645 = .ok (.aload_n 2, 1) := by decide +kernel
theorem dk_L_law_646 : decode code 646 = .ok (.aload_n 0, 1) := by decide +kernel
theorem dk_L_law_647 : decode code 647 = .ok (.iload_n 3, 1) := by decide +kernel
theorem dk_L_law_648 : decode code 648 = .ok (.iconst 1, 1) := by decide +kernel
theorem dk_L_law_649 : decode code 649 = .ok (.iadd, 1) := by decide +kernel
theorem dk_L_law_650 : decode code 650 = .ok (.iaload, 1) := by decide +kernel
theorem dk_L_law_651 : decode code 651 = .ok (.aload_n 0, 1) := by decide +kernel
theorem dk_L_law_652 : decode code 652 = .ok (.iload_n 3, 1) := by decide +kernel
theorem dk_L_law_653 : decode code 653 = .ok (.iconst 2, 1) := by decide +kernel
theorem dk_L_law_654 : decode code 654 = .ok (.iadd, 1) := by decide +kernel
theorem dk_L_law_655 : decode code 655 = .ok (.iaload, 1) := by decide +kernel
theorem dk_L_law_656 : decode code 656 = .ok (.invokevirtual 84, 3) := by decide +kernel
theorem dk_L_law_659 : decode code 659 = .ok (.if_icmp .eq 259, 3) := by decide +kernel
theorem dk_L_law_662 : decode code 662 = .ok (.iconst 0, 1) := by decide +kernel
theorem dk_L_law_663 : decode code 663 = .ok (.ireturn, 1) := by decide +kernel
theorem dk_L_law_664 : decode code 664 = .ok (.aload_n 1, 1) := by decide +kernel
theorem dk_L_law_665 : decode code 665 = .ok (.aload_n 0, 1) := by decide +kernel
theorem dk_L_law_666 : decode code 666 = .ok (.iload_n 3, 1) := by decide +kernel
theorem dk_L_law_667 : decode code 667 = .ok (.iconst 1, 1) := by decide +kernel
theorem dk_L_law_668 : decode code 668 = .ok (.iadd, 1) := by decide +kernel
theorem dk_L_law_669 : decode code 669 = .ok (.iaload, 1) := by decide +kernel
theorem dk_L_law_670 : decode code 670 = .ok (.aload_n 0, 1) := by decide +kernel
theorem dk_L_law_671 : decode code 671 = .ok (.iload_n 3, 1) := by decide +kernel
theorem dk_L_law_672 : decode code 672 = .ok (.iconst 2, 1) := by decide +kernel
theorem dk_L_law_673 : decode code 673 = .ok (.iadd, 1) := by decide +kernel
theorem dk_L_law_674 : decode code 674 = .ok (.iaload, 1) := by decide +kernel
theorem dk_L_law_675 : decode code 675 = .ok (.invokevirtual 85, 3) := by decide +kernel
theorem dk_L_law_678 : decode code 678 = .ok (.aload_n 2, 1) := by decide +kernel
theorem dk_L_law_679 : decode code 679 = .ok (.aload_n 0, 1) := by decide +kernel
theorem dk_L_law_680 : decode code 680 = .ok (.iload_n 3, 1) := by decide +kernel
theorem dk_L_law_681 : decode code 681 = .ok (.iconst 1, 1) := by decide +kernel
theorem dk_L_law_682 : decode code 682 = .ok (.iadd, 1) := by decide +kernel
theorem dk_L_law_683 : decode code 683 = .ok (.iaload, 1) := by decide +kernel
theorem dk_L_law_684 : decode code 684 = .ok (.aload_n 0, 1) := by decide +kernel
theorem dk_L_law_685 : decode code 685 = .ok (.iload_n 3, 1) := by decide +kernel
theorem dk_L_law_686 : decode code 686 = .ok (.iconst 2, 1) := by decide +kernel
theorem dk_L_law_687 : decode code 687 = .ok (.iadd, 1) := by decide +kernel
theorem dk_L_law_688 : decode code 688 = .ok (.iaload, 1) := by decide +kernel
theorem dk_L_law_689 : decode code 689 = .ok (.invokevirtual 88, 3) := by decide +kernel
theorem dk_L_law_692 : decode code 692 = .ok (.if_icmp .eq 226, 3) := by decide +kernel
theorem dk_L_law_695 : decode code 695 = .ok (.iconst 0, 1) := by decide +kernel
theorem dk_L_law_696 : decode code 696 = .ok (.ireturn, 1) := by decide +kernel
theorem dk_L_law_697 : decode code 697 = .ok (.aload_n 1, 1) := by decide +kernel
theorem dk_L_law_698 : decode code 698 = .ok (.aload_n 0, 1) := by decide +kernel
theorem dk_L_law_699 : decode code 699 = .ok (.iload_n 3, 1) := by decide +kernel
theorem dk_L_law_700 : decode code 700 = .ok (.iconst 1, 1) := by decide +kernel
theorem dk_L_law_701 : decode code 701 = .ok (.iadd, 1) := by decide +kernel
theorem dk_L_law_702 : decode code 702 = .ok (.iaload, 1) := by decide +kernel
theorem dk_L_law_703 : decode code 703 = .ok (.invokevirtual 89, 3) := by decide +kernel
theorem dk_L_law_706 : decode code 706 = .ok (.aload_n 2, 1) := by decide +kernel
theorem dk_L_law_707 : decode code 707 = .ok (.aload_n 0, 1) := by decide +kernel
theorem dk_L_law_708 : decode code 708 = .ok (.iload_n 3, 1) := by decide +kernel
theorem dk_L_law_709 : decode code 709 = .ok (.iconst 1, 1) := by decide +kernel
theorem dk_L_law_710 : decode code 710 = .ok (.iadd, 1) := by decide +kernel
theorem dk_L_law_711 : decode code 711 = .ok (.iaload, 1) := by decide +kernel
theorem dk_L_law_712 : decode code 712 = .ok (.invokevirtual 92, 3) := by decide +kernel
theorem dk_L_law_715 : decode code 715 = .ok (.if_icmp .eq 203, 3) := by decide +kernel
theorem dk_L_law_718 : decode code 718 = .ok (.iconst 0, 1) := by decide +kernel
theorem dk_L_law_719 : decode code 719 = .ok (.ireturn, 1) := by decide +kernel
theorem dk_L_law_720 : decode code 720 = .ok (.aload_n 1, 1) := by decide +kernel
theorem dk_L_law_721 : decode code 721 = .ok (.aload_n 0, 1) := by decide +kernel
theorem dk_L_law_722 : decode code 722 = .ok (.iload_n 3, 1) := by decide +kernel
theorem dk_L_law_723 : decode code 723 = .ok (.iconst 1, 1) := by decide +kernel
theorem dk_L_law_724 : decode code 724 = .ok (.iadd, 1) := by decide +kernel
theorem dk_L_law_725 : decode code 725 = .ok (.iaload, 1) := by decide +kernel
