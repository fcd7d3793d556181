theorem dk_L_law_824 : decode code 824 = .ok (.iaload, 1) := by decide +kernel
theorem dk_L_law_825 : decode code 825 = .ok (.aload_n 0, 1) := by decide +kernel
theorem dk_L_law_826 : decode code 826 = .ok (.iload_n 3, 1) := by decide +kernel
theorem dk_L_law_827 : decode code 827 = .ok (.iconst 2, 1) := by decide +kernel
theorem dk_L_law_828 : decode code 828 = .ok (.iadd, 1) := by decide +kernel
theorem dk_L_law_829 : decode code 829 = .ok (.iaload, 1) := by decide +kernel
theorem dk_L_law_830 : decode code 830 = .ok (.invokevirtual 105, 3) := by decide +kernel
theorem dk_L_law_833 : decode code 833 = .ok (.aload_n 2, 1) := by decide +kernel
theorem dk_L_law_834 : decode code 834 = .ok (.aload_n 0, 1) := by decide +kernel
theorem dk_L_law_835 : decode code 835 = .ok (.iload_n 3, 1) := by decide +kernel
theorem dk_L_law_836 : decode code 836 = .ok (.iconst 1, 1) := by decide +kernel
theorem dk_L_law_837 : decode code 837 = .ok (.iadd, 1) := by decide +kernel
theorem dk_L_law_838 : decode code 838 = .ok (.iaload, 1) := by decide +kernel
theorem dk_L_law_839 : decode code 839 = .ok (.aload_n 0, 1) := by decide +kernel
theorem dk_L_law_840 : decode code 840 = .ok (.iload_n 3, 1) := by decide +kernel
theorem dk_L_law_841 : decode code 841 = .ok (.iconst 2, 1) := by decide +kernel
theorem dk_L_law_842 : decode code 842 = .ok (.iadd, 1) := by decide +kernel
theorem dk_L_law_843 : decode code 843 = .ok (.iaload, 1) := by decide +kernel
theorem dk_L_law_844 : decode code 844 = .ok (.invokevirtual 108, 3) := by decide +kernel
theorem dk_L_law_847 : decode code 847 = .ok (.if_icmp .eq 71, 3) := by decide +kernel
theorem dk_L_law_850 : decode code 850 = .ok (.iconst 0, 1) := by decide +kernel
theorem dk_L_law_851 : decode code 851 = .ok (.ireturn, 1) := by decide +kernel
theorem dk_L_law_852 : decode code 852 = .ok (.aload_n 1, 1) := by decide +kernel
theorem dk_L_law_853 : decode code 853 = .ok (.aload_n 0, 1) := by decide +kernel
theorem dk_L_law_854 : decode code 854 = .ok (.iload_n 3, 1) := by decide +kernel
theorem dk_L_law_855 : decode code 855 = .ok (.iconst 1, 1) := by decide +kernel
theorem dk_L_law_856 : decode code 856 = .ok (.iadd, 1) := by decide +kernel
theorem dk_L_law_857 : decode code 857 = .ok (.iaload, 1) := by decide +kernel
theorem dk_L_law_858 : decode code 858 = .ok (.aload_n 0, 1) := by decide +kernel
theorem dk_L_law_859 : decode code 859 = .ok (.iload_n 3, 1) := by decide +kernel
theorem dk_L_law_860 : decode code 860 = .ok (.iconst 2, 1) := by decide +kernel
theorem dk_L_law_861 : decode code 861 = .ok (.iadd, 1) := by decide +kernel
theorem dk_L_law_862 : decode code 862 = .ok (.iaload, 1) := by decide +kernel
theorem dk_L_law_863 : decode code 863 = .ok (.invokevirtual 109, 3) := by decide +kernel
theorem dk_L_law_866 : decode code 866 = .ok (.aload_n 2, 1) := by decide +kernel
theorem dk_L_law_867 : decode code 867 = .ok (.aload_n 0, 1) := by decide +kernel
theorem dk_L_law_868 : decode code 868 = .ok (.iload_n 3, 1) := by decide +kernel
theorem dk_L_law_869 : decode code 869 = .ok (.iconst 1, 1) := by decide +kernel
theorem dk_L_law_870 : decode code 870 = .ok (.iadd, 1) := by decide +kernel
theorem dk_L_law_871 : decode code 871 = .ok (.iaload, 1) := by decide +kernel
theorem dk_L_law_872 : decode code 872 = .ok (.aload_n 0, 1) := by decide +kernel
theorem dk_L_law_873 : decode code 873 = .ok (.iload_n 3, 1) := by decide +kernel
theorem dk_L_law_874 : decode code 874 = .ok (.iconst 2, 1) := by decide +kernel
theorem dk_L_law_875 : decode code 875 = .ok (.iadd, 1) := by decide +kernel
theorem dk_L_law_876 : decode code 876 = .ok (.iaload, 1) := by decide +kernel
theorem dk_L_law_877 : decode code 877 = .ok (.invokevirtual 112, 3) := by decide +kernel
theorem dk_L_law_880 : decode code 880 = .ok (.if_icmp .eq 38, 3) := by decide +kernel
theorem dk_L_law_883 : decode code 883 = .ok (.iconst 0, 1) := by decide +kernel
theorem dk_L_law_884 : decode code 884 = .ok (.ireturn, 1) := by decide +kernel
theorem dk_L_law_885 : decode code 885 = .ok (.aload_n 1, 1) := by decide +kernel
theorem dk_L_law_886 : decode code 886 = .ok (.aload_n 0, 1) := by decide +kernel
theorem dk_L_law_887 : decode code 887 = .ok (.iload_n 3, 1) := by decide +kernel
theorem dk_L_law_888 : decode code 888 = .ok (.iconst 1, 1) := by decide +kernel
theorem dk_L_law_889 : decode code 889 = .ok (.iadd, 1) := by decide +kernel
theorem dk_L_law_890 : decode code 890 = .ok (.iaload, 1) := by decide +kernel
theorem dk_L_law_891 : decode code 891 = .ok (.aload_n 0, 1) := by decide +kernel
theorem dk_L_law_892 : decode code 892 = .ok (.iload_n 3, 1) := by decide +kernel
theorem dk_L_law_893 : decode code 893 = .ok (.iconst 2, 1) := by decide +kernel
theorem dk_L_law_894 : decode code 894 = .ok (.iadd, 1) := by decide +kernel
theorem dk_L_law_895 : decode code 895 = .ok (.iaload, 1) := by decide +kernel
theorem dk_L_law_896 : decode code 896 = .ok (.invokevirtual 113, 3) := by decide +kernel
theorem dk_L_law_899 : decode code 899 = .ok (.aload_n 2, 1) := by decide +kernel
theorem dk_L_law_900 : decode code 900 = .ok (.aload_n 0, 1) := by decide +kernel
theorem dk_L_law_901 : decode code 901 = .ok (.iload_n 3, 1) := by decide +kernel
theorem dk_L_law_902 : decode code 902 = .ok (.iconst 1, 1) := by decide +kernel
theorem dk_L_law_903 : decode code 903 = .ok (.iadd, 1) := by decide +kernel
theorem dk_L_law_904 : decode code 904 = .ok (.iaload, 1) := by decide +kernel
theorem dk_L_law_905 : decode code 905 = .ok (.aload_n 0, 1) := by decide +kernel
theorem dk_L_law_906 : decode code 906 = .ok (.iload_n 3, 1) := by decide +kernel
theorem dk_L_law_907 : decode code 907 = .ok (.iconst 2, 1) := by decide +kernel
theorem dk_L_law_908 : decode code 908 = .ok (.iadd, 1) := by decide +kernel
theorem dk_L_law_909 : decode code 909 = .ok (.iaload, 1) := by decide +kernel
theorem dk_L_law_910 : decode code 910 = .ok (.invokevirtual 116, 3) := by decide +kernel
theorem dk_L_law_913 : decode code 913 = .ok (.if_icmp .eq 5, 3) := by decide +kernel
theorem dk_L_law_916 : decode code 916 = .ok (.iconst 0, 1) := by decide +kernel
theorem dk_L_law_917 : decode code 917 = .ok (.ireturn, 1) := by decide +kernel
theorem dk_L_law_918 : decode code 918 = .ok (.iinc 3 5, 3) := by decide +kernel
theorem dk_L_law_921 : decode code 921 = .ok (.goto (-903), 3) := by decide +kernel
theorem dk_L_law_924 : decode code 924 = .ok (.iconst 1, 1) := by decide +kernel
theorem dk_L_law_925 : decode code 925 = .ok (.ireturn, 1) := by decide +kernel
