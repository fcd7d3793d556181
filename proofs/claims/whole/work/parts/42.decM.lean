theorem dk_1_isWithin_0 : decode bk_1_isWithin 0 = .ok (.iconst 0, 1) := by decide +kernel
theorem dk_1_isWithin_1 : decode bk_1_isWithin 1 = .ok (.istore_n 2, 1) := by decide +kernel
theorem dk_1_isWithin_2 : decode bk_1_isWithin 2 = .ok (.iconst 0, 1) := by decide +kernel
theorem dk_1_isWithin_3 : decode bk_1_isWithin 3 = .ok (.istore_n 3, 1) := by decide +kernel
theorem dk_1_isWithin_4 : decode bk_1_isWithin 4 = .ok (.iload_n 3, 1) := by decide +kernel
theorem dk_1_isWithin_5 : decode bk_1_isWithin 5 = .ok (.aload_n 0, 1) := by decide +kernel
theorem dk_1_isWithin_6 : decode bk_1_isWithin 6 = .ok (.getfield 119, 3) := by decide +kernel
theorem dk_1_isWithin_9 : decode bk_1_isWithin 9 = .ok (.if_icmp .ge 68, 3) := by decide +kernel
theorem dk_1_isWithin_12 : decode bk_1_isWithin 12 = .ok (.bipush 8, 2) := by decide +kernel
theorem dk_1_isWithin_14 : decode bk_1_isWithin 14 = .ok (.iload_n 3, 1) := by decide +kernel
theorem dk_1_isWithin_15 : decode bk_1_isWithin 15 = .ok (.imul, 1) := by decide +kernel
theorem dk_1_isWithin_16 : decode bk_1_isWithin 16 = .ok (.istore 4, 2) := by decide +kernel
theorem dk_1_isWithin_18 : decode bk_1_isWithin 18 = .ok (.iload 4, 2) := by decide +kernel
theorem dk_1_isWithin_20 : decode bk_1_isWithin 20 = .ok (.bipush 8, 2) := by decide +kernel
theorem dk_1_isWithin_22 : decode bk_1_isWithin 22 = .ok (.iload_n 3, 1) := by decide +kernel
theorem dk_1_isWithin_23 : decode bk_1_isWithin 23 = .ok (.imul, 1) := by decide +kernel
theorem dk_1_isWithin_24 : decode bk_1_isWithin 24 = .ok (.aload_n 0, 1) := by decide +kernel
theorem dk_1_isWithin_25 : decode bk_1_isWithin 25 = .ok (.getfield 44, 3) := by decide +kernel
theorem dk_1_isWithin_28 : decode bk_1_isWithin 28 = .ok (.iload_n 3, 1) := by decide +kernel
theorem dk_1_isWithin_29 : decode bk_1_isWithin 29 = .ok (.iaload, 1) := by decide +kernel
theorem dk_1_isWithin_30 : decode bk_1_isWithin 30 = .ok (.iadd, 1) := by decide +kernel
theorem dk_1_isWithin_31 : decode bk_1_isWithin 31 = .ok (.if_icmp .ge 40, 3) := by decide +kernel
theorem dk_1_isWithin_34 : decode bk_1_isWithin 34 = .ok (.iload_n 2, 1) := by decide +kernel
theorem dk_1_isWithin_35 : decode bk_1_isWithin 35 = .ok (.ifCond .ne 24, 3) := by decide +kernel
theorem dk_1_isWithin_38 : decode bk_1_isWithin 38 = .ok (.aload_n 0, 1) := by decide +kernel
theorem dk_1_isWithin_39 : decode bk_1_isWithin 39 = .ok (.getfield 56, 3) := by decide +kernel
theorem dk_1_isWithin_42 : decode bk_1_isWithin 42 = .ok (.iload 4, 2) := by decide +kernel
theorem dk_1_isWithin_44 : decode bk_1_isWithin 44 = .ok (.baload, 1) := by decide +kernel
theorem dk_1_isWithin_45 : decode bk_1_isWithin 45 = .ok (.ifCond .eq 18, 3) := by decide +kernel
theorem dk_1_isWithin_48 : decode bk_1_isWithin 48 = .ok (.aload_n 0, 1) := by decide +kernel
theorem dk_1_isWithin_49 : decode bk_1_isWithin 49 = .ok (.getfield 50, 3) := by decide +kernel
theorem dk_1_isWithin_52 : decode bk_1_isWithin 52 = .ok (.iload 4, 2) := by decide +kernel
theorem dk_1_isWithin_54 : decode bk_1_isWithin 54 = .ok (.iaload, 1) := by decide +kernel
theorem dk_1_isWithin_55 : decode bk_1_isWithin 55 = .ok (.iload_n 1, 1) := by decide +kernel
theorem dk_1_isWithin_56 : decode bk_1_isWithin 56 = .ok (.if_icmp .ne 7, 3) := by decide +kernel
theorem dk_1_isWithin_59 : decode bk_1_isWithin 59 = .ok (.iconst 1, 1) := by decide +kernel
theorem dk_1_isWithin_60 : decode bk_1_isWithin 60 = .ok (.goto 4, 3) := by decide +kernel
theorem dk_1_isWithin_63 : decode bk_1_isWithin 63 = .ok (.iconst 0, 1) := by decide +kernel
theorem dk_1_isWithin_64 : decode bk_1_isWithin 64 = .ok (.istore_n 2, 1) := by decide +kernel
theorem dk_1_isWithin_65 : decode bk_1_isWithin 65 = .ok (.iinc 4 1, 3) := by decide +kernel
theorem dk_1_isWithin_68 : decode bk_1_isWithin 68 = .ok (.goto (-50), 3) := by decide +kernel
theorem dk_1_isWithin_71 : decode bk_1_isWithin 71 = .ok (.iinc 3 1, 3) := by decide +kernel
theorem dk_1_isWithin_74 : decode bk_1_isWithin 74 = .ok (.goto (-70), 3) := by decide +kernel
theorem dk_1_isWithin_77 : decode bk_1_isWithin 77 = .ok (.iload_n 2, 1) := by decide +kernel
theorem dk_1_isWithin_78 : decode bk_1_isWithin 78 = .ok (.ireturn, 1) := by decide +kernel
theorem dk_1_branch_0 : decode bk_1_branch 0 = .ok (.iload_n 1, 1) := by decide +kernel
theorem dk_1_branch_1 : decode bk_1_branch 1 = .ok (.aload_n 0, 1) := by decide +kernel
theorem dk_1_branch_2 : decode bk_1_branch 2 = .ok (.getfield 119, 3) := by decide +kernel
theorem dk_1_branch_5 : decode bk_1_branch 5 = .ok (.invokestatic 102, 3) := by decide +kernel
theorem dk_1_branch_8 : decode bk_1_branch 8 = .ok (.ifCond .eq 25, 3) := by decide +kernel
theorem dk_1_branch_11 : decode bk_1_branch 11 = .ok (.iload_n 2, 1) := by decide +kernel
theorem dk_1_branch_12 : decode bk_1_branch 12 = .ok (.aload_n 0, 1) := by decide +kernel
theorem dk_1_branch_13 : decode bk_1_branch 13 = .ok (.getfield 116, 3) := by decide +kernel
theorem dk_1_branch_16 : decode bk_1_branch 16 = .ok (.invokestatic 102, 3) := by decide +kernel
theorem dk_1_branch_19 : decode bk_1_branch 19 = .ok (.ifCond .eq 14, 3) := by decide +kernel
theorem dk_1_branch_22 : decode bk_1_branch 22 = .ok (.aload_n 0, 1) := by decide +kernel
theorem dk_1_branch_23 : decode bk_1_branch 23 = .ok (.getfield 44, 3) := by decide +kernel
theorem dk_1_branch_26 : decode bk_1_branch 26 = .ok (.iload_n 1, 1) := by decide +kernel
theorem dk_1_branch_27 : decode bk_1_branch 27 = .ok (.iaload, 1) := by decide +kernel
theorem dk_1_branch_28 : decode bk_1_branch 28 = .ok (.bipush 8, 2) := by decide +kernel
theorem dk_1_branch_30 : decode bk_1_branch 30 = .ok (.if_icmp .ne 5, 3) := by decide +kernel
theorem dk_1_branch_33 : decode bk_1_branch 33 = .ok (.iconst 0, 1) := by decide +kernel
theorem dk_1_branch_34 : decode bk_1_branch 34 = .ok (.ireturn, 1) := by decide +kernel
theorem dk_1_branch_35 : decode bk_1_branch 35 = .ok (.iload_n 3, 1) := by decide +kernel
theorem dk_1_branch_36 : decode bk_1_branch 36 = .ok (.ifCond .eq 47, 3) := by decide +kernel
theorem dk_1_branch_39 : decode bk_1_branch 39 = .ok (.iload 4, 2) := by decide +kernel
theorem dk_1_branch_41 : decode bk_1_branch 41 = .ok (.iload_n 1, 1) := by decide +kernel
theorem dk_1_branch_42 : decode bk_1_branch 42 = .ok (.invokestatic 102, 3) := by decide +kernel
theorem dk_1_branch_45 : decode bk_1_branch 45 = .ok (.ifCond .eq 36, 3) := by decide +kernel
theorem dk_1_branch_48 : decode bk_1_branch 48 = .ok (.aload_n 0, 1) := by decide +kernel
theorem dk_1_branch_49 : decode bk_1_branch 49 = .ok (.getfield 41, 3) := by decide +kernel
theorem dk_1_branch_52 : decode bk_1_branch 52 = .ok (.iload 4, 2) := by decide +kernel
theorem dk_1_branch_54 : decode bk_1_branch 54 = .ok (.iaload, 1) := by decide +kernel
theorem dk_1_branch_55 : decode bk_1_branch 55 = .ok (.aload_n 0, 1) := by decide +kernel
theorem dk_1_branch_56 : decode bk_1_branch 56 = .ok (.getfield 41, 3) := by decide +kernel
theorem dk_1_branch_59 : decode bk_1_branch 59 = .ok (.iload_n 1, 1) := by decide +kernel
theorem dk_1_branch_60 : decode bk_1_branch 60 = .ok (.iaload, 1) := by decide +kernel
theorem dk_1_branch_61 : decode bk_1_branch 61 = .ok (.if_icmp .ne 20, 3) := by decide +kernel
theorem dk_1_branch_64 : decode bk_1_branch 64 = .ok (.aload_n 0, 1) := by decide +kernel
theorem dk_1_branch_65 : decode bk_1_branch 65 = .ok (.iload 4, 2) := by decide +kernel
theorem dk_1_branch_67 : decode bk_1_branch 67 = .ok (.invokevirtual 141, 3) := by decide +kernel
theorem dk_1_branch_70 : decode bk_1_branch 70 = .ok (.ifCond .ne 11, 3) := by decide +kernel
theorem dk_1_branch_73 : decode bk_1_branch 73 = .ok (.aload_n 0, 1) := by decide +kernel
theorem dk_1_branch_74 : decode bk_1_branch 74 = .ok (.iload_n 1, 1) := by decide +kernel
theorem dk_1_branch_75 : decode bk_1_branch 75 = .ok (.invokevirtual 144, 3) := by decide +kernel
theorem dk_1_branch_78 : decode bk_1_branch 78 = .ok (.ifCond .eq 5, 3) := by decide +kernel
theorem dk_1_branch_81 : decode bk_1_branch 81 = .ok (.iconst 0, 1) := by decide +kernel
theorem dk_1_branch_82 : decode bk_1_branch 82 = .ok (.ireturn, 1) := by decide +kernel
theorem dk_1_branch_83 : decode bk_1_branch 83 = .ok (.bipush 8, 2) := by decide +kernel
theorem dk_1_branch_85 : decode bk_1_branch 85 = .ok (.iload_n 1, 1) := by decide +kernel
theorem dk_1_branch_86 : decode bk_1_branch 86 = .ok (.imul, 1) := by decide +kernel
theorem dk_1_branch_87 : decode bk_1_branch 87 = .ok (.aload_n 0, 1) := by decide +kernel
theorem dk_1_branch_88 : decode bk_1_branch 88 = .ok (.getfield 44, 3) := by decide +kernel
theorem dk_1_branch_91 : decode bk_1_branch 91 = .ok (.iload_n 1, 1) := by decide +kernel
theorem dk_1_branch_92 : decode bk_1_branch 92 = .ok (.iaload, 1) := by decide +kernel
theorem dk_1_branch_93 : decode bk_1_branch 93 = .ok (.iadd, 1) := by decide +kernel
theorem dk_1_branch_94 : decode bk_1_branch 94 = .ok (.istore 5, 2) := by decide +kernel
theorem dk_1_branch_96 : decode bk_1_branch 96 = .ok (.aload_n 0, 1) := by decide +kernel
theorem dk_1_branch_97 : decode bk_1_branch 97 = .ok (.getfield 47, 3) := by decide +kernel
theorem dk_1_branch_100 : decode bk_1_branch 100 = .ok (.iload 5, 2) := by decide +kernel
theorem dk_1_branch_102 : decode bk_1_branch 102 = .ok (.iload_n 2, 1) := by decide +kernel
theorem dk_1_branch_103 : decode bk_1_branch 103 = .ok (.iastore, 1) := by decide +kernel
theorem dk_1_branch_104 : decode bk_1_branch 104 = .ok (.aload_n 0, 1) := by decide +kernel
theorem dk_1_branch_105 : decode bk_1_branch 105 = .ok (.getfield 56, 3) := by decide +kernel
theorem dk_1_branch_108 : decode bk_1_branch 108 = .ok (.iload 5, 2) := by decide +kernel
theorem dk_1_branch_110 : decode bk_1_branch 110 = .ok (.iload_n 3, 1) := by decide +kernel
theorem dk_1_branch_111 : decode bk_1_branch 111 = .ok (.bastore, 1) := by decide +kernel
theorem dk_1_branch_112 : decode bk_1_branch 112 = .ok (.aload_n 0, 1) := by decide +kernel
theorem dk_1_branch_113 : decode bk_1_branch 113 = .ok (.getfield 50, 3) := by decide +kernel
theorem dk_1_branch_116 : decode bk_1_branch 116 = .ok (.iload 5, 2) := by decide +kernel
theorem dk_1_branch_118 : decode bk_1_branch 118 = .ok (.iload 4, 2) := by decide +kernel
theorem dk_1_branch_120 : decode bk_1_branch 120 = .ok (.iastore, 1) := by decide +kernel
theorem dk_1_branch_121 : decode bk_1_branch 121 = .ok (.aload_n 0, 1) := by decide +kernel
theorem dk_1_branch_122 : decode bk_1_branch 122 = .ok (.getfield 44, 3) := by decide +kernel
theorem dk_1_branch_125 : decode bk_1_branch 125 = .ok (.iload_n 1, 1) := by decide +kernel
theorem dk_1_branch_126 : decode bk_1_branch 126 = .ok (.dup2, 1) := by decide +kernel
theorem dk_1_branch_127 : decode bk_1_branch 127 = .ok (.iaload, 1) := by decide +kernel
theorem dk_1_branch_128 : decode bk_1_branch 128 = .ok (.iconst 1, 1) := by decide +kernel
theorem dk_1_branch_129 : decode bk_1_branch 129 = .ok (.iadd, 1) := by decide +kernel
theorem dk_1_branch_130 : decode bk_1_branch 130 = .ok (.iastore, 1) := by decide +kernel
theorem dk_1_branch_131 : decode bk_1_branch 131 = .ok (.iconst 1, 1) := by decide +kernel
theorem dk_1_branch_132 : decode bk_1_branch 132 = .ok (.ireturn, 1) := by decide +kernel
theorem dk_1_otherwise_0 : decode bk_1_otherwise 0 = .ok (.iload_n 1, 1) := by decide +kernel
theorem dk_1_otherwise_1 : decode bk_1_otherwise 1 = .ok (.aload_n 0, 1) := by decide +kernel
theorem dk_1_otherwise_2 : decode bk_1_otherwise 2 = .ok (.getfield 119, 3) := by decide +kernel
theorem dk_1_otherwise_5 : decode bk_1_otherwise 5 = .ok (.invokestatic 102, 3) := by decide +kernel
theorem dk_1_otherwise_8 : decode bk_1_otherwise 8 = .ok (.ifCond .ne 5, 3) := by decide +kernel
theorem dk_1_otherwise_11 : decode bk_1_otherwise 11 = .ok (.iconst 0, 1) := by decide +kernel
theorem dk_1_otherwise_12 : decode bk_1_otherwise 12 = .ok (.ireturn, 1) := by decide +kernel
theorem dk_1_otherwise_13 : decode bk_1_otherwise 13 = .ok (.aload_n 0, 1) := by decide +kernel
theorem dk_1_otherwise_14 : decode bk_1_otherwise 14 = .ok (.getfield 59, 3) := by decide +kernel
theorem dk_1_otherwise_17 : decode bk_1_otherwise 17 = .ok (.iload_n 1, 1) := by decide +kernel
theorem dk_1_otherwise_18 : decode bk_1_otherwise 18 = .ok (.iconst 1, 1) := by decide +kernel
theorem dk_1_otherwise_19 : decode bk_1_otherwise 19 = .ok (.bastore, 1) := by decide +kernel
theorem dk_1_otherwise_20 : decode bk_1_otherwise 20 = .ok (.aload_n 0, 1) := by decide +kernel
theorem dk_1_otherwise_21 : decode bk_1_otherwise 21 = .ok (.getfield 53, 3) := by decide +kernel
theorem dk_1_otherwise_24 : decode bk_1_otherwise 24 = .ok (.iload_n 1, 1) := by decide +kernel
theorem dk_1_otherwise_25 : decode bk_1_otherwise 25 = .ok (.iload_n 2, 1) := by decide +kernel
theorem dk_1_otherwise_26 : decode bk_1_otherwise 26 = .ok (.iastore, 1) := by decide +kernel
theorem dk_1_otherwise_27 : decode bk_1_otherwise 27 = .ok (.iconst 1, 1) := by decide +kernel
theorem dk_1_otherwise_28 : decode bk_1_otherwise 28 = .ok (.ireturn, 1) := by decide +kernel
theorem dk_1_isAlike_0 : decode bk_1_isAlike 0 = .ok (.aload_n 0, 1) := by decide +kernel
theorem dk_1_isAlike_1 : decode bk_1_isAlike 1 = .ok (.getfield 22, 3) := by decide +kernel
theorem dk_1_isAlike_4 : decode bk_1_isAlike 4 = .ok (.iload_n 1, 1) := by decide +kernel
theorem dk_1_isAlike_5 : decode bk_1_isAlike 5 = .ok (.iaload, 1) := by decide +kernel
theorem dk_1_isAlike_6 : decode bk_1_isAlike 6 = .ok (.aload_n 0, 1) := by decide +kernel
theorem dk_1_isAlike_7 : decode bk_1_isAlike 7 = .ok (.getfield 22, 3) := by decide +kernel
theorem dk_1_isAlike_10 : decode bk_1_isAlike 10 = .ok (.iload_n 2, 1) := by decide +kernel
theorem dk_1_isAlike_11 : decode bk_1_isAlike 11 = .ok (.iaload, 1) := by decide +kernel
theorem dk_1_isAlike_12 : decode bk_1_isAlike 12 = .ok (.if_icmp .ne 7, 3) := by decide +kernel
theorem dk_1_isAlike_15 : decode bk_1_isAlike 15 = .ok (.iconst 1, 1) := by decide +kernel
theorem dk_1_isAlike_16 : decode bk_1_isAlike 16 = .ok (.goto 4, 3) := by decide +kernel
theorem dk_1_isAlike_19 : decode bk_1_isAlike 19 = .ok (.iconst 0, 1) := by decide +kernel
theorem dk_1_isAlike_20 : decode bk_1_isAlike 20 = .ok (.istore_n 3, 1) := by decide +kernel
theorem dk_1_isAlike_21 : decode bk_1_isAlike 21 = .ok (.iconst 0, 1) := by decide +kernel
theorem dk_1_isAlike_22 : decode bk_1_isAlike 22 = .ok (.istore 4, 2) := by decide +kernel
theorem dk_1_isAlike_24 : decode bk_1_isAlike 24 = .ok (.iload 4, 2) := by decide +kernel
theorem dk_1_isAlike_26 : decode bk_1_isAlike 26 = .ok (.aload_n 0, 1) := by decide +kernel
theorem dk_1_isAlike_27 : decode bk_1_isAlike 27 = .ok (.getfield 99, 3) := by decide +kernel
theorem dk_1_isAlike_30 : decode bk_1_isAlike 30 = .ok (.if_icmp .ge 57, 3) := by decide +kernel
theorem dk_1_isAlike_33 : decode bk_1_isAlike 33 = .ok (.iload_n 3, 1) := by decide +kernel
theorem dk_1_isAlike_34 : decode bk_1_isAlike 34 = .ok (.ifCond .eq 45, 3) := by decide +kernel
theorem dk_1_isAlike_37 : decode bk_1_isAlike 37 = .ok (.aload_n 0, 1) := by decide +kernel
theorem dk_1_isAlike_38 : decode bk_1_isAlike 38 = .ok (.getfield 7, 3) := by decide +kernel
theorem dk_1_isAlike_41 : decode bk_1_isAlike 41 = .ok (.iload 4, 2) := by decide +kernel
theorem dk_1_isAlike_43 : decode bk_1_isAlike 43 = .ok (.iaload, 1) := by decide +kernel
theorem dk_1_isAlike_44 : decode bk_1_isAlike 44 = .ok (.iconst (-1), 1) := by decide +kernel
theorem dk_1_isAlike_45 : decode bk_1_isAlike 45 = .ok (.if_icmp .ne 30, 3) := by decide +kernel
theorem dk_1_isAlike_48 : decode bk_1_isAlike 48 = .ok (.aload_n 0, 1) := by decide +kernel
theorem dk_1_isAlike_49 : decode bk_1_isAlike 49 = .ok (.getfield 25, 3) := by decide +kernel
theorem dk_1_isAlike_52 : decode bk_1_isAlike 52 = .ok (.bipush 16, 2) := by decide +kernel
theorem dk_1_isAlike_54 : decode bk_1_isAlike 54 = .ok (.iload_n 1, 1) := by decide +kernel
theorem dk_1_isAlike_55 : decode bk_1_isAlike 55 = .ok (.imul, 1) := by decide +kernel
theorem dk_1_isAlike_56 : decode bk_1_isAlike 56 = .ok (.iload 4, 2) := by decide +kernel
theorem dk_1_isAlike_58 : decode bk_1_isAlike 58 = .ok (.iadd, 1) := by decide +kernel
theorem dk_1_isAlike_59 : decode bk_1_isAlike 59 = .ok (.iaload, 1) := by decide +kernel
theorem dk_1_isAlike_60 : decode bk_1_isAlike 60 = .ok (.aload_n 0, 1) := by decide +kernel
theorem dk_1_isAlike_61 : decode bk_1_isAlike 61 = .ok (.getfield 25, 3) := by decide +kernel
theorem dk_1_isAlike_64 : decode bk_1_isAlike 64 = .ok (.bipush 16, 2) := by decide +kernel
theorem dk_1_isAlike_66 : decode bk_1_isAlike 66 = .ok (.iload_n 2, 1) := by decide +kernel
theorem dk_1_isAlike_67 : decode bk_1_isAlike 67 = .ok (.imul, 1) := by decide +kernel
theorem dk_1_isAlike_68 : decode bk_1_isAlike 68 = .ok (.iload 4, 2) := by decide +kernel
theorem dk_1_isAlike_70 : decode bk_1_isAlike 70 = .ok (.iadd, 1) := by decide +kernel
theorem dk_1_isAlike_71 : decode bk_1_isAlike 71 = .ok (.iaload, 1) := by decide +kernel
theorem dk_1_isAlike_72 : decode bk_1_isAlike 72 = .ok (.if_icmp .ne 7, 3) := by decide +kernel
theorem dk_1_isAlike_75 : decode bk_1_isAlike 75 = .ok (.iconst 1, 1) := by decide +kernel
theorem dk_1_isAlike_76 : decode bk_1_isAlike 76 = .ok (.goto 4, 3) := by decide +kernel
theorem dk_1_isAlike_79 : decode bk_1_isAlike 79 = .ok (.iconst 0, 1) := by decide +kernel
theorem dk_1_isAlike_80 : decode bk_1_isAlike 80 = .ok (.istore_n 3, 1) := by decide +kernel
theorem dk_1_isAlike_81 : decode bk_1_isAlike 81 = .ok (.iinc 4 1, 3) := by decide +kernel
theorem dk_1_isAlike_84 : decode bk_1_isAlike 84 = .ok (.goto (-60), 3) := by decide +kernel
theorem dk_1_isAlike_87 : decode bk_1_isAlike 87 = .ok (.iload_n 3, 1) := by decide +kernel
theorem dk_1_isAlike_88 : decode bk_1_isAlike 88 = .ok (.ireturn, 1) := by decide +kernel
theorem dk_1_numbered_0 : decode bk_1_numbered 0 = .ok (.iconst 0, 1) := by decide +kernel
theorem dk_1_numbered_1 : decode bk_1_numbered 1 = .ok (.istore_n 1, 1) := by decide +kernel
theorem dk_1_numbered_2 : decode bk_1_numbered 2 = .ok (.iload_n 1, 1) := by decide +kernel
theorem dk_1_numbered_3 : decode bk_1_numbered 3 = .ok (.aload_n 0, 1) := by decide +kernel
theorem dk_1_numbered_4 : decode bk_1_numbered 4 = .ok (.getfield 113, 3) := by decide +kernel
theorem dk_1_numbered_7 : decode bk_1_numbered 7 = .ok (.if_icmp .ge 21, 3) := by decide +kernel
theorem dk_1_numbered_10 : decode bk_1_numbered 10 = .ok (.aload_n 0, 1) := by decide +kernel
theorem dk_1_numbered_11 : decode bk_1_numbered 11 = .ok (.iload_n 1, 1) := by decide +kernel
theorem dk_1_numbered_12 : decode bk_1_numbered 12 = .ok (.bipush 60, 2) := by decide +kernel
theorem dk_1_numbered_14 : decode bk_1_numbered 14 = .ok (.invokevirtual 147, 3) := by decide +kernel
theorem dk_1_numbered_17 : decode bk_1_numbered 17 = .ok (.ifCond .eq 5, 3) := by decide +kernel
theorem dk_1_numbered_20 : decode bk_1_numbered 20 = .ok (.iload_n 1, 1) := by decide +kernel
theorem dk_1_numbered_21 : decode bk_1_numbered 21 = .ok (.ireturn, 1) := by decide +kernel
theorem dk_1_numbered_22 : decode bk_1_numbered 22 = .ok (.iinc 1 1, 3) := by decide +kernel
theorem dk_1_numbered_25 : decode bk_1_numbered 25 = .ok (.goto (-23), 3) := by decide +kernel
theorem dk_1_numbered_28 : decode bk_1_numbered 28 = .ok (.aload_n 0, 1) := by decide +kernel
theorem dk_1_numbered_29 : decode bk_1_numbered 29 = .ok (.getfield 113, 3) := by decide +kernel
theorem dk_1_numbered_32 : decode bk_1_numbered 32 = .ok (.bipush 60, 2) := by decide +kernel
theorem dk_1_numbered_34 : decode bk_1_numbered 34 = .ok (.if_icmp .ne 5, 3) := by decide +kernel
theorem dk_1_numbered_37 : decode bk_1_numbered 37 = .ok (.iconst (-1), 1) := by decide +kernel
theorem dk_1_numbered_38 : decode bk_1_numbered 38 = .ok (.ireturn, 1) := by decide +kernel
theorem dk_1_numbered_39 : decode bk_1_numbered 39 = .ok (.aload_n 0, 1) := by decide +kernel
theorem dk_1_numbered_40 : decode bk_1_numbered 40 = .ok (.bipush 60, 2) := by decide +kernel
theorem dk_1_numbered_42 : decode bk_1_numbered 42 = .ok (.aload_n 0, 1) := by decide +kernel
theorem dk_1_numbered_43 : decode bk_1_numbered 43 = .ok (.getfield 113, 3) := by decide +kernel
theorem dk_1_numbered_46 : decode bk_1_numbered 46 = .ok (.invokevirtual 150, 3) := by decide +kernel
theorem dk_1_numbered_49 : decode bk_1_numbered 49 = .ok (.aload_n 0, 1) := by decide +kernel
theorem dk_1_numbered_50 : decode bk_1_numbered 50 = .ok (.dup, 1) := by decide +kernel
theorem dk_1_numbered_51 : decode bk_1_numbered 51 = .ok (.getfield 113, 3) := by decide +kernel
theorem dk_1_numbered_54 : decode bk_1_numbered 54 = .ok (.iconst 1, 1) := by decide +kernel
theorem dk_1_numbered_55 : decode bk_1_numbered 55 = .ok (.iadd, 1) := by decide +kernel
theorem dk_1_numbered_56 : decode bk_1_numbered 56 = .ok (.putfield 113, 3) := by decide +kernel
theorem dk_1_numbered_59 : decode bk_1_numbered 59 = .ok (.aload_n 0, 1) := by decide +kernel
theorem dk_1_numbered_60 : decode bk_1_numbered 60 = .ok (.getfield 113, 3) := by decide +kernel
theorem dk_1_numbered_63 : decode bk_1_numbered 63 = .ok (.iconst 1, 1) := by decide +kernel
theorem dk_1_numbered_64 : decode bk_1_numbered 64 = .ok (.isub, 1) := by decide +kernel
theorem dk_1_numbered_65 : decode bk_1_numbered 65 = .ok (.ireturn, 1) := by decide +kernel
theorem dk_1_copy_0 : decode bk_1_copy 0 = .ok (.aload_n 0, 1) := by decide +kernel
theorem dk_1_copy_1 : decode bk_1_copy 1 = .ok (.getfield 22, 3) := by decide +kernel
theorem dk_1_copy_4 : decode bk_1_copy 4 = .ok (.iload_n 2, 1) := by decide +kernel
theorem dk_1_copy_5 : decode bk_1_copy 5 = .ok (.aload_n 0, 1) := by decide +kernel
theorem dk_1_copy_6 : decode bk_1_copy 6 = .ok (.getfield 22, 3) := by decide +kernel
theorem dk_1_copy_9 : decode bk_1_copy 9 = .ok (.iload_n 1, 1) := by decide +kernel
theorem dk_1_copy_10 : decode bk_1_copy 10 = .ok (.iaload, 1) := by decide +kernel
theorem dk_1_copy_11 : decode bk_1_copy 11 = .ok (.iastore, 1) := by decide +kernel
theorem dk_1_copy_12 : decode bk_1_copy 12 = .ok (.iconst 0, 1) := by decide +kernel
theorem dk_1_copy_13 : decode bk_1_copy 13 = .ok (.istore_n 3, 1) := by decide +kernel
theorem dk_1_copy_14 : decode bk_1_copy 14 = .ok (.iload_n 3, 1) := by decide +kernel
theorem dk_1_copy_15 : decode bk_1_copy 15 = .ok (.bipush 16, 2) := by decide +kernel
theorem dk_1_copy_17 : decode bk_1_copy 17 = .ok (.if_icmp .ge 31, 3) := by decide +kernel
theorem dk_1_copy_20 : decode bk_1_copy 20 = .ok (.aload_n 0, 1) := by decide +kernel
theorem dk_1_copy_21 : decode bk_1_copy 21 = .ok (.getfield 25, 3) := by decide +kernel
theorem dk_1_copy_24 : decode bk_1_copy 24 = .ok (.bipush 16, 2) := by decide +kernel
theorem dk_1_copy_26 : decode bk_1_copy 26 = .ok (.iload_n 2, 1) := by decide +kernel
theorem dk_1_copy_27 : decode bk_1_copy 27 = .ok (.imul, 1) := by decide +kernel
theorem dk_1_copy_28 : decode bk_1_copy 28 = .ok (.iload_n 3, 1) := by decide +kernel
theorem dk_1_copy_29 : decode bk_1_copy 29 = .ok (.iadd, 1) := by decide +kernel
theorem dk_1_copy_30 : decode bk_1_copy 30 = .ok (.aload_n 0, 1) := by decide +kernel
theorem dk_1_copy_31 : decode bk_1_copy 31 = .ok (.getfield 25, 3) := by decide +kernel
theorem dk_1_copy_34 : decode bk_1_copy 34 = .ok (.bipush 16, 2) := by decide +kernel
theorem dk_1_copy_36 : decode bk_1_copy 36 = .ok (.iload_n 1, 1) := by decide +kernel
theorem dk_1_copy_37 : decode bk_1_copy 37 = .ok (.imul, 1) := by decide +kernel
theorem dk_1_copy_38 : decode bk_1_copy 38 = .ok (.iload_n 3, 1) := by decide +kernel
theorem dk_1_copy_39 : decode bk_1_copy 39 = .ok (.iadd, 1) := by decide +kernel
theorem dk_1_copy_40 : decode bk_1_copy 40 = .ok (.iaload, 1) := by decide +kernel
theorem dk_1_copy_41 : decode bk_1_copy 41 = .ok (.iastore, 1) := by decide +kernel
theorem dk_1_copy_42 : decode bk_1_copy 42 = .ok (.iinc 3 1, 3) := by decide +kernel
theorem dk_1_copy_45 : decode bk_1_copy 45 = .ok (.goto (-31), 3) := by decide +kernel
theorem dk_1_copy_48 : decode bk_1_copy 48 = .ok (.return_, 1) := by decide +kernel
theorem dk_1_give_0 : decode bk_1_give 0 = .ok (.aload_n 0, 1) := by decide +kernel
theorem dk_1_give_1 : decode bk_1_give 1 = .ok (.getfield 25, 3) := by decide +kernel
theorem dk_1_give_4 : decode bk_1_give 4 = .ok (.sipush 960, 3) := by decide +kernel
theorem dk_1_give_7 : decode bk_1_give 7 = .ok (.iload_n 1, 1) := by decide +kernel
theorem dk_1_give_8 : decode bk_1_give 8 = .ok (.iadd, 1) := by decide +kernel
theorem dk_1_give_9 : decode bk_1_give 9 = .ok (.iload_n 2, 1) := by decide +kernel
theorem dk_1_give_10 : decode bk_1_give 10 = .ok (.iastore, 1) := by decide +kernel
theorem dk_1_give_11 : decode bk_1_give 11 = .ok (.return_, 1) := by decide +kernel
theorem dk_1_configuration_0 : decode bk_1_configuration 0 = .ok (.iload_n 1, 1) := by decide +kernel
theorem dk_1_configuration_1 : decode bk_1_configuration 1 = .ok (.aload_n 0, 1) := by decide +kernel
theorem dk_1_configuration_2 : decode bk_1_configuration 2 = .ok (.getfield 110, 3) := by decide +kernel
theorem dk_1_configuration_5 : decode bk_1_configuration 5 = .ok (.invokestatic 102, 3) := by decide +kernel
theorem dk_1_configuration_8 : decode bk_1_configuration 8 = .ok (.ifCond .ne 5, 3) := by decide +kernel
theorem dk_1_configuration_11 : decode bk_1_configuration 11 = .ok (.iconst (-1), 1) := by decide +kernel
theorem dk_1_configuration_12 : decode bk_1_configuration 12 = .ok (.ireturn, 1) := by decide +kernel
theorem dk_1_configuration_13 : decode bk_1_configuration 13 = .ok (.aload_n 0, 1) := by decide +kernel
theorem dk_1_configuration_14 : decode bk_1_configuration 14 = .ok (.getfield 22, 3) := by decide +kernel
theorem dk_1_configuration_17 : decode bk_1_configuration 17 = .ok (.bipush 60, 2) := by decide +kernel
theorem dk_1_configuration_19 : decode bk_1_configuration 19 = .ok (.iload_n 1, 1) := by decide +kernel
theorem dk_1_configuration_20 : decode bk_1_configuration 20 = .ok (.iastore, 1) := by decide +kernel
theorem dk_1_configuration_21 : decode bk_1_configuration 21 = .ok (.iconst 0, 1) := by decide +kernel
theorem dk_1_configuration_22 : decode bk_1_configuration 22 = .ok (.istore_n 2, 1) := by decide +kernel
theorem dk_1_configuration_23 : decode bk_1_configuration 23 = .ok (.iload_n 2, 1) := by decide +kernel
theorem dk_1_configuration_24 : decode bk_1_configuration 24 = .ok (.aload_n 0, 1) := by decide +kernel
theorem dk_1_configuration_25 : decode bk_1_configuration 25 = .ok (.getfield 99, 3) := by decide +kernel
theorem dk_1_configuration_28 : decode bk_1_configuration 28 = .ok (.if_icmp .ge 20, 3) := by decide +kernel
theorem dk_1_configuration_31 : decode bk_1_configuration 31 = .ok (.aload_n 0, 1) := by decide +kernel
theorem dk_1_configuration_32 : decode bk_1_configuration 32 = .ok (.iload_n 2, 1) := by decide +kernel
theorem dk_1_configuration_33 : decode bk_1_configuration 33 = .ok (.aload_n 0, 1) := by decide +kernel
theorem dk_1_configuration_34 : decode bk_1_configuration 34 = .ok (.getfield 16, 3) := by decide +kernel
theorem dk_1_configuration_37 : decode bk_1_configuration 37 = .ok (.iload_n 2, 1) := by decide +kernel
theorem dk_1_configuration_38 : decode bk_1_configuration 38 = .ok (.iaload, 1) := by decide +kernel
theorem dk_1_configuration_39 : decode bk_1_configuration 39 = .ok (.invokevirtual 154, 3) := by decide +kernel
theorem dk_1_configuration_42 : decode bk_1_configuration 42 = .ok (.iinc 2 1, 3) := by decide +kernel
theorem dk_1_configuration_45 : decode bk_1_configuration 45 = .ok (.goto (-22), 3) := by decide +kernel
theorem dk_1_configuration_48 : decode bk_1_configuration 48 = .ok (.aload_n 0, 1) := by decide +kernel
theorem dk_1_configuration_49 : decode bk_1_configuration 49 = .ok (.invokevirtual 157, 3) := by decide +kernel
theorem dk_1_configuration_52 : decode bk_1_configuration 52 = .ok (.ireturn, 1) := by decide +kernel
theorem dk_1_set_0 : decode bk_1_set 0 = .ok (.aload_n 0, 1) := by decide +kernel
theorem dk_1_set_1 : decode bk_1_set 1 = .ok (.iload_n 2, 1) := by decide +kernel
theorem dk_1_set_2 : decode bk_1_set 2 = .ok (.invokevirtual 106, 3) := by decide +kernel
theorem dk_1_set_5 : decode bk_1_set 5 = .ok (.istore 4, 2) := by decide +kernel
theorem dk_1_set_7 : decode bk_1_set 7 = .ok (.iload_n 1, 1) := by decide +kernel
theorem dk_1_set_8 : decode bk_1_set 8 = .ok (.aload_n 0, 1) := by decide +kernel
theorem dk_1_set_9 : decode bk_1_set 9 = .ok (.getfield 113, 3) := by decide +kernel
theorem dk_1_set_12 : decode bk_1_set 12 = .ok (.invokestatic 102, 3) := by decide +kernel
theorem dk_1_set_15 : decode bk_1_set 15 = .ok (.ifCond .eq 23, 3) := by decide +kernel
theorem dk_1_set_18 : decode bk_1_set 18 = .ok (.iload 4, 2) := by decide +kernel
theorem dk_1_set_20 : decode bk_1_set 20 = .ok (.iconst (-1), 1) := by decide +kernel
theorem dk_1_set_21 : decode bk_1_set 21 = .ok (.if_icmp .eq 17, 3) := by decide +kernel
theorem dk_1_set_24 : decode bk_1_set 24 = .ok (.iload_n 3, 1) := by decide +kernel
theorem dk_1_set_25 : decode bk_1_set 25 = .ok (.aload_n 0, 1) := by decide +kernel
theorem dk_1_set_26 : decode bk_1_set 26 = .ok (.getfield 13, 3) := by decide +kernel
theorem dk_1_set_29 : decode bk_1_set 29 = .ok (.iload 4, 2) := by decide +kernel
theorem dk_1_set_31 : decode bk_1_set 31 = .ok (.iaload, 1) := by decide +kernel
theorem dk_1_set_32 : decode bk_1_set 32 = .ok (.invokestatic 102, 3) := by decide +kernel
theorem dk_1_set_35 : decode bk_1_set 35 = .ok (.ifCond .ne 5, 3) := by decide +kernel
theorem dk_1_set_38 : decode bk_1_set 38 = .ok (.iconst (-1), 1) := by decide +kernel
theorem dk_1_set_39 : decode bk_1_set 39 = .ok (.ireturn, 1) := by decide +kernel
theorem dk_1_set_40 : decode bk_1_set 40 = .ok (.aload_n 0, 1) := by decide +kernel
theorem dk_1_set_41 : decode bk_1_set 41 = .ok (.iload_n 1, 1) := by decide +kernel
theorem dk_1_set_42 : decode bk_1_set 42 = .ok (.bipush 60, 2) := by decide +kernel
theorem dk_1_set_44 : decode bk_1_set 44 = .ok (.invokevirtual 150, 3) := by decide +kernel
theorem dk_1_set_47 : decode bk_1_set 47 = .ok (.aload_n 0, 1) := by decide +kernel
theorem dk_1_set_48 : decode bk_1_set 48 = .ok (.iload 4, 2) := by decide +kernel
theorem dk_1_set_50 : decode bk_1_set 50 = .ok (.iload_n 3, 1) := by decide +kernel
theorem dk_1_set_51 : decode bk_1_set 51 = .ok (.invokevirtual 154, 3) := by decide +kernel
theorem dk_1_set_54 : decode bk_1_set 54 = .ok (.aload_n 0, 1) := by decide +kernel
theorem dk_1_set_55 : decode bk_1_set 55 = .ok (.invokevirtual 157, 3) := by decide +kernel
theorem dk_1_set_58 : decode bk_1_set 58 = .ok (.ireturn, 1) := by decide +kernel
theorem dk_1_value_0 : decode bk_1_value 0 = .ok (.aload_n 0, 1) := by decide +kernel
theorem dk_1_value_1 : decode bk_1_value 1 = .ok (.iload_n 2, 1) := by decide +kernel
theorem dk_1_value_2 : decode bk_1_value 2 = .ok (.invokevirtual 106, 3) := by decide +kernel
theorem dk_1_value_5 : decode bk_1_value 5 = .ok (.istore_n 3, 1) := by decide +kernel
theorem dk_1_value_6 : decode bk_1_value 6 = .ok (.iload_n 1, 1) := by decide +kernel
theorem dk_1_value_7 : decode bk_1_value 7 = .ok (.aload_n 0, 1) := by decide +kernel
theorem dk_1_value_8 : decode bk_1_value 8 = .ok (.getfield 113, 3) := by decide +kernel
theorem dk_1_value_11 : decode bk_1_value 11 = .ok (.invokestatic 102, 3) := by decide +kernel
theorem dk_1_value_14 : decode bk_1_value 14 = .ok (.ifCond .eq 8, 3) := by decide +kernel
theorem dk_1_value_17 : decode bk_1_value 17 = .ok (.iload_n 3, 1) := by decide +kernel
theorem dk_1_value_18 : decode bk_1_value 18 = .ok (.iconst (-1), 1) := by decide +kernel
theorem dk_1_value_19 : decode bk_1_value 19 = .ok (.if_icmp .ne 7, 3) := by decide +kernel
theorem dk_1_value_22 : decode bk_1_value 22 = .ok (.iconst (-1), 1) := by decide +kernel
theorem dk_1_value_23 : decode bk_1_value 23 = .ok (.goto 14, 3) := by decide +kernel
theorem dk_1_value_26 : decode bk_1_value 26 = .ok (.aload_n 0, 1) := by decide +kernel
theorem dk_1_value_27 : decode bk_1_value 27 = .ok (.getfield 25, 3) := by decide +kernel
theorem dk_1_value_30 : decode bk_1_value 30 = .ok (.bipush 16, 2) := by decide +kernel
theorem dk_1_value_32 : decode bk_1_value 32 = .ok (.iload_n 1, 1) := by decide +kernel
theorem dk_1_value_33 : decode bk_1_value 33 = .ok (.imul, 1) := by decide +kernel
theorem dk_1_value_34 : decode bk_1_value 34 = .ok (.iload_n 3, 1) := by decide +kernel
theorem dk_1_value_35 : decode bk_1_value 35 = .ok (.iadd, 1) := by decide +kernel
theorem dk_1_value_36 : decode bk_1_value 36 = .ok (.iaload, 1) := by decide +kernel
theorem dk_1_value_37 : decode bk_1_value 37 = .ok (.ireturn, 1) := by decide +kernel
