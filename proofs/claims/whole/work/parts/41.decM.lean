theorem dk_1_asks_0 : decode bk_1_asks 0 = .ok (.iload_n 1, 1) := by decide +kernel
theorem dk_1_asks_1 : decode bk_1_asks 1 = .ok (.aload_n 0, 1) := by decide +kernel
theorem dk_1_asks_2 : decode bk_1_asks 2 = .ok (.getfield 116, 3) := by decide +kernel
theorem dk_1_asks_5 : decode bk_1_asks 5 = .ok (.invokestatic 102, 3) := by decide +kernel
theorem dk_1_asks_8 : decode bk_1_asks 8 = .ok (.ifCond .eq 37, 3) := by decide +kernel
theorem dk_1_asks_11 : decode bk_1_asks 11 = .ok (.iload_n 3, 1) := by decide +kernel
theorem dk_1_asks_12 : decode bk_1_asks 12 = .ok (.iload_n 2, 1) := by decide +kernel
theorem dk_1_asks_13 : decode bk_1_asks 13 = .ok (.ifCond .eq 8, 3) := by decide +kernel
theorem dk_1_asks_16 : decode bk_1_asks 16 = .ok (.bipush 8, 2) := by decide +kernel
theorem dk_1_asks_18 : decode bk_1_asks 18 = .ok (.goto 7, 3) := by decide +kernel
theorem dk_1_asks_21 : decode bk_1_asks 21 = .ok (.aload_n 0, 1) := by decide +kernel
theorem dk_1_asks_22 : decode bk_1_asks 22 = .ok (.getfield 99, 3) := by decide +kernel
theorem dk_1_asks_25 : decode bk_1_asks 25 = .ok (.invokestatic 102, 3) := by decide +kernel
theorem dk_1_asks_28 : decode bk_1_asks 28 = .ok (.ifCond .eq 17, 3) := by decide +kernel
theorem dk_1_asks_31 : decode bk_1_asks 31 = .ok (.iload 4, 2) := by decide +kernel
theorem dk_1_asks_33 : decode bk_1_asks 33 = .ok (.bipush 8, 2) := by decide +kernel
theorem dk_1_asks_35 : decode bk_1_asks 35 = .ok (.invokestatic 102, 3) := by decide +kernel
theorem dk_1_asks_38 : decode bk_1_asks 38 = .ok (.ifCond .eq 7, 3) := by decide +kernel
theorem dk_1_asks_41 : decode bk_1_asks 41 = .ok (.iconst 1, 1) := by decide +kernel
theorem dk_1_asks_42 : decode bk_1_asks 42 = .ok (.goto 4, 3) := by decide +kernel
theorem dk_1_asks_45 : decode bk_1_asks 45 = .ok (.iconst 0, 1) := by decide +kernel
theorem dk_1_asks_46 : decode bk_1_asks 46 = .ok (.istore 5, 2) := by decide +kernel
theorem dk_1_asks_48 : decode bk_1_asks 48 = .ok (.iload 5, 2) := by decide +kernel
theorem dk_1_asks_50 : decode bk_1_asks 50 = .ok (.ifCond .eq 22, 3) := by decide +kernel
theorem dk_1_asks_53 : decode bk_1_asks 53 = .ok (.aload_n 0, 1) := by decide +kernel
theorem dk_1_asks_54 : decode bk_1_asks 54 = .ok (.getfield 28, 3) := by decide +kernel
theorem dk_1_asks_57 : decode bk_1_asks 57 = .ok (.iload_n 1, 1) := by decide +kernel
theorem dk_1_asks_58 : decode bk_1_asks 58 = .ok (.iaload, 1) := by decide +kernel
theorem dk_1_asks_59 : decode bk_1_asks 59 = .ok (.bipush 6, 2) := by decide +kernel
theorem dk_1_asks_61 : decode bk_1_asks 61 = .ok (.if_icmp .eq 11, 3) := by decide +kernel
theorem dk_1_asks_64 : decode bk_1_asks 64 = .ok (.aload_n 0, 1) := by decide +kernel
theorem dk_1_asks_65 : decode bk_1_asks 65 = .ok (.iload_n 1, 1) := by decide +kernel
theorem dk_1_asks_66 : decode bk_1_asks 66 = .ok (.invokevirtual 122, 3) := by decide +kernel
theorem dk_1_asks_69 : decode bk_1_asks 69 = .ok (.ifCond .eq 5, 3) := by decide +kernel
theorem dk_1_asks_72 : decode bk_1_asks 72 = .ok (.iconst 0, 1) := by decide +kernel
theorem dk_1_asks_73 : decode bk_1_asks 73 = .ok (.ireturn, 1) := by decide +kernel
theorem dk_1_asks_74 : decode bk_1_asks 74 = .ok (.bipush 6, 2) := by decide +kernel
theorem dk_1_asks_76 : decode bk_1_asks 76 = .ok (.iload_n 1, 1) := by decide +kernel
theorem dk_1_asks_77 : decode bk_1_asks 77 = .ok (.imul, 1) := by decide +kernel
theorem dk_1_asks_78 : decode bk_1_asks 78 = .ok (.istore 6, 2) := by decide +kernel
theorem dk_1_asks_80 : decode bk_1_asks 80 = .ok (.iload 6, 2) := by decide +kernel
theorem dk_1_asks_82 : decode bk_1_asks 82 = .ok (.aload_n 0, 1) := by decide +kernel
theorem dk_1_asks_83 : decode bk_1_asks 83 = .ok (.getfield 28, 3) := by decide +kernel
theorem dk_1_asks_86 : decode bk_1_asks 86 = .ok (.iload_n 1, 1) := by decide +kernel
theorem dk_1_asks_87 : decode bk_1_asks 87 = .ok (.iaload, 1) := by decide +kernel
theorem dk_1_asks_88 : decode bk_1_asks 88 = .ok (.iadd, 1) := by decide +kernel
theorem dk_1_asks_89 : decode bk_1_asks 89 = .ok (.istore 7, 2) := by decide +kernel
theorem dk_1_asks_91 : decode bk_1_asks 91 = .ok (.iload 6, 2) := by decide +kernel
theorem dk_1_asks_93 : decode bk_1_asks 93 = .ok (.istore 8, 2) := by decide +kernel
theorem dk_1_asks_95 : decode bk_1_asks 95 = .ok (.iload 8, 2) := by decide +kernel
theorem dk_1_asks_97 : decode bk_1_asks 97 = .ok (.iload 7, 2) := by decide +kernel
theorem dk_1_asks_99 : decode bk_1_asks 99 = .ok (.if_icmp .ge 45, 3) := by decide +kernel
theorem dk_1_asks_102 : decode bk_1_asks 102 = .ok (.aload_n 0, 1) := by decide +kernel
theorem dk_1_asks_103 : decode bk_1_asks 103 = .ok (.getfield 37, 3) := by decide +kernel
theorem dk_1_asks_106 : decode bk_1_asks 106 = .ok (.iload 8, 2) := by decide +kernel
theorem dk_1_asks_108 : decode bk_1_asks 108 = .ok (.baload, 1) := by decide +kernel
theorem dk_1_asks_109 : decode bk_1_asks 109 = .ok (.iload_n 2, 1) := by decide +kernel
theorem dk_1_asks_110 : decode bk_1_asks 110 = .ok (.if_icmp .ne 28, 3) := by decide +kernel
theorem dk_1_asks_113 : decode bk_1_asks 113 = .ok (.aload_n 0, 1) := by decide +kernel
theorem dk_1_asks_114 : decode bk_1_asks 114 = .ok (.getfield 31, 3) := by decide +kernel
theorem dk_1_asks_117 : decode bk_1_asks 117 = .ok (.iload 8, 2) := by decide +kernel
theorem dk_1_asks_119 : decode bk_1_asks 119 = .ok (.iaload, 1) := by decide +kernel
theorem dk_1_asks_120 : decode bk_1_asks 120 = .ok (.iload_n 3, 1) := by decide +kernel
theorem dk_1_asks_121 : decode bk_1_asks 121 = .ok (.if_icmp .ne 17, 3) := by decide +kernel
theorem dk_1_asks_124 : decode bk_1_asks 124 = .ok (.aload_n 0, 1) := by decide +kernel
theorem dk_1_asks_125 : decode bk_1_asks 125 = .ok (.getfield 34, 3) := by decide +kernel
theorem dk_1_asks_128 : decode bk_1_asks 128 = .ok (.iload 8, 2) := by decide +kernel
theorem dk_1_asks_130 : decode bk_1_asks 130 = .ok (.iaload, 1) := by decide +kernel
theorem dk_1_asks_131 : decode bk_1_asks 131 = .ok (.iload 4, 2) := by decide +kernel
theorem dk_1_asks_133 : decode bk_1_asks 133 = .ok (.if_icmp .ne 5, 3) := by decide +kernel
theorem dk_1_asks_136 : decode bk_1_asks 136 = .ok (.iconst 0, 1) := by decide +kernel
theorem dk_1_asks_137 : decode bk_1_asks 137 = .ok (.ireturn, 1) := by decide +kernel
theorem dk_1_asks_138 : decode bk_1_asks 138 = .ok (.iinc 8 1, 3) := by decide +kernel
theorem dk_1_asks_141 : decode bk_1_asks 141 = .ok (.goto (-46), 3) := by decide +kernel
theorem dk_1_asks_144 : decode bk_1_asks 144 = .ok (.aload_n 0, 1) := by decide +kernel
theorem dk_1_asks_145 : decode bk_1_asks 145 = .ok (.getfield 37, 3) := by decide +kernel
theorem dk_1_asks_148 : decode bk_1_asks 148 = .ok (.iload 7, 2) := by decide +kernel
theorem dk_1_asks_150 : decode bk_1_asks 150 = .ok (.iload_n 2, 1) := by decide +kernel
theorem dk_1_asks_151 : decode bk_1_asks 151 = .ok (.bastore, 1) := by decide +kernel
theorem dk_1_asks_152 : decode bk_1_asks 152 = .ok (.aload_n 0, 1) := by decide +kernel
theorem dk_1_asks_153 : decode bk_1_asks 153 = .ok (.getfield 31, 3) := by decide +kernel
theorem dk_1_asks_156 : decode bk_1_asks 156 = .ok (.iload 7, 2) := by decide +kernel
theorem dk_1_asks_158 : decode bk_1_asks 158 = .ok (.iload_n 3, 1) := by decide +kernel
theorem dk_1_asks_159 : decode bk_1_asks 159 = .ok (.iastore, 1) := by decide +kernel
theorem dk_1_asks_160 : decode bk_1_asks 160 = .ok (.aload_n 0, 1) := by decide +kernel
theorem dk_1_asks_161 : decode bk_1_asks 161 = .ok (.getfield 34, 3) := by decide +kernel
theorem dk_1_asks_164 : decode bk_1_asks 164 = .ok (.iload 7, 2) := by decide +kernel
theorem dk_1_asks_166 : decode bk_1_asks 166 = .ok (.iload 4, 2) := by decide +kernel
theorem dk_1_asks_168 : decode bk_1_asks 168 = .ok (.iastore, 1) := by decide +kernel
theorem dk_1_asks_169 : decode bk_1_asks 169 = .ok (.aload_n 0, 1) := by decide +kernel
theorem dk_1_asks_170 : decode bk_1_asks 170 = .ok (.getfield 28, 3) := by decide +kernel
theorem dk_1_asks_173 : decode bk_1_asks 173 = .ok (.iload_n 1, 1) := by decide +kernel
theorem dk_1_asks_174 : decode bk_1_asks 174 = .ok (.dup2, 1) := by decide +kernel
theorem dk_1_asks_175 : decode bk_1_asks 175 = .ok (.iaload, 1) := by decide +kernel
theorem dk_1_asks_176 : decode bk_1_asks 176 = .ok (.iconst 1, 1) := by decide +kernel
theorem dk_1_asks_177 : decode bk_1_asks 177 = .ok (.iadd, 1) := by decide +kernel
theorem dk_1_asks_178 : decode bk_1_asks 178 = .ok (.iastore, 1) := by decide +kernel
theorem dk_1_asks_179 : decode bk_1_asks 179 = .ok (.iconst 1, 1) := by decide +kernel
theorem dk_1_asks_180 : decode bk_1_asks 180 = .ok (.ireturn, 1) := by decide +kernel
theorem dk_1_isSo_0 : decode bk_1_isSo 0 = .ok (.aload_n 0, 1) := by decide +kernel
theorem dk_1_isSo_1 : decode bk_1_isSo 1 = .ok (.getfield 37, 3) := by decide +kernel
theorem dk_1_isSo_4 : decode bk_1_isSo 4 = .ok (.iload_n 1, 1) := by decide +kernel
theorem dk_1_isSo_5 : decode bk_1_isSo 5 = .ok (.baload, 1) := by decide +kernel
theorem dk_1_isSo_6 : decode bk_1_isSo 6 = .ok (.ifCond .eq 39, 3) := by decide +kernel
theorem dk_1_isSo_9 : decode bk_1_isSo 9 = .ok (.aload_n 0, 1) := by decide +kernel
theorem dk_1_isSo_10 : decode bk_1_isSo 10 = .ok (.getfield 19, 3) := by decide +kernel
theorem dk_1_isSo_13 : decode bk_1_isSo 13 = .ok (.bipush 8, 2) := by decide +kernel
theorem dk_1_isSo_15 : decode bk_1_isSo 15 = .ok (.aload_n 0, 1) := by decide +kernel
theorem dk_1_isSo_16 : decode bk_1_isSo 16 = .ok (.getfield 22, 3) := by decide +kernel
theorem dk_1_isSo_19 : decode bk_1_isSo 19 = .ok (.iload_n 2, 1) := by decide +kernel
theorem dk_1_isSo_20 : decode bk_1_isSo 20 = .ok (.iaload, 1) := by decide +kernel
theorem dk_1_isSo_21 : decode bk_1_isSo 21 = .ok (.imul, 1) := by decide +kernel
theorem dk_1_isSo_22 : decode bk_1_isSo 22 = .ok (.aload_n 0, 1) := by decide +kernel
theorem dk_1_isSo_23 : decode bk_1_isSo 23 = .ok (.getfield 31, 3) := by decide +kernel
theorem dk_1_isSo_26 : decode bk_1_isSo 26 = .ok (.iload_n 1, 1) := by decide +kernel
theorem dk_1_isSo_27 : decode bk_1_isSo 27 = .ok (.iaload, 1) := by decide +kernel
theorem dk_1_isSo_28 : decode bk_1_isSo 28 = .ok (.iadd, 1) := by decide +kernel
theorem dk_1_isSo_29 : decode bk_1_isSo 29 = .ok (.iaload, 1) := by decide +kernel
theorem dk_1_isSo_30 : decode bk_1_isSo 30 = .ok (.aload_n 0, 1) := by decide +kernel
theorem dk_1_isSo_31 : decode bk_1_isSo 31 = .ok (.getfield 34, 3) := by decide +kernel
theorem dk_1_isSo_34 : decode bk_1_isSo 34 = .ok (.iload_n 1, 1) := by decide +kernel
theorem dk_1_isSo_35 : decode bk_1_isSo 35 = .ok (.iaload, 1) := by decide +kernel
theorem dk_1_isSo_36 : decode bk_1_isSo 36 = .ok (.if_icmp .ne 7, 3) := by decide +kernel
theorem dk_1_isSo_39 : decode bk_1_isSo 39 = .ok (.iconst 1, 1) := by decide +kernel
theorem dk_1_isSo_40 : decode bk_1_isSo 40 = .ok (.goto 4, 3) := by decide +kernel
theorem dk_1_isSo_43 : decode bk_1_isSo 43 = .ok (.iconst 0, 1) := by decide +kernel
theorem dk_1_isSo_44 : decode bk_1_isSo 44 = .ok (.ireturn, 1) := by decide +kernel
theorem dk_1_isSo_45 : decode bk_1_isSo 45 = .ok (.aload_n 0, 1) := by decide +kernel
theorem dk_1_isSo_46 : decode bk_1_isSo 46 = .ok (.aload_n 0, 1) := by decide +kernel
theorem dk_1_isSo_47 : decode bk_1_isSo 47 = .ok (.getfield 31, 3) := by decide +kernel
theorem dk_1_isSo_50 : decode bk_1_isSo 50 = .ok (.iload_n 1, 1) := by decide +kernel
theorem dk_1_isSo_51 : decode bk_1_isSo 51 = .ok (.iaload, 1) := by decide +kernel
theorem dk_1_isSo_52 : decode bk_1_isSo 52 = .ok (.invokevirtual 106, 3) := by decide +kernel
theorem dk_1_isSo_55 : decode bk_1_isSo 55 = .ok (.istore_n 3, 1) := by decide +kernel
theorem dk_1_isSo_56 : decode bk_1_isSo 56 = .ok (.iload_n 3, 1) := by decide +kernel
theorem dk_1_isSo_57 : decode bk_1_isSo 57 = .ok (.iconst (-1), 1) := by decide +kernel
theorem dk_1_isSo_58 : decode bk_1_isSo 58 = .ok (.if_icmp .eq 27, 3) := by decide +kernel
theorem dk_1_isSo_61 : decode bk_1_isSo 61 = .ok (.aload_n 0, 1) := by decide +kernel
theorem dk_1_isSo_62 : decode bk_1_isSo 62 = .ok (.getfield 25, 3) := by decide +kernel
theorem dk_1_isSo_65 : decode bk_1_isSo 65 = .ok (.bipush 16, 2) := by decide +kernel
theorem dk_1_isSo_67 : decode bk_1_isSo 67 = .ok (.iload_n 2, 1) := by decide +kernel
theorem dk_1_isSo_68 : decode bk_1_isSo 68 = .ok (.imul, 1) := by decide +kernel
theorem dk_1_isSo_69 : decode bk_1_isSo 69 = .ok (.iload_n 3, 1) := by decide +kernel
theorem dk_1_isSo_70 : decode bk_1_isSo 70 = .ok (.iadd, 1) := by decide +kernel
theorem dk_1_isSo_71 : decode bk_1_isSo 71 = .ok (.iaload, 1) := by decide +kernel
theorem dk_1_isSo_72 : decode bk_1_isSo 72 = .ok (.aload_n 0, 1) := by decide +kernel
theorem dk_1_isSo_73 : decode bk_1_isSo 73 = .ok (.getfield 34, 3) := by decide +kernel
theorem dk_1_isSo_76 : decode bk_1_isSo 76 = .ok (.iload_n 1, 1) := by decide +kernel
theorem dk_1_isSo_77 : decode bk_1_isSo 77 = .ok (.iaload, 1) := by decide +kernel
theorem dk_1_isSo_78 : decode bk_1_isSo 78 = .ok (.if_icmp .ne 7, 3) := by decide +kernel
theorem dk_1_isSo_81 : decode bk_1_isSo 81 = .ok (.iconst 1, 1) := by decide +kernel
theorem dk_1_isSo_82 : decode bk_1_isSo 82 = .ok (.goto 4, 3) := by decide +kernel
theorem dk_1_isSo_85 : decode bk_1_isSo 85 = .ok (.iconst 0, 1) := by decide +kernel
theorem dk_1_isSo_86 : decode bk_1_isSo 86 = .ok (.ireturn, 1) := by decide +kernel
theorem dk_1_isHolding_0 : decode bk_1_isHolding 0 = .ok (.iconst 1, 1) := by decide +kernel
theorem dk_1_isHolding_1 : decode bk_1_isHolding 1 = .ok (.istore_n 3, 1) := by decide +kernel
theorem dk_1_isHolding_2 : decode bk_1_isHolding 2 = .ok (.bipush 6, 2) := by decide +kernel
theorem dk_1_isHolding_4 : decode bk_1_isHolding 4 = .ok (.iload_n 1, 1) := by decide +kernel
theorem dk_1_isHolding_5 : decode bk_1_isHolding 5 = .ok (.imul, 1) := by decide +kernel
theorem dk_1_isHolding_6 : decode bk_1_isHolding 6 = .ok (.istore 4, 2) := by decide +kernel
theorem dk_1_isHolding_8 : decode bk_1_isHolding 8 = .ok (.iload 4, 2) := by decide +kernel
theorem dk_1_isHolding_10 : decode bk_1_isHolding 10 = .ok (.bipush 6, 2) := by decide +kernel
theorem dk_1_isHolding_12 : decode bk_1_isHolding 12 = .ok (.iload_n 1, 1) := by decide +kernel
theorem dk_1_isHolding_13 : decode bk_1_isHolding 13 = .ok (.imul, 1) := by decide +kernel
theorem dk_1_isHolding_14 : decode bk_1_isHolding 14 = .ok (.aload_n 0, 1) := by decide +kernel
theorem dk_1_isHolding_15 : decode bk_1_isHolding 15 = .ok (.getfield 28, 3) := by decide +kernel
theorem dk_1_isHolding_18 : decode bk_1_isHolding 18 = .ok (.iload_n 1, 1) := by decide +kernel
theorem dk_1_isHolding_19 : decode bk_1_isHolding 19 = .ok (.iaload, 1) := by decide +kernel
theorem dk_1_isHolding_20 : decode bk_1_isHolding 20 = .ok (.iadd, 1) := by decide +kernel
theorem dk_1_isHolding_21 : decode bk_1_isHolding 21 = .ok (.if_icmp .ge 29, 3) := by decide +kernel
theorem dk_1_isHolding_24 : decode bk_1_isHolding 24 = .ok (.iload_n 3, 1) := by decide +kernel
theorem dk_1_isHolding_25 : decode bk_1_isHolding 25 = .ok (.ifCond .eq 17, 3) := by decide +kernel
theorem dk_1_isHolding_28 : decode bk_1_isHolding 28 = .ok (.aload_n 0, 1) := by decide +kernel
theorem dk_1_isHolding_29 : decode bk_1_isHolding 29 = .ok (.iload 4, 2) := by decide +kernel
theorem dk_1_isHolding_31 : decode bk_1_isHolding 31 = .ok (.iload_n 2, 1) := by decide +kernel
theorem dk_1_isHolding_32 : decode bk_1_isHolding 32 = .ok (.invokevirtual 126, 3) := by decide +kernel
theorem dk_1_isHolding_35 : decode bk_1_isHolding 35 = .ok (.ifCond .eq 7, 3) := by decide +kernel
theorem dk_1_isHolding_38 : decode bk_1_isHolding 38 = .ok (.iconst 1, 1) := by decide +kernel
theorem dk_1_isHolding_39 : decode bk_1_isHolding 39 = .ok (.goto 4, 3) := by decide +kernel
theorem dk_1_isHolding_42 : decode bk_1_isHolding 42 = .ok (.iconst 0, 1) := by decide +kernel
theorem dk_1_isHolding_43 : decode bk_1_isHolding 43 = .ok (.istore_n 3, 1) := by decide +kernel
theorem dk_1_isHolding_44 : decode bk_1_isHolding 44 = .ok (.iinc 4 1, 3) := by decide +kernel
theorem dk_1_isHolding_47 : decode bk_1_isHolding 47 = .ok (.goto (-39), 3) := by decide +kernel
theorem dk_1_isHolding_50 : decode bk_1_isHolding 50 = .ok (.iload_n 3, 1) := by decide +kernel
theorem dk_1_isHolding_51 : decode bk_1_isHolding 51 = .ok (.ireturn, 1) := by decide +kernel
theorem dk_1_holds_0 : decode bk_1_holds 0 = .ok (.iload_n 1, 1) := by decide +kernel
theorem dk_1_holds_1 : decode bk_1_holds 1 = .ok (.aload_n 0, 1) := by decide +kernel
theorem dk_1_holds_2 : decode bk_1_holds 2 = .ok (.getfield 116, 3) := by decide +kernel
theorem dk_1_holds_5 : decode bk_1_holds 5 = .ok (.invokestatic 102, 3) := by decide +kernel
theorem dk_1_holds_8 : decode bk_1_holds 8 = .ok (.ifCond .eq 27, 3) := by decide +kernel
theorem dk_1_holds_11 : decode bk_1_holds 11 = .ok (.iload_n 2, 1) := by decide +kernel
theorem dk_1_holds_12 : decode bk_1_holds 12 = .ok (.aload_n 0, 1) := by decide +kernel
theorem dk_1_holds_13 : decode bk_1_holds 13 = .ok (.getfield 113, 3) := by decide +kernel
theorem dk_1_holds_16 : decode bk_1_holds 16 = .ok (.invokestatic 102, 3) := by decide +kernel
theorem dk_1_holds_19 : decode bk_1_holds 19 = .ok (.ifCond .eq 16, 3) := by decide +kernel
theorem dk_1_holds_22 : decode bk_1_holds 22 = .ok (.aload_n 0, 1) := by decide +kernel
theorem dk_1_holds_23 : decode bk_1_holds 23 = .ok (.iload_n 1, 1) := by decide +kernel
theorem dk_1_holds_24 : decode bk_1_holds 24 = .ok (.iload_n 2, 1) := by decide +kernel
theorem dk_1_holds_25 : decode bk_1_holds 25 = .ok (.invokevirtual 129, 3) := by decide +kernel
theorem dk_1_holds_28 : decode bk_1_holds 28 = .ok (.ifCond .eq 7, 3) := by decide +kernel
theorem dk_1_holds_31 : decode bk_1_holds 31 = .ok (.iconst 1, 1) := by decide +kernel
theorem dk_1_holds_32 : decode bk_1_holds 32 = .ok (.goto 4, 3) := by decide +kernel
theorem dk_1_holds_35 : decode bk_1_holds 35 = .ok (.iconst 0, 1) := by decide +kernel
theorem dk_1_holds_36 : decode bk_1_holds 36 = .ok (.ireturn, 1) := by decide +kernel
theorem dk_1_about_0 : decode bk_1_about 0 = .ok (.aload_n 0, 1) := by decide +kernel
theorem dk_1_about_1 : decode bk_1_about 1 = .ok (.getfield 31, 3) := by decide +kernel
theorem dk_1_about_4 : decode bk_1_about 4 = .ok (.iload_n 1, 1) := by decide +kernel
theorem dk_1_about_5 : decode bk_1_about 5 = .ok (.iaload, 1) := by decide +kernel
theorem dk_1_about_6 : decode bk_1_about 6 = .ok (.istore_n 2, 1) := by decide +kernel
theorem dk_1_about_7 : decode bk_1_about 7 = .ok (.aload_n 0, 1) := by decide +kernel
theorem dk_1_about_8 : decode bk_1_about 8 = .ok (.getfield 37, 3) := by decide +kernel
theorem dk_1_about_11 : decode bk_1_about 11 = .ok (.iload_n 1, 1) := by decide +kernel
theorem dk_1_about_12 : decode bk_1_about 12 = .ok (.baload, 1) := by decide +kernel
theorem dk_1_about_13 : decode bk_1_about 13 = .ok (.ifCond .eq 7, 3) := by decide +kernel
theorem dk_1_about_16 : decode bk_1_about 16 = .ok (.iconst (-1), 1) := by decide +kernel
theorem dk_1_about_17 : decode bk_1_about 17 = .ok (.goto 8, 3) := by decide +kernel
theorem dk_1_about_20 : decode bk_1_about 20 = .ok (.aload_n 0, 1) := by decide +kernel
theorem dk_1_about_21 : decode bk_1_about 21 = .ok (.iload_n 2, 1) := by decide +kernel
theorem dk_1_about_22 : decode bk_1_about 22 = .ok (.invokevirtual 106, 3) := by decide +kernel
theorem dk_1_about_25 : decode bk_1_about 25 = .ok (.istore_n 3, 1) := by decide +kernel
theorem dk_1_about_26 : decode bk_1_about 26 = .ok (.aload_n 0, 1) := by decide +kernel
theorem dk_1_about_27 : decode bk_1_about 27 = .ok (.getfield 37, 3) := by decide +kernel
theorem dk_1_about_30 : decode bk_1_about 30 = .ok (.iload_n 1, 1) := by decide +kernel
theorem dk_1_about_31 : decode bk_1_about 31 = .ok (.baload, 1) := by decide +kernel
theorem dk_1_about_32 : decode bk_1_about 32 = .ok (.ifCond .eq 11, 3) := by decide +kernel
theorem dk_1_about_35 : decode bk_1_about 35 = .ok (.sipush 200, 3) := by decide +kernel
theorem dk_1_about_38 : decode bk_1_about 38 = .ok (.iload_n 2, 1) := by decide +kernel
theorem dk_1_about_39 : decode bk_1_about 39 = .ok (.iadd, 1) := by decide +kernel
theorem dk_1_about_40 : decode bk_1_about 40 = .ok (.goto 16, 3) := by decide +kernel
theorem dk_1_about_43 : decode bk_1_about 43 = .ok (.iload_n 3, 1) := by decide +kernel
theorem dk_1_about_44 : decode bk_1_about 44 = .ok (.iconst (-1), 1) := by decide +kernel
theorem dk_1_about_45 : decode bk_1_about 45 = .ok (.if_icmp .ne 10, 3) := by decide +kernel
theorem dk_1_about_48 : decode bk_1_about 48 = .ok (.bipush 100, 2) := by decide +kernel
theorem dk_1_about_50 : decode bk_1_about 50 = .ok (.iload_n 2, 1) := by decide +kernel
theorem dk_1_about_51 : decode bk_1_about 51 = .ok (.iadd, 1) := by decide +kernel
theorem dk_1_about_52 : decode bk_1_about 52 = .ok (.goto 4, 3) := by decide +kernel
theorem dk_1_about_55 : decode bk_1_about 55 = .ok (.iload_n 3, 1) := by decide +kernel
theorem dk_1_about_56 : decode bk_1_about 56 = .ok (.istore 4, 2) := by decide +kernel
theorem dk_1_about_58 : decode bk_1_about 58 = .ok (.bipush 8, 2) := by decide +kernel
theorem dk_1_about_60 : decode bk_1_about 60 = .ok (.iload 4, 2) := by decide +kernel
theorem dk_1_about_62 : decode bk_1_about 62 = .ok (.imul, 1) := by decide +kernel
theorem dk_1_about_63 : decode bk_1_about 63 = .ok (.aload_n 0, 1) := by decide +kernel
theorem dk_1_about_64 : decode bk_1_about 64 = .ok (.getfield 34, 3) := by decide +kernel
theorem dk_1_about_67 : decode bk_1_about 67 = .ok (.iload_n 1, 1) := by decide +kernel
theorem dk_1_about_68 : decode bk_1_about 68 = .ok (.iaload, 1) := by decide +kernel
theorem dk_1_about_69 : decode bk_1_about 69 = .ok (.iadd, 1) := by decide +kernel
theorem dk_1_about_70 : decode bk_1_about 70 = .ok (.ireturn, 1) := by decide +kernel
theorem dk_1_hasAll_0 : decode bk_1_hasAll 0 = .ok (.iconst 1, 1) := by decide +kernel
theorem dk_1_hasAll_1 : decode bk_1_hasAll 1 = .ok (.istore_n 3, 1) := by decide +kernel
theorem dk_1_hasAll_2 : decode bk_1_hasAll 2 = .ok (.bipush 6, 2) := by decide +kernel
theorem dk_1_hasAll_4 : decode bk_1_hasAll 4 = .ok (.iload_n 2, 1) := by decide +kernel
theorem dk_1_hasAll_5 : decode bk_1_hasAll 5 = .ok (.imul, 1) := by decide +kernel
theorem dk_1_hasAll_6 : decode bk_1_hasAll 6 = .ok (.istore 4, 2) := by decide +kernel
theorem dk_1_hasAll_8 : decode bk_1_hasAll 8 = .ok (.iload 4, 2) := by decide +kernel
theorem dk_1_hasAll_10 : decode bk_1_hasAll 10 = .ok (.bipush 6, 2) := by decide +kernel
theorem dk_1_hasAll_12 : decode bk_1_hasAll 12 = .ok (.iload_n 2, 1) := by decide +kernel
theorem dk_1_hasAll_13 : decode bk_1_hasAll 13 = .ok (.imul, 1) := by decide +kernel
theorem dk_1_hasAll_14 : decode bk_1_hasAll 14 = .ok (.aload_n 0, 1) := by decide +kernel
theorem dk_1_hasAll_15 : decode bk_1_hasAll 15 = .ok (.getfield 28, 3) := by decide +kernel
theorem dk_1_hasAll_18 : decode bk_1_hasAll 18 = .ok (.iload_n 2, 1) := by decide +kernel
theorem dk_1_hasAll_19 : decode bk_1_hasAll 19 = .ok (.iaload, 1) := by decide +kernel
theorem dk_1_hasAll_20 : decode bk_1_hasAll 20 = .ok (.iadd, 1) := by decide +kernel
theorem dk_1_hasAll_21 : decode bk_1_hasAll 21 = .ok (.if_icmp .ge 82, 3) := by decide +kernel
theorem dk_1_hasAll_24 : decode bk_1_hasAll 24 = .ok (.iconst 0, 1) := by decide +kernel
theorem dk_1_hasAll_25 : decode bk_1_hasAll 25 = .ok (.istore 5, 2) := by decide +kernel
theorem dk_1_hasAll_27 : decode bk_1_hasAll 27 = .ok (.bipush 6, 2) := by decide +kernel
theorem dk_1_hasAll_29 : decode bk_1_hasAll 29 = .ok (.iload_n 1, 1) := by decide +kernel
theorem dk_1_hasAll_30 : decode bk_1_hasAll 30 = .ok (.imul, 1) := by decide +kernel
theorem dk_1_hasAll_31 : decode bk_1_hasAll 31 = .ok (.istore 6, 2) := by decide +kernel
theorem dk_1_hasAll_33 : decode bk_1_hasAll 33 = .ok (.iload 6, 2) := by decide +kernel
theorem dk_1_hasAll_35 : decode bk_1_hasAll 35 = .ok (.bipush 6, 2) := by decide +kernel
theorem dk_1_hasAll_37 : decode bk_1_hasAll 37 = .ok (.iload_n 1, 1) := by decide +kernel
theorem dk_1_hasAll_38 : decode bk_1_hasAll 38 = .ok (.imul, 1) := by decide +kernel
theorem dk_1_hasAll_39 : decode bk_1_hasAll 39 = .ok (.aload_n 0, 1) := by decide +kernel
theorem dk_1_hasAll_40 : decode bk_1_hasAll 40 = .ok (.getfield 28, 3) := by decide +kernel
theorem dk_1_hasAll_43 : decode bk_1_hasAll 43 = .ok (.iload_n 1, 1) := by decide +kernel
theorem dk_1_hasAll_44 : decode bk_1_hasAll 44 = .ok (.iaload, 1) := by decide +kernel
theorem dk_1_hasAll_45 : decode bk_1_hasAll 45 = .ok (.iadd, 1) := by decide +kernel
theorem dk_1_hasAll_46 : decode bk_1_hasAll 46 = .ok (.if_icmp .ge 36, 3) := by decide +kernel
theorem dk_1_hasAll_49 : decode bk_1_hasAll 49 = .ok (.iload 5, 2) := by decide +kernel
theorem dk_1_hasAll_51 : decode bk_1_hasAll 51 = .ok (.ifCond .ne 18, 3) := by decide +kernel
theorem dk_1_hasAll_54 : decode bk_1_hasAll 54 = .ok (.aload_n 0, 1) := by decide +kernel
theorem dk_1_hasAll_55 : decode bk_1_hasAll 55 = .ok (.iload 6, 2) := by decide +kernel
theorem dk_1_hasAll_57 : decode bk_1_hasAll 57 = .ok (.invokevirtual 132, 3) := by decide +kernel
theorem dk_1_hasAll_60 : decode bk_1_hasAll 60 = .ok (.aload_n 0, 1) := by decide +kernel
theorem dk_1_hasAll_61 : decode bk_1_hasAll 61 = .ok (.iload 4, 2) := by decide +kernel
theorem dk_1_hasAll_63 : decode bk_1_hasAll 63 = .ok (.invokevirtual 132, 3) := by decide +kernel
theorem dk_1_hasAll_66 : decode bk_1_hasAll 66 = .ok (.if_icmp .ne 7, 3) := by decide +kernel
theorem dk_1_hasAll_69 : decode bk_1_hasAll 69 = .ok (.iconst 1, 1) := by decide +kernel
theorem dk_1_hasAll_70 : decode bk_1_hasAll 70 = .ok (.goto 4, 3) := by decide +kernel
theorem dk_1_hasAll_73 : decode bk_1_hasAll 73 = .ok (.iconst 0, 1) := by decide +kernel
theorem dk_1_hasAll_74 : decode bk_1_hasAll 74 = .ok (.istore 5, 2) := by decide +kernel
theorem dk_1_hasAll_76 : decode bk_1_hasAll 76 = .ok (.iinc 6 1, 3) := by decide +kernel
theorem dk_1_hasAll_79 : decode bk_1_hasAll 79 = .ok (.goto (-46), 3) := by decide +kernel
theorem dk_1_hasAll_82 : decode bk_1_hasAll 82 = .ok (.iload_n 3, 1) := by decide +kernel
theorem dk_1_hasAll_83 : decode bk_1_hasAll 83 = .ok (.ifCond .eq 12, 3) := by decide +kernel
theorem dk_1_hasAll_86 : decode bk_1_hasAll 86 = .ok (.iload 5, 2) := by decide +kernel
theorem dk_1_hasAll_88 : decode bk_1_hasAll 88 = .ok (.ifCond .eq 7, 3) := by decide +kernel
theorem dk_1_hasAll_91 : decode bk_1_hasAll 91 = .ok (.iconst 1, 1) := by decide +kernel
theorem dk_1_hasAll_92 : decode bk_1_hasAll 92 = .ok (.goto 4, 3) := by decide +kernel
theorem dk_1_hasAll_95 : decode bk_1_hasAll 95 = .ok (.iconst 0, 1) := by decide +kernel
theorem dk_1_hasAll_96 : decode bk_1_hasAll 96 = .ok (.istore_n 3, 1) := by decide +kernel
theorem dk_1_hasAll_97 : decode bk_1_hasAll 97 = .ok (.iinc 4 1, 3) := by decide +kernel
theorem dk_1_hasAll_100 : decode bk_1_hasAll 100 = .ok (.goto (-92), 3) := by decide +kernel
theorem dk_1_hasAll_103 : decode bk_1_hasAll 103 = .ok (.iload_n 3, 1) := by decide +kernel
theorem dk_1_hasAll_104 : decode bk_1_hasAll 104 = .ok (.ireturn, 1) := by decide +kernel
theorem dk_1_isSpecial_0 : decode bk_1_isSpecial 0 = .ok (.aload_n 0, 1) := by decide +kernel
theorem dk_1_isSpecial_1 : decode bk_1_isSpecial 1 = .ok (.iload_n 1, 1) := by decide +kernel
theorem dk_1_isSpecial_2 : decode bk_1_isSpecial 2 = .ok (.iload_n 2, 1) := by decide +kernel
theorem dk_1_isSpecial_3 : decode bk_1_isSpecial 3 = .ok (.invokevirtual 135, 3) := by decide +kernel
theorem dk_1_isSpecial_6 : decode bk_1_isSpecial 6 = .ok (.ifCond .eq 16, 3) := by decide +kernel
theorem dk_1_isSpecial_9 : decode bk_1_isSpecial 9 = .ok (.aload_n 0, 1) := by decide +kernel
theorem dk_1_isSpecial_10 : decode bk_1_isSpecial 10 = .ok (.iload_n 2, 1) := by decide +kernel
theorem dk_1_isSpecial_11 : decode bk_1_isSpecial 11 = .ok (.iload_n 1, 1) := by decide +kernel
theorem dk_1_isSpecial_12 : decode bk_1_isSpecial 12 = .ok (.invokevirtual 135, 3) := by decide +kernel
theorem dk_1_isSpecial_15 : decode bk_1_isSpecial 15 = .ok (.ifCond .ne 7, 3) := by decide +kernel
theorem dk_1_isSpecial_18 : decode bk_1_isSpecial 18 = .ok (.iconst 1, 1) := by decide +kernel
theorem dk_1_isSpecial_19 : decode bk_1_isSpecial 19 = .ok (.goto 4, 3) := by decide +kernel
theorem dk_1_isSpecial_22 : decode bk_1_isSpecial 22 = .ok (.iconst 0, 1) := by decide +kernel
theorem dk_1_isSpecial_23 : decode bk_1_isSpecial 23 = .ok (.ireturn, 1) := by decide +kernel
theorem dk_1_target_0 : decode bk_1_target 0 = .ok (.aload_n 0, 1) := by decide +kernel
theorem dk_1_target_1 : decode bk_1_target 1 = .ok (.getfield 138, 3) := by decide +kernel
theorem dk_1_target_4 : decode bk_1_target 4 = .ok (.bipush 16, 2) := by decide +kernel
theorem dk_1_target_6 : decode bk_1_target 6 = .ok (.if_icmp .ne 5, 3) := by decide +kernel
theorem dk_1_target_9 : decode bk_1_target 9 = .ok (.iconst (-1), 1) := by decide +kernel
theorem dk_1_target_10 : decode bk_1_target 10 = .ok (.ireturn, 1) := by decide +kernel
theorem dk_1_target_11 : decode bk_1_target 11 = .ok (.aload_n 0, 1) := by decide +kernel
theorem dk_1_target_12 : decode bk_1_target 12 = .ok (.getfield 62, 3) := by decide +kernel
theorem dk_1_target_15 : decode bk_1_target 15 = .ok (.aload_n 0, 1) := by decide +kernel
theorem dk_1_target_16 : decode bk_1_target 16 = .ok (.getfield 138, 3) := by decide +kernel
theorem dk_1_target_19 : decode bk_1_target 19 = .ok (.iconst (-1), 1) := by decide +kernel
theorem dk_1_target_20 : decode bk_1_target 20 = .ok (.iastore, 1) := by decide +kernel
theorem dk_1_target_21 : decode bk_1_target 21 = .ok (.aload_n 0, 1) := by decide +kernel
theorem dk_1_target_22 : decode bk_1_target 22 = .ok (.dup, 1) := by decide +kernel
theorem dk_1_target_23 : decode bk_1_target 23 = .ok (.getfield 138, 3) := by decide +kernel
theorem dk_1_target_26 : decode bk_1_target 26 = .ok (.iconst 1, 1) := by decide +kernel
theorem dk_1_target_27 : decode bk_1_target 27 = .ok (.iadd, 1) := by decide +kernel
theorem dk_1_target_28 : decode bk_1_target 28 = .ok (.putfield 138, 3) := by decide +kernel
theorem dk_1_target_31 : decode bk_1_target 31 = .ok (.aload_n 0, 1) := by decide +kernel
theorem dk_1_target_32 : decode bk_1_target 32 = .ok (.getfield 138, 3) := by decide +kernel
theorem dk_1_target_35 : decode bk_1_target 35 = .ok (.iconst 1, 1) := by decide +kernel
theorem dk_1_target_36 : decode bk_1_target 36 = .ok (.isub, 1) := by decide +kernel
theorem dk_1_target_37 : decode bk_1_target 37 = .ok (.ireturn, 1) := by decide +kernel
theorem dk_1_wants_0 : decode bk_1_wants 0 = .ok (.iload_n 1, 1) := by decide +kernel
theorem dk_1_wants_1 : decode bk_1_wants 1 = .ok (.aload_n 0, 1) := by decide +kernel
theorem dk_1_wants_2 : decode bk_1_wants 2 = .ok (.getfield 138, 3) := by decide +kernel
theorem dk_1_wants_5 : decode bk_1_wants 5 = .ok (.invokestatic 102, 3) := by decide +kernel
theorem dk_1_wants_8 : decode bk_1_wants 8 = .ok (.ifCond .eq 14, 3) := by decide +kernel
theorem dk_1_wants_11 : decode bk_1_wants 11 = .ok (.iload_n 2, 1) := by decide +kernel
theorem dk_1_wants_12 : decode bk_1_wants 12 = .ok (.aload_n 0, 1) := by decide +kernel
theorem dk_1_wants_13 : decode bk_1_wants 13 = .ok (.getfield 116, 3) := by decide +kernel
theorem dk_1_wants_16 : decode bk_1_wants 16 = .ok (.invokestatic 102, 3) := by decide +kernel
theorem dk_1_wants_19 : decode bk_1_wants 19 = .ok (.ifCond .ne 5, 3) := by decide +kernel
theorem dk_1_wants_22 : decode bk_1_wants 22 = .ok (.iconst 0, 1) := by decide +kernel
theorem dk_1_wants_23 : decode bk_1_wants 23 = .ok (.ireturn, 1) := by decide +kernel
theorem dk_1_wants_24 : decode bk_1_wants 24 = .ok (.aload_n 0, 1) := by decide +kernel
theorem dk_1_wants_25 : decode bk_1_wants 25 = .ok (.getfield 62, 3) := by decide +kernel
theorem dk_1_wants_28 : decode bk_1_wants 28 = .ok (.iload_n 1, 1) := by decide +kernel
theorem dk_1_wants_29 : decode bk_1_wants 29 = .ok (.iload_n 2, 1) := by decide +kernel
theorem dk_1_wants_30 : decode bk_1_wants 30 = .ok (.iastore, 1) := by decide +kernel
theorem dk_1_wants_31 : decode bk_1_wants 31 = .ok (.aload_n 0, 1) := by decide +kernel
theorem dk_1_wants_32 : decode bk_1_wants 32 = .ok (.getfield 65, 3) := by decide +kernel
theorem dk_1_wants_35 : decode bk_1_wants 35 = .ok (.iload_n 2, 1) := by decide +kernel
theorem dk_1_wants_36 : decode bk_1_wants 36 = .ok (.iconst 1, 1) := by decide +kernel
theorem dk_1_wants_37 : decode bk_1_wants 37 = .ok (.bastore, 1) := by decide +kernel
theorem dk_1_wants_38 : decode bk_1_wants 38 = .ok (.iconst 1, 1) := by decide +kernel
theorem dk_1_wants_39 : decode bk_1_wants 39 = .ok (.ireturn, 1) := by decide +kernel
theorem dk_1_select_0 : decode bk_1_select 0 = .ok (.iload_n 1, 1) := by decide +kernel
theorem dk_1_select_1 : decode bk_1_select 1 = .ok (.aload_n 0, 1) := by decide +kernel
theorem dk_1_select_2 : decode bk_1_select 2 = .ok (.getfield 138, 3) := by decide +kernel
theorem dk_1_select_5 : decode bk_1_select 5 = .ok (.invokestatic 102, 3) := by decide +kernel
theorem dk_1_select_8 : decode bk_1_select 8 = .ok (.ifCond .eq 12, 3) := by decide +kernel
theorem dk_1_select_11 : decode bk_1_select 11 = .ok (.aload_n 0, 1) := by decide +kernel
theorem dk_1_select_12 : decode bk_1_select 12 = .ok (.getfield 119, 3) := by decide +kernel
theorem dk_1_select_15 : decode bk_1_select 15 = .ok (.bipush 24, 2) := by decide +kernel
theorem dk_1_select_17 : decode bk_1_select 17 = .ok (.if_icmp .ne 5, 3) := by decide +kernel
theorem dk_1_select_20 : decode bk_1_select 20 = .ok (.iconst (-1), 1) := by decide +kernel
theorem dk_1_select_21 : decode bk_1_select 21 = .ok (.ireturn, 1) := by decide +kernel
theorem dk_1_select_22 : decode bk_1_select 22 = .ok (.aload_n 0, 1) := by decide +kernel
theorem dk_1_select_23 : decode bk_1_select 23 = .ok (.getfield 41, 3) := by decide +kernel
theorem dk_1_select_26 : decode bk_1_select 26 = .ok (.aload_n 0, 1) := by decide +kernel
theorem dk_1_select_27 : decode bk_1_select 27 = .ok (.getfield 119, 3) := by decide +kernel
theorem dk_1_select_30 : decode bk_1_select 30 = .ok (.iload_n 1, 1) := by decide +kernel
theorem dk_1_select_31 : decode bk_1_select 31 = .ok (.iastore, 1) := by decide +kernel
theorem dk_1_select_32 : decode bk_1_select 32 = .ok (.aload_n 0, 1) := by decide +kernel
theorem dk_1_select_33 : decode bk_1_select 33 = .ok (.dup, 1) := by decide +kernel
theorem dk_1_select_34 : decode bk_1_select 34 = .ok (.getfield 119, 3) := by decide +kernel
theorem dk_1_select_37 : decode bk_1_select 37 = .ok (.iconst 1, 1) := by decide +kernel
theorem dk_1_select_38 : decode bk_1_select 38 = .ok (.iadd, 1) := by decide +kernel
theorem dk_1_select_39 : decode bk_1_select 39 = .ok (.putfield 119, 3) := by decide +kernel
theorem dk_1_select_42 : decode bk_1_select 42 = .ok (.aload_n 0, 1) := by decide +kernel
theorem dk_1_select_43 : decode bk_1_select 43 = .ok (.getfield 119, 3) := by decide +kernel
theorem dk_1_select_46 : decode bk_1_select 46 = .ok (.iconst 1, 1) := by decide +kernel
theorem dk_1_select_47 : decode bk_1_select 47 = .ok (.isub, 1) := by decide +kernel
theorem dk_1_select_48 : decode bk_1_select 48 = .ok (.ireturn, 1) := by decide +kernel
theorem dk_1_hasNested_0 : decode bk_1_hasNested 0 = .ok (.iconst 0, 1) := by decide +kernel
theorem dk_1_hasNested_1 : decode bk_1_hasNested 1 = .ok (.istore_n 2, 1) := by decide +kernel
theorem dk_1_hasNested_2 : decode bk_1_hasNested 2 = .ok (.bipush 8, 2) := by decide +kernel
theorem dk_1_hasNested_4 : decode bk_1_hasNested 4 = .ok (.iload_n 1, 1) := by decide +kernel
theorem dk_1_hasNested_5 : decode bk_1_hasNested 5 = .ok (.imul, 1) := by decide +kernel
theorem dk_1_hasNested_6 : decode bk_1_hasNested 6 = .ok (.istore_n 3, 1) := by decide +kernel
theorem dk_1_hasNested_7 : decode bk_1_hasNested 7 = .ok (.iload_n 3, 1) := by decide +kernel
theorem dk_1_hasNested_8 : decode bk_1_hasNested 8 = .ok (.bipush 8, 2) := by decide +kernel
theorem dk_1_hasNested_10 : decode bk_1_hasNested 10 = .ok (.iload_n 1, 1) := by decide +kernel
theorem dk_1_hasNested_11 : decode bk_1_hasNested 11 = .ok (.imul, 1) := by decide +kernel
theorem dk_1_hasNested_12 : decode bk_1_hasNested 12 = .ok (.aload_n 0, 1) := by decide +kernel
theorem dk_1_hasNested_13 : decode bk_1_hasNested 13 = .ok (.getfield 44, 3) := by decide +kernel
theorem dk_1_hasNested_16 : decode bk_1_hasNested 16 = .ok (.iload_n 1, 1) := by decide +kernel
theorem dk_1_hasNested_17 : decode bk_1_hasNested 17 = .ok (.iaload, 1) := by decide +kernel
theorem dk_1_hasNested_18 : decode bk_1_hasNested 18 = .ok (.iadd, 1) := by decide +kernel
theorem dk_1_hasNested_19 : decode bk_1_hasNested 19 = .ok (.if_icmp .ge 28, 3) := by decide +kernel
theorem dk_1_hasNested_22 : decode bk_1_hasNested 22 = .ok (.iload_n 2, 1) := by decide +kernel
theorem dk_1_hasNested_23 : decode bk_1_hasNested 23 = .ok (.ifCond .ne 12, 3) := by decide +kernel
theorem dk_1_hasNested_26 : decode bk_1_hasNested 26 = .ok (.aload_n 0, 1) := by decide +kernel
theorem dk_1_hasNested_27 : decode bk_1_hasNested 27 = .ok (.getfield 56, 3) := by decide +kernel
theorem dk_1_hasNested_30 : decode bk_1_hasNested 30 = .ok (.iload_n 3, 1) := by decide +kernel
theorem dk_1_hasNested_31 : decode bk_1_hasNested 31 = .ok (.baload, 1) := by decide +kernel
theorem dk_1_hasNested_32 : decode bk_1_hasNested 32 = .ok (.ifCond .eq 7, 3) := by decide +kernel
theorem dk_1_hasNested_35 : decode bk_1_hasNested 35 = .ok (.iconst 1, 1) := by decide +kernel
theorem dk_1_hasNested_36 : decode bk_1_hasNested 36 = .ok (.goto 4, 3) := by decide +kernel
theorem dk_1_hasNested_39 : decode bk_1_hasNested 39 = .ok (.iconst 0, 1) := by decide +kernel
theorem dk_1_hasNested_40 : decode bk_1_hasNested 40 = .ok (.istore_n 2, 1) := by decide +kernel
theorem dk_1_hasNested_41 : decode bk_1_hasNested 41 = .ok (.iinc 3 1, 3) := by decide +kernel
theorem dk_1_hasNested_44 : decode bk_1_hasNested 44 = .ok (.goto (-37), 3) := by decide +kernel
theorem dk_1_hasNested_47 : decode bk_1_hasNested 47 = .ok (.iload_n 2, 1) := by decide +kernel
theorem dk_1_hasNested_48 : decode bk_1_hasNested 48 = .ok (.ireturn, 1) := by decide +kernel
