theorem dk_1_mostSpecial_0 : decode bk_1_mostSpecial 0 = .ok (.iconst 0, 1) := by decide +kernel
theorem dk_1_mostSpecial_1 : decode bk_1_mostSpecial 1 = .ok (.istore_n 3, 1) := by decide +kernel
theorem dk_1_mostSpecial_2 : decode bk_1_mostSpecial 2 = .ok (.iconst 0, 1) := by decide +kernel
theorem dk_1_mostSpecial_3 : decode bk_1_mostSpecial 3 = .ok (.istore 4, 2) := by decide +kernel
theorem dk_1_mostSpecial_5 : decode bk_1_mostSpecial 5 = .ok (.iload 4, 2) := by decide +kernel
theorem dk_1_mostSpecial_7 : decode bk_1_mostSpecial 7 = .ok (.aload_n 0, 1) := by decide +kernel
theorem dk_1_mostSpecial_8 : decode bk_1_mostSpecial 8 = .ok (.getfield 44, 3) := by decide +kernel
theorem dk_1_mostSpecial_11 : decode bk_1_mostSpecial 11 = .ok (.iload_n 1, 1) := by decide +kernel
theorem dk_1_mostSpecial_12 : decode bk_1_mostSpecial 12 = .ok (.iaload, 1) := by decide +kernel
theorem dk_1_mostSpecial_13 : decode bk_1_mostSpecial 13 = .ok (.if_icmp .ge 40, 3) := by decide +kernel
theorem dk_1_mostSpecial_16 : decode bk_1_mostSpecial 16 = .ok (.iload_n 3, 1) := by decide +kernel
theorem dk_1_mostSpecial_17 : decode bk_1_mostSpecial 17 = .ok (.aload_n 0, 1) := by decide +kernel
theorem dk_1_mostSpecial_18 : decode bk_1_mostSpecial 18 = .ok (.aload_n 0, 1) := by decide +kernel
theorem dk_1_mostSpecial_19 : decode bk_1_mostSpecial 19 = .ok (.getfield 47, 3) := by decide +kernel
theorem dk_1_mostSpecial_22 : decode bk_1_mostSpecial 22 = .ok (.bipush 8, 2) := by decide +kernel
theorem dk_1_mostSpecial_24 : decode bk_1_mostSpecial 24 = .ok (.iload_n 1, 1) := by decide +kernel
theorem dk_1_mostSpecial_25 : decode bk_1_mostSpecial 25 = .ok (.imul, 1) := by decide +kernel
theorem dk_1_mostSpecial_26 : decode bk_1_mostSpecial 26 = .ok (.iload 4, 2) := by decide +kernel
theorem dk_1_mostSpecial_28 : decode bk_1_mostSpecial 28 = .ok (.iadd, 1) := by decide +kernel
theorem dk_1_mostSpecial_29 : decode bk_1_mostSpecial 29 = .ok (.iaload, 1) := by decide +kernel
theorem dk_1_mostSpecial_30 : decode bk_1_mostSpecial 30 = .ok (.iload_n 2, 1) := by decide +kernel
theorem dk_1_mostSpecial_31 : decode bk_1_mostSpecial 31 = .ok (.invokevirtual 129, 3) := by decide +kernel
theorem dk_1_mostSpecial_34 : decode bk_1_mostSpecial 34 = .ok (.ifCond .eq 10, 3) := by decide +kernel
theorem dk_1_mostSpecial_37 : decode bk_1_mostSpecial 37 = .ok (.iconst 1, 1) := by decide +kernel
theorem dk_1_mostSpecial_38 : decode bk_1_mostSpecial 38 = .ok (.iload 4, 2) := by decide +kernel
theorem dk_1_mostSpecial_40 : decode bk_1_mostSpecial 40 = .ok (.ishl, 1) := by decide +kernel
theorem dk_1_mostSpecial_41 : decode bk_1_mostSpecial 41 = .ok (.goto 4, 3) := by decide +kernel
theorem dk_1_mostSpecial_44 : decode bk_1_mostSpecial 44 = .ok (.iconst 0, 1) := by decide +kernel
theorem dk_1_mostSpecial_45 : decode bk_1_mostSpecial 45 = .ok (.ior, 1) := by decide +kernel
theorem dk_1_mostSpecial_46 : decode bk_1_mostSpecial 46 = .ok (.istore_n 3, 1) := by decide +kernel
theorem dk_1_mostSpecial_47 : decode bk_1_mostSpecial 47 = .ok (.iinc 4 1, 3) := by decide +kernel
theorem dk_1_mostSpecial_50 : decode bk_1_mostSpecial 50 = .ok (.goto (-45), 3) := by decide +kernel
theorem dk_1_mostSpecial_53 : decode bk_1_mostSpecial 53 = .ok (.iload_n 3, 1) := by decide +kernel
theorem dk_1_mostSpecial_54 : decode bk_1_mostSpecial 54 = .ok (.istore 4, 2) := by decide +kernel
theorem dk_1_mostSpecial_56 : decode bk_1_mostSpecial 56 = .ok (.iconst 0, 1) := by decide +kernel
theorem dk_1_mostSpecial_57 : decode bk_1_mostSpecial 57 = .ok (.istore 5, 2) := by decide +kernel
theorem dk_1_mostSpecial_59 : decode bk_1_mostSpecial 59 = .ok (.iload 5, 2) := by decide +kernel
theorem dk_1_mostSpecial_61 : decode bk_1_mostSpecial 61 = .ok (.aload_n 0, 1) := by decide +kernel
theorem dk_1_mostSpecial_62 : decode bk_1_mostSpecial 62 = .ok (.getfield 44, 3) := by decide +kernel
theorem dk_1_mostSpecial_65 : decode bk_1_mostSpecial 65 = .ok (.iload_n 1, 1) := by decide +kernel
theorem dk_1_mostSpecial_66 : decode bk_1_mostSpecial 66 = .ok (.iaload, 1) := by decide +kernel
theorem dk_1_mostSpecial_67 : decode bk_1_mostSpecial 67 = .ok (.if_icmp .ge 103, 3) := by decide +kernel
theorem dk_1_mostSpecial_70 : decode bk_1_mostSpecial 70 = .ok (.iconst 0, 1) := by decide +kernel
theorem dk_1_mostSpecial_71 : decode bk_1_mostSpecial 71 = .ok (.istore 6, 2) := by decide +kernel
theorem dk_1_mostSpecial_73 : decode bk_1_mostSpecial 73 = .ok (.iload 6, 2) := by decide +kernel
theorem dk_1_mostSpecial_75 : decode bk_1_mostSpecial 75 = .ok (.aload_n 0, 1) := by decide +kernel
theorem dk_1_mostSpecial_76 : decode bk_1_mostSpecial 76 = .ok (.getfield 44, 3) := by decide +kernel
theorem dk_1_mostSpecial_79 : decode bk_1_mostSpecial 79 = .ok (.iload_n 1, 1) := by decide +kernel
theorem dk_1_mostSpecial_80 : decode bk_1_mostSpecial 80 = .ok (.iaload, 1) := by decide +kernel
theorem dk_1_mostSpecial_81 : decode bk_1_mostSpecial 81 = .ok (.if_icmp .ge 83, 3) := by decide +kernel
theorem dk_1_mostSpecial_84 : decode bk_1_mostSpecial 84 = .ok (.iload_n 3, 1) := by decide +kernel
theorem dk_1_mostSpecial_85 : decode bk_1_mostSpecial 85 = .ok (.iload 5, 2) := by decide +kernel
theorem dk_1_mostSpecial_87 : decode bk_1_mostSpecial 87 = .ok (.ishr, 1) := by decide +kernel
theorem dk_1_mostSpecial_88 : decode bk_1_mostSpecial 88 = .ok (.iconst 1, 1) := by decide +kernel
theorem dk_1_mostSpecial_89 : decode bk_1_mostSpecial 89 = .ok (.iand, 1) := by decide +kernel
theorem dk_1_mostSpecial_90 : decode bk_1_mostSpecial 90 = .ok (.iconst 1, 1) := by decide +kernel
theorem dk_1_mostSpecial_91 : decode bk_1_mostSpecial 91 = .ok (.if_icmp .ne 17, 3) := by decide +kernel
theorem dk_1_mostSpecial_94 : decode bk_1_mostSpecial 94 = .ok (.iload_n 3, 1) := by decide +kernel
theorem dk_1_mostSpecial_95 : decode bk_1_mostSpecial 95 = .ok (.iload 6, 2) := by decide +kernel
theorem dk_1_mostSpecial_97 : decode bk_1_mostSpecial 97 = .ok (.ishr, 1) := by decide +kernel
theorem dk_1_mostSpecial_98 : decode bk_1_mostSpecial 98 = .ok (.iconst 1, 1) := by decide +kernel
theorem dk_1_mostSpecial_99 : decode bk_1_mostSpecial 99 = .ok (.iand, 1) := by decide +kernel
theorem dk_1_mostSpecial_100 : decode bk_1_mostSpecial 100 = .ok (.iconst 1, 1) := by decide +kernel
theorem dk_1_mostSpecial_101 : decode bk_1_mostSpecial 101 = .ok (.if_icmp .ne 7, 3) := by decide +kernel
theorem dk_1_mostSpecial_104 : decode bk_1_mostSpecial 104 = .ok (.iconst 1, 1) := by decide +kernel
theorem dk_1_mostSpecial_105 : decode bk_1_mostSpecial 105 = .ok (.goto 4, 3) := by decide +kernel
theorem dk_1_mostSpecial_108 : decode bk_1_mostSpecial 108 = .ok (.iconst 0, 1) := by decide +kernel
theorem dk_1_mostSpecial_109 : decode bk_1_mostSpecial 109 = .ok (.istore 7, 2) := by decide +kernel
theorem dk_1_mostSpecial_111 : decode bk_1_mostSpecial 111 = .ok (.iload 7, 2) := by decide +kernel
theorem dk_1_mostSpecial_113 : decode bk_1_mostSpecial 113 = .ok (.ifCond .eq 45, 3) := by decide +kernel
theorem dk_1_mostSpecial_116 : decode bk_1_mostSpecial 116 = .ok (.aload_n 0, 1) := by decide +kernel
theorem dk_1_mostSpecial_117 : decode bk_1_mostSpecial 117 = .ok (.aload_n 0, 1) := by decide +kernel
theorem dk_1_mostSpecial_118 : decode bk_1_mostSpecial 118 = .ok (.getfield 47, 3) := by decide +kernel
theorem dk_1_mostSpecial_121 : decode bk_1_mostSpecial 121 = .ok (.bipush 8, 2) := by decide +kernel
theorem dk_1_mostSpecial_123 : decode bk_1_mostSpecial 123 = .ok (.iload_n 1, 1) := by decide +kernel
theorem dk_1_mostSpecial_124 : decode bk_1_mostSpecial 124 = .ok (.imul, 1) := by decide +kernel
theorem dk_1_mostSpecial_125 : decode bk_1_mostSpecial 125 = .ok (.iload 6, 2) := by decide +kernel
theorem dk_1_mostSpecial_127 : decode bk_1_mostSpecial 127 = .ok (.iadd, 1) := by decide +kernel
theorem dk_1_mostSpecial_128 : decode bk_1_mostSpecial 128 = .ok (.iaload, 1) := by decide +kernel
theorem dk_1_mostSpecial_129 : decode bk_1_mostSpecial 129 = .ok (.aload_n 0, 1) := by decide +kernel
theorem dk_1_mostSpecial_130 : decode bk_1_mostSpecial 130 = .ok (.getfield 47, 3) := by decide +kernel
theorem dk_1_mostSpecial_133 : decode bk_1_mostSpecial 133 = .ok (.bipush 8, 2) := by decide +kernel
theorem dk_1_mostSpecial_135 : decode bk_1_mostSpecial 135 = .ok (.iload_n 1, 1) := by decide +kernel
theorem dk_1_mostSpecial_136 : decode bk_1_mostSpecial 136 = .ok (.imul, 1) := by decide +kernel
theorem dk_1_mostSpecial_137 : decode bk_1_mostSpecial 137 = .ok (.iload 5, 2) := by decide +kernel
theorem dk_1_mostSpecial_139 : decode bk_1_mostSpecial 139 = .ok (.iadd, 1) := by decide +kernel
theorem dk_1_mostSpecial_140 : decode bk_1_mostSpecial 140 = .ok (.iaload, 1) := by decide +kernel
theorem dk_1_mostSpecial_141 : decode bk_1_mostSpecial 141 = .ok (.invokevirtual 161, 3) := by decide +kernel
theorem dk_1_mostSpecial_144 : decode bk_1_mostSpecial 144 = .ok (.ifCond .eq 14, 3) := by decide +kernel
theorem dk_1_mostSpecial_147 : decode bk_1_mostSpecial 147 = .ok (.iload 4, 2) := by decide +kernel
theorem dk_1_mostSpecial_149 : decode bk_1_mostSpecial 149 = .ok (.iconst 1, 1) := by decide +kernel
theorem dk_1_mostSpecial_150 : decode bk_1_mostSpecial 150 = .ok (.iload 5, 2) := by decide +kernel
theorem dk_1_mostSpecial_152 : decode bk_1_mostSpecial 152 = .ok (.ishl, 1) := by decide +kernel
theorem dk_1_mostSpecial_153 : decode bk_1_mostSpecial 153 = .ok (.iconst (-1), 1) := by decide +kernel
theorem dk_1_mostSpecial_154 : decode bk_1_mostSpecial 154 = .ok (.ixor, 1) := by decide +kernel
theorem dk_1_mostSpecial_155 : decode bk_1_mostSpecial 155 = .ok (.iand, 1) := by decide +kernel
theorem dk_1_mostSpecial_156 : decode bk_1_mostSpecial 156 = .ok (.istore 4, 2) := by decide +kernel
theorem dk_1_mostSpecial_158 : decode bk_1_mostSpecial 158 = .ok (.iinc 6 1, 3) := by decide +kernel
theorem dk_1_mostSpecial_161 : decode bk_1_mostSpecial 161 = .ok (.goto (-88), 3) := by decide +kernel
theorem dk_1_mostSpecial_164 : decode bk_1_mostSpecial 164 = .ok (.iinc 5 1, 3) := by decide +kernel
theorem dk_1_mostSpecial_167 : decode bk_1_mostSpecial 167 = .ok (.goto (-108), 3) := by decide +kernel
theorem dk_1_mostSpecial_170 : decode bk_1_mostSpecial 170 = .ok (.iload 4, 2) := by decide +kernel
theorem dk_1_mostSpecial_172 : decode bk_1_mostSpecial 172 = .ok (.ireturn, 1) := by decide +kernel
theorem dk_1_chooseInner_0 : decode bk_1_chooseInner 0 = .ok (.aload_n 0, 1) := by decide +kernel
theorem dk_1_chooseInner_1 : decode bk_1_chooseInner 1 = .ok (.iload_n 1, 1) := by decide +kernel
theorem dk_1_chooseInner_2 : decode bk_1_chooseInner 2 = .ok (.iload_n 2, 1) := by decide +kernel
theorem dk_1_chooseInner_3 : decode bk_1_chooseInner 3 = .ok (.invokevirtual 164, 3) := by decide +kernel
theorem dk_1_chooseInner_6 : decode bk_1_chooseInner 6 = .ok (.istore_n 3, 1) := by decide +kernel
theorem dk_1_chooseInner_7 : decode bk_1_chooseInner 7 = .ok (.aload_n 0, 1) := by decide +kernel
theorem dk_1_chooseInner_8 : decode bk_1_chooseInner 8 = .ok (.aload_n 0, 1) := by decide +kernel
theorem dk_1_chooseInner_9 : decode bk_1_chooseInner 9 = .ok (.getfield 59, 3) := by decide +kernel
theorem dk_1_chooseInner_12 : decode bk_1_chooseInner 12 = .ok (.iload_n 1, 1) := by decide +kernel
theorem dk_1_chooseInner_13 : decode bk_1_chooseInner 13 = .ok (.baload, 1) := by decide +kernel
theorem dk_1_chooseInner_14 : decode bk_1_chooseInner 14 = .ok (.ifCond .eq 7, 3) := by decide +kernel
theorem dk_1_chooseInner_17 : decode bk_1_chooseInner 17 = .ok (.iconst 1, 1) := by decide +kernel
theorem dk_1_chooseInner_18 : decode bk_1_chooseInner 18 = .ok (.goto 4, 3) := by decide +kernel
theorem dk_1_chooseInner_21 : decode bk_1_chooseInner 21 = .ok (.iconst 0, 1) := by decide +kernel
theorem dk_1_chooseInner_22 : decode bk_1_chooseInner 22 = .ok (.putfield 168, 3) := by decide +kernel
theorem dk_1_chooseInner_25 : decode bk_1_chooseInner 25 = .ok (.aload_n 0, 1) := by decide +kernel
theorem dk_1_chooseInner_26 : decode bk_1_chooseInner 26 = .ok (.aload_n 0, 1) := by decide +kernel
theorem dk_1_chooseInner_27 : decode bk_1_chooseInner 27 = .ok (.getfield 53, 3) := by decide +kernel
theorem dk_1_chooseInner_30 : decode bk_1_chooseInner 30 = .ok (.iload_n 1, 1) := by decide +kernel
theorem dk_1_chooseInner_31 : decode bk_1_chooseInner 31 = .ok (.iaload, 1) := by decide +kernel
theorem dk_1_chooseInner_32 : decode bk_1_chooseInner 32 = .ok (.putfield 171, 3) := by decide +kernel
theorem dk_1_chooseInner_35 : decode bk_1_chooseInner 35 = .ok (.aload_n 0, 1) := by decide +kernel
theorem dk_1_chooseInner_36 : decode bk_1_chooseInner 36 = .ok (.iconst (-1), 1) := by decide +kernel
theorem dk_1_chooseInner_37 : decode bk_1_chooseInner 37 = .ok (.putfield 174, 3) := by decide +kernel
theorem dk_1_chooseInner_40 : decode bk_1_chooseInner 40 = .ok (.aload_n 0, 1) := by decide +kernel
theorem dk_1_chooseInner_41 : decode bk_1_chooseInner 41 = .ok (.iconst (-1), 1) := by decide +kernel
theorem dk_1_chooseInner_42 : decode bk_1_chooseInner 42 = .ok (.putfield 177, 3) := by decide +kernel
theorem dk_1_chooseInner_45 : decode bk_1_chooseInner 45 = .ok (.iconst 0, 1) := by decide +kernel
theorem dk_1_chooseInner_46 : decode bk_1_chooseInner 46 = .ok (.istore 4, 2) := by decide +kernel
theorem dk_1_chooseInner_48 : decode bk_1_chooseInner 48 = .ok (.iload 4, 2) := by decide +kernel
theorem dk_1_chooseInner_50 : decode bk_1_chooseInner 50 = .ok (.aload_n 0, 1) := by decide +kernel
theorem dk_1_chooseInner_51 : decode bk_1_chooseInner 51 = .ok (.getfield 44, 3) := by decide +kernel
theorem dk_1_chooseInner_54 : decode bk_1_chooseInner 54 = .ok (.iload_n 1, 1) := by decide +kernel
theorem dk_1_chooseInner_55 : decode bk_1_chooseInner 55 = .ok (.iaload, 1) := by decide +kernel
theorem dk_1_chooseInner_56 : decode bk_1_chooseInner 56 = .ok (.if_icmp .ge 89, 3) := by decide +kernel
theorem dk_1_chooseInner_59 : decode bk_1_chooseInner 59 = .ok (.iload_n 3, 1) := by decide +kernel
theorem dk_1_chooseInner_60 : decode bk_1_chooseInner 60 = .ok (.iload 4, 2) := by decide +kernel
theorem dk_1_chooseInner_62 : decode bk_1_chooseInner 62 = .ok (.ishr, 1) := by decide +kernel
theorem dk_1_chooseInner_63 : decode bk_1_chooseInner 63 = .ok (.iconst 1, 1) := by decide +kernel
theorem dk_1_chooseInner_64 : decode bk_1_chooseInner 64 = .ok (.iand, 1) := by decide +kernel
theorem dk_1_chooseInner_65 : decode bk_1_chooseInner 65 = .ok (.iconst 1, 1) := by decide +kernel
theorem dk_1_chooseInner_66 : decode bk_1_chooseInner 66 = .ok (.if_icmp .ne 73, 3) := by decide +kernel
theorem dk_1_chooseInner_69 : decode bk_1_chooseInner 69 = .ok (.aload_n 0, 1) := by decide +kernel
theorem dk_1_chooseInner_70 : decode bk_1_chooseInner 70 = .ok (.getfield 168, 3) := by decide +kernel
theorem dk_1_chooseInner_73 : decode bk_1_chooseInner 73 = .ok (.iconst 2, 1) := by decide +kernel
theorem dk_1_chooseInner_74 : decode bk_1_chooseInner 74 = .ok (.if_icmp .eq 65, 3) := by decide +kernel
theorem dk_1_chooseInner_77 : decode bk_1_chooseInner 77 = .ok (.aload_n 0, 1) := by decide +kernel
theorem dk_1_chooseInner_78 : decode bk_1_chooseInner 78 = .ok (.getfield 50, 3) := by decide +kernel
theorem dk_1_chooseInner_81 : decode bk_1_chooseInner 81 = .ok (.bipush 8, 2) := by decide +kernel
theorem dk_1_chooseInner_83 : decode bk_1_chooseInner 83 = .ok (.iload_n 1, 1) := by decide +kernel
theorem dk_1_chooseInner_84 : decode bk_1_chooseInner 84 = .ok (.imul, 1) := by decide +kernel
theorem dk_1_chooseInner_85 : decode bk_1_chooseInner 85 = .ok (.iload 4, 2) := by decide +kernel
theorem dk_1_chooseInner_87 : decode bk_1_chooseInner 87 = .ok (.iadd, 1) := by decide +kernel
theorem dk_1_chooseInner_88 : decode bk_1_chooseInner 88 = .ok (.iaload, 1) := by decide +kernel
theorem dk_1_chooseInner_89 : decode bk_1_chooseInner 89 = .ok (.istore 5, 2) := by decide +kernel
theorem dk_1_chooseInner_91 : decode bk_1_chooseInner 91 = .ok (.aload_n 0, 1) := by decide +kernel
theorem dk_1_chooseInner_92 : decode bk_1_chooseInner 92 = .ok (.getfield 174, 3) := by decide +kernel
theorem dk_1_chooseInner_95 : decode bk_1_chooseInner 95 = .ok (.iconst (-1), 1) := by decide +kernel
theorem dk_1_chooseInner_96 : decode bk_1_chooseInner 96 = .ok (.if_icmp .ne 23, 3) := by decide +kernel
theorem dk_1_chooseInner_99 : decode bk_1_chooseInner 99 = .ok (.aload_n 0, 1) := by decide +kernel
theorem dk_1_chooseInner_100 : decode bk_1_chooseInner 100 = .ok (.iload 4, 2) := by decide +kernel
theorem dk_1_chooseInner_102 : decode bk_1_chooseInner 102 = .ok (.putfield 174, 3) := by decide +kernel
theorem dk_1_chooseInner_105 : decode bk_1_chooseInner 105 = .ok (.aload_n 0, 1) := by decide +kernel
theorem dk_1_chooseInner_106 : decode bk_1_chooseInner 106 = .ok (.iconst 1, 1) := by decide +kernel
theorem dk_1_chooseInner_107 : decode bk_1_chooseInner 107 = .ok (.putfield 168, 3) := by decide +kernel
theorem dk_1_chooseInner_110 : decode bk_1_chooseInner 110 = .ok (.aload_n 0, 1) := by decide +kernel
theorem dk_1_chooseInner_111 : decode bk_1_chooseInner 111 = .ok (.iload 5, 2) := by decide +kernel
theorem dk_1_chooseInner_113 : decode bk_1_chooseInner 113 = .ok (.putfield 171, 3) := by decide +kernel
theorem dk_1_chooseInner_116 : decode bk_1_chooseInner 116 = .ok (.goto 23, 3) := by decide +kernel
theorem dk_1_chooseInner_119 : decode bk_1_chooseInner 119 = .ok (.iload 5, 2) := by decide +kernel
theorem dk_1_chooseInner_121 : decode bk_1_chooseInner 121 = .ok (.aload_n 0, 1) := by decide +kernel
theorem dk_1_chooseInner_122 : decode bk_1_chooseInner 122 = .ok (.getfield 171, 3) := by decide +kernel
theorem dk_1_chooseInner_125 : decode bk_1_chooseInner 125 = .ok (.if_icmp .eq 14, 3) := by decide +kernel
theorem dk_1_chooseInner_128 : decode bk_1_chooseInner 128 = .ok (.aload_n 0, 1) := by decide +kernel
theorem dk_1_chooseInner_129 : decode bk_1_chooseInner 129 = .ok (.iload 4, 2) := by decide +kernel
theorem dk_1_chooseInner_131 : decode bk_1_chooseInner 131 = .ok (.putfield 177, 3) := by decide +kernel
theorem dk_1_chooseInner_134 : decode bk_1_chooseInner 134 = .ok (.aload_n 0, 1) := by decide +kernel
theorem dk_1_chooseInner_135 : decode bk_1_chooseInner 135 = .ok (.iconst 2, 1) := by decide +kernel
theorem dk_1_chooseInner_136 : decode bk_1_chooseInner 136 = .ok (.putfield 168, 3) := by decide +kernel
theorem dk_1_chooseInner_139 : decode bk_1_chooseInner 139 = .ok (.iinc 4 1, 3) := by decide +kernel
theorem dk_1_chooseInner_142 : decode bk_1_chooseInner 142 = .ok (.goto (-94), 3) := by decide +kernel
theorem dk_1_chooseInner_145 : decode bk_1_chooseInner 145 = .ok (.return_, 1) := by decide +kernel
theorem dk_1_chooseAll_0 : decode bk_1_chooseAll 0 = .ok (.aload_n 0, 1) := by decide +kernel
theorem dk_1_chooseAll_1 : decode bk_1_chooseAll 1 = .ok (.iload_n 1, 1) := by decide +kernel
theorem dk_1_chooseAll_2 : decode bk_1_chooseAll 2 = .ok (.iload_n 2, 1) := by decide +kernel
theorem dk_1_chooseAll_3 : decode bk_1_chooseAll 3 = .ok (.invokevirtual 164, 3) := by decide +kernel
theorem dk_1_chooseAll_6 : decode bk_1_chooseAll 6 = .ok (.istore_n 3, 1) := by decide +kernel
theorem dk_1_chooseAll_7 : decode bk_1_chooseAll 7 = .ok (.aload_n 0, 1) := by decide +kernel
theorem dk_1_chooseAll_8 : decode bk_1_chooseAll 8 = .ok (.aload_n 0, 1) := by decide +kernel
theorem dk_1_chooseAll_9 : decode bk_1_chooseAll 9 = .ok (.getfield 59, 3) := by decide +kernel
theorem dk_1_chooseAll_12 : decode bk_1_chooseAll 12 = .ok (.iload_n 1, 1) := by decide +kernel
theorem dk_1_chooseAll_13 : decode bk_1_chooseAll 13 = .ok (.baload, 1) := by decide +kernel
theorem dk_1_chooseAll_14 : decode bk_1_chooseAll 14 = .ok (.ifCond .eq 7, 3) := by decide +kernel
theorem dk_1_chooseAll_17 : decode bk_1_chooseAll 17 = .ok (.iconst 1, 1) := by decide +kernel
theorem dk_1_chooseAll_18 : decode bk_1_chooseAll 18 = .ok (.goto 4, 3) := by decide +kernel
theorem dk_1_chooseAll_21 : decode bk_1_chooseAll 21 = .ok (.iconst 0, 1) := by decide +kernel
theorem dk_1_chooseAll_22 : decode bk_1_chooseAll 22 = .ok (.putfield 83, 3) := by decide +kernel
theorem dk_1_chooseAll_25 : decode bk_1_chooseAll 25 = .ok (.aload_n 0, 1) := by decide +kernel
theorem dk_1_chooseAll_26 : decode bk_1_chooseAll 26 = .ok (.aload_n 0, 1) := by decide +kernel
theorem dk_1_chooseAll_27 : decode bk_1_chooseAll 27 = .ok (.getfield 53, 3) := by decide +kernel
theorem dk_1_chooseAll_30 : decode bk_1_chooseAll 30 = .ok (.iload_n 1, 1) := by decide +kernel
theorem dk_1_chooseAll_31 : decode bk_1_chooseAll 31 = .ok (.iaload, 1) := by decide +kernel
theorem dk_1_chooseAll_32 : decode bk_1_chooseAll 32 = .ok (.putfield 180, 3) := by decide +kernel
theorem dk_1_chooseAll_35 : decode bk_1_chooseAll 35 = .ok (.aload_n 0, 1) := by decide +kernel
theorem dk_1_chooseAll_36 : decode bk_1_chooseAll 36 = .ok (.iconst (-1), 1) := by decide +kernel
theorem dk_1_chooseAll_37 : decode bk_1_chooseAll 37 = .ok (.putfield 183, 3) := by decide +kernel
theorem dk_1_chooseAll_40 : decode bk_1_chooseAll 40 = .ok (.aload_n 0, 1) := by decide +kernel
theorem dk_1_chooseAll_41 : decode bk_1_chooseAll 41 = .ok (.iconst (-1), 1) := by decide +kernel
theorem dk_1_chooseAll_42 : decode bk_1_chooseAll 42 = .ok (.putfield 186, 3) := by decide +kernel
theorem dk_1_chooseAll_45 : decode bk_1_chooseAll 45 = .ok (.iconst (-1), 1) := by decide +kernel
theorem dk_1_chooseAll_46 : decode bk_1_chooseAll 46 = .ok (.istore 4, 2) := by decide +kernel
theorem dk_1_chooseAll_48 : decode bk_1_chooseAll 48 = .ok (.iconst 0, 1) := by decide +kernel
theorem dk_1_chooseAll_49 : decode bk_1_chooseAll 49 = .ok (.istore 5, 2) := by decide +kernel
theorem dk_1_chooseAll_51 : decode bk_1_chooseAll 51 = .ok (.iconst 0, 1) := by decide +kernel
theorem dk_1_chooseAll_52 : decode bk_1_chooseAll 52 = .ok (.istore 6, 2) := by decide +kernel
theorem dk_1_chooseAll_54 : decode bk_1_chooseAll 54 = .ok (.iload 6, 2) := by decide +kernel
theorem dk_1_chooseAll_56 : decode bk_1_chooseAll 56 = .ok (.aload_n 0, 1) := by decide +kernel
theorem dk_1_chooseAll_57 : decode bk_1_chooseAll 57 = .ok (.getfield 44, 3) := by decide +kernel
theorem dk_1_chooseAll_60 : decode bk_1_chooseAll 60 = .ok (.iload_n 1, 1) := by decide +kernel
theorem dk_1_chooseAll_61 : decode bk_1_chooseAll 61 = .ok (.iaload, 1) := by decide +kernel
theorem dk_1_chooseAll_62 : decode bk_1_chooseAll 62 = .ok (.if_icmp .ge 166, 3) := by decide +kernel
theorem dk_1_chooseAll_65 : decode bk_1_chooseAll 65 = .ok (.iload 5, 2) := by decide +kernel
theorem dk_1_chooseAll_67 : decode bk_1_chooseAll 67 = .ok (.ifCond .ne 161, 3) := by decide +kernel
theorem dk_1_chooseAll_70 : decode bk_1_chooseAll 70 = .ok (.iload_n 3, 1) := by decide +kernel
theorem dk_1_chooseAll_71 : decode bk_1_chooseAll 71 = .ok (.iload 6, 2) := by decide +kernel
theorem dk_1_chooseAll_73 : decode bk_1_chooseAll 73 = .ok (.ishr, 1) := by decide +kernel
theorem dk_1_chooseAll_74 : decode bk_1_chooseAll 74 = .ok (.iconst 1, 1) := by decide +kernel
theorem dk_1_chooseAll_75 : decode bk_1_chooseAll 75 = .ok (.iand, 1) := by decide +kernel
theorem dk_1_chooseAll_76 : decode bk_1_chooseAll 76 = .ok (.iconst 1, 1) := by decide +kernel
theorem dk_1_chooseAll_77 : decode bk_1_chooseAll 77 = .ok (.if_icmp .ne 145, 3) := by decide +kernel
theorem dk_1_chooseAll_80 : decode bk_1_chooseAll 80 = .ok (.bipush 8, 2) := by decide +kernel
theorem dk_1_chooseAll_82 : decode bk_1_chooseAll 82 = .ok (.iload_n 1, 1) := by decide +kernel
theorem dk_1_chooseAll_83 : decode bk_1_chooseAll 83 = .ok (.imul, 1) := by decide +kernel
theorem dk_1_chooseAll_84 : decode bk_1_chooseAll 84 = .ok (.iload 6, 2) := by decide +kernel
theorem dk_1_chooseAll_86 : decode bk_1_chooseAll 86 = .ok (.iadd, 1) := by decide +kernel
theorem dk_1_chooseAll_87 : decode bk_1_chooseAll 87 = .ok (.istore 7, 2) := by decide +kernel
theorem dk_1_chooseAll_89 : decode bk_1_chooseAll 89 = .ok (.aload_n 0, 1) := by decide +kernel
theorem dk_1_chooseAll_90 : decode bk_1_chooseAll 90 = .ok (.iconst 1, 1) := by decide +kernel
theorem dk_1_chooseAll_91 : decode bk_1_chooseAll 91 = .ok (.putfield 168, 3) := by decide +kernel
theorem dk_1_chooseAll_94 : decode bk_1_chooseAll 94 = .ok (.aload_n 0, 1) := by decide +kernel
theorem dk_1_chooseAll_95 : decode bk_1_chooseAll 95 = .ok (.aload_n 0, 1) := by decide +kernel
theorem dk_1_chooseAll_96 : decode bk_1_chooseAll 96 = .ok (.getfield 50, 3) := by decide +kernel
theorem dk_1_chooseAll_99 : decode bk_1_chooseAll 99 = .ok (.iload 7, 2) := by decide +kernel
theorem dk_1_chooseAll_101 : decode bk_1_chooseAll 101 = .ok (.iaload, 1) := by decide +kernel
theorem dk_1_chooseAll_102 : decode bk_1_chooseAll 102 = .ok (.putfield 171, 3) := by decide +kernel
theorem dk_1_chooseAll_105 : decode bk_1_chooseAll 105 = .ok (.aload_n 0, 1) := by decide +kernel
theorem dk_1_chooseAll_106 : decode bk_1_chooseAll 106 = .ok (.getfield 56, 3) := by decide +kernel
theorem dk_1_chooseAll_109 : decode bk_1_chooseAll 109 = .ok (.iload 7, 2) := by decide +kernel
theorem dk_1_chooseAll_111 : decode bk_1_chooseAll 111 = .ok (.baload, 1) := by decide +kernel
theorem dk_1_chooseAll_112 : decode bk_1_chooseAll 112 = .ok (.ifCond .eq 15, 3) := by decide +kernel
theorem dk_1_chooseAll_115 : decode bk_1_chooseAll 115 = .ok (.aload_n 0, 1) := by decide +kernel
theorem dk_1_chooseAll_116 : decode bk_1_chooseAll 116 = .ok (.aload_n 0, 1) := by decide +kernel
theorem dk_1_chooseAll_117 : decode bk_1_chooseAll 117 = .ok (.getfield 50, 3) := by decide +kernel
theorem dk_1_chooseAll_120 : decode bk_1_chooseAll 120 = .ok (.iload 7, 2) := by decide +kernel
theorem dk_1_chooseAll_122 : decode bk_1_chooseAll 122 = .ok (.iaload, 1) := by decide +kernel
theorem dk_1_chooseAll_123 : decode bk_1_chooseAll 123 = .ok (.iload_n 2, 1) := by decide +kernel
theorem dk_1_chooseAll_124 : decode bk_1_chooseAll 124 = .ok (.invokevirtual 189, 3) := by decide +kernel
theorem dk_1_chooseAll_127 : decode bk_1_chooseAll 127 = .ok (.iload 4, 2) := by decide +kernel
theorem dk_1_chooseAll_129 : decode bk_1_chooseAll 129 = .ok (.iconst (-1), 1) := by decide +kernel
theorem dk_1_chooseAll_130 : decode bk_1_chooseAll 130 = .ok (.if_icmp .ne 42, 3) := by decide +kernel
theorem dk_1_chooseAll_133 : decode bk_1_chooseAll 133 = .ok (.iload 6, 2) := by decide +kernel
theorem dk_1_chooseAll_135 : decode bk_1_chooseAll 135 = .ok (.istore 4, 2) := by decide +kernel
theorem dk_1_chooseAll_137 : decode bk_1_chooseAll 137 = .ok (.aload_n 0, 1) := by decide +kernel
theorem dk_1_chooseAll_138 : decode bk_1_chooseAll 138 = .ok (.aload_n 0, 1) := by decide +kernel
theorem dk_1_chooseAll_139 : decode bk_1_chooseAll 139 = .ok (.getfield 168, 3) := by decide +kernel
theorem dk_1_chooseAll_142 : decode bk_1_chooseAll 142 = .ok (.putfield 83, 3) := by decide +kernel
theorem dk_1_chooseAll_145 : decode bk_1_chooseAll 145 = .ok (.aload_n 0, 1) := by decide +kernel
theorem dk_1_chooseAll_146 : decode bk_1_chooseAll 146 = .ok (.aload_n 0, 1) := by decide +kernel
theorem dk_1_chooseAll_147 : decode bk_1_chooseAll 147 = .ok (.getfield 171, 3) := by decide +kernel
theorem dk_1_chooseAll_150 : decode bk_1_chooseAll 150 = .ok (.putfield 180, 3) := by decide +kernel
theorem dk_1_chooseAll_153 : decode bk_1_chooseAll 153 = .ok (.aload_n 0, 1) := by decide +kernel
theorem dk_1_chooseAll_154 : decode bk_1_chooseAll 154 = .ok (.aload_n 0, 1) := by decide +kernel
theorem dk_1_chooseAll_155 : decode bk_1_chooseAll 155 = .ok (.getfield 174, 3) := by decide +kernel
theorem dk_1_chooseAll_158 : decode bk_1_chooseAll 158 = .ok (.putfield 183, 3) := by decide +kernel
theorem dk_1_chooseAll_161 : decode bk_1_chooseAll 161 = .ok (.aload_n 0, 1) := by decide +kernel
theorem dk_1_chooseAll_162 : decode bk_1_chooseAll 162 = .ok (.aload_n 0, 1) := by decide +kernel
theorem dk_1_chooseAll_163 : decode bk_1_chooseAll 163 = .ok (.getfield 177, 3) := by decide +kernel
theorem dk_1_chooseAll_166 : decode bk_1_chooseAll 166 = .ok (.putfield 186, 3) := by decide +kernel
theorem dk_1_chooseAll_169 : decode bk_1_chooseAll 169 = .ok (.goto 53, 3) := by decide +kernel
theorem dk_1_chooseAll_172 : decode bk_1_chooseAll 172 = .ok (.aload_n 0, 1) := by decide +kernel
theorem dk_1_chooseAll_173 : decode bk_1_chooseAll 173 = .ok (.getfield 168, 3) := by decide +kernel
theorem dk_1_chooseAll_176 : decode bk_1_chooseAll 176 = .ok (.aload_n 0, 1) := by decide +kernel
theorem dk_1_chooseAll_177 : decode bk_1_chooseAll 177 = .ok (.getfield 83, 3) := by decide +kernel
theorem dk_1_chooseAll_180 : decode bk_1_chooseAll 180 = .ok (.if_icmp .ne 22, 3) := by decide +kernel
theorem dk_1_chooseAll_183 : decode bk_1_chooseAll 183 = .ok (.aload_n 0, 1) := by decide +kernel
theorem dk_1_chooseAll_184 : decode bk_1_chooseAll 184 = .ok (.getfield 83, 3) := by decide +kernel
theorem dk_1_chooseAll_187 : decode bk_1_chooseAll 187 = .ok (.iconst 1, 1) := by decide +kernel
theorem dk_1_chooseAll_188 : decode bk_1_chooseAll 188 = .ok (.if_icmp .ne 34, 3) := by decide +kernel
theorem dk_1_chooseAll_191 : decode bk_1_chooseAll 191 = .ok (.aload_n 0, 1) := by decide +kernel
theorem dk_1_chooseAll_192 : decode bk_1_chooseAll 192 = .ok (.getfield 171, 3) := by decide +kernel
theorem dk_1_chooseAll_195 : decode bk_1_chooseAll 195 = .ok (.aload_n 0, 1) := by decide +kernel
theorem dk_1_chooseAll_196 : decode bk_1_chooseAll 196 = .ok (.getfield 180, 3) := by decide +kernel
theorem dk_1_chooseAll_199 : decode bk_1_chooseAll 199 = .ok (.if_icmp .eq 23, 3) := by decide +kernel
theorem dk_1_chooseAll_202 : decode bk_1_chooseAll 202 = .ok (.iconst 1, 1) := by decide +kernel
theorem dk_1_chooseAll_203 : decode bk_1_chooseAll 203 = .ok (.istore 5, 2) := by decide +kernel
theorem dk_1_chooseAll_205 : decode bk_1_chooseAll 205 = .ok (.aload_n 0, 1) := by decide +kernel
theorem dk_1_chooseAll_206 : decode bk_1_chooseAll 206 = .ok (.iconst 2, 1) := by decide +kernel
theorem dk_1_chooseAll_207 : decode bk_1_chooseAll 207 = .ok (.putfield 83, 3) := by decide +kernel
theorem dk_1_chooseAll_210 : decode bk_1_chooseAll 210 = .ok (.aload_n 0, 1) := by decide +kernel
theorem dk_1_chooseAll_211 : decode bk_1_chooseAll 211 = .ok (.iload 4, 2) := by decide +kernel
theorem dk_1_chooseAll_213 : decode bk_1_chooseAll 213 = .ok (.putfield 183, 3) := by decide +kernel
theorem dk_1_chooseAll_216 : decode bk_1_chooseAll 216 = .ok (.aload_n 0, 1) := by decide +kernel
theorem dk_1_chooseAll_217 : decode bk_1_chooseAll 217 = .ok (.iload 6, 2) := by decide +kernel
theorem dk_1_chooseAll_219 : decode bk_1_chooseAll 219 = .ok (.putfield 186, 3) := by decide +kernel
theorem dk_1_chooseAll_222 : decode bk_1_chooseAll 222 = .ok (.iinc 6 1, 3) := by decide +kernel
theorem dk_1_chooseAll_225 : decode bk_1_chooseAll 225 = .ok (.goto (-171), 3) := by decide +kernel
theorem dk_1_chooseAll_228 : decode bk_1_chooseAll 228 = .ok (.return_, 1) := by decide +kernel
theorem dk_1_choose_0 : decode bk_1_choose 0 = .ok (.iload_n 1, 1) := by decide +kernel
theorem dk_1_choose_1 : decode bk_1_choose 1 = .ok (.aload_n 0, 1) := by decide +kernel
theorem dk_1_choose_2 : decode bk_1_choose 2 = .ok (.getfield 119, 3) := by decide +kernel
theorem dk_1_choose_5 : decode bk_1_choose 5 = .ok (.invokestatic 102, 3) := by decide +kernel
theorem dk_1_choose_8 : decode bk_1_choose 8 = .ok (.ifCond .eq 14, 3) := by decide +kernel
theorem dk_1_choose_11 : decode bk_1_choose 11 = .ok (.iload_n 2, 1) := by decide +kernel
theorem dk_1_choose_12 : decode bk_1_choose 12 = .ok (.aload_n 0, 1) := by decide +kernel
theorem dk_1_choose_13 : decode bk_1_choose 13 = .ok (.getfield 113, 3) := by decide +kernel
theorem dk_1_choose_16 : decode bk_1_choose 16 = .ok (.invokestatic 102, 3) := by decide +kernel
theorem dk_1_choose_19 : decode bk_1_choose 19 = .ok (.ifCond .ne 5, 3) := by decide +kernel
theorem dk_1_choose_22 : decode bk_1_choose 22 = .ok (.iconst (-1), 1) := by decide +kernel
theorem dk_1_choose_23 : decode bk_1_choose 23 = .ok (.ireturn, 1) := by decide +kernel
theorem dk_1_choose_24 : decode bk_1_choose 24 = .ok (.aload_n 0, 1) := by decide +kernel
theorem dk_1_choose_25 : decode bk_1_choose 25 = .ok (.iload_n 1, 1) := by decide +kernel
theorem dk_1_choose_26 : decode bk_1_choose 26 = .ok (.iload_n 2, 1) := by decide +kernel
theorem dk_1_choose_27 : decode bk_1_choose 27 = .ok (.invokevirtual 192, 3) := by decide +kernel
theorem dk_1_choose_30 : decode bk_1_choose 30 = .ok (.aload_n 0, 1) := by decide +kernel
theorem dk_1_choose_31 : decode bk_1_choose 31 = .ok (.getfield 83, 3) := by decide +kernel
theorem dk_1_choose_34 : decode bk_1_choose 34 = .ok (.ireturn, 1) := by decide +kernel
theorem dk_1_chosen_0 : decode bk_1_chosen 0 = .ok (.aload_n 0, 1) := by decide +kernel
theorem dk_1_chosen_1 : decode bk_1_chosen 1 = .ok (.getfield 83, 3) := by decide +kernel
theorem dk_1_chosen_4 : decode bk_1_chosen 4 = .ok (.iconst 1, 1) := by decide +kernel
theorem dk_1_chosen_5 : decode bk_1_chosen 5 = .ok (.if_icmp .ne 16, 3) := by decide +kernel
theorem dk_1_chosen_8 : decode bk_1_chosen 8 = .ok (.iload_n 1, 1) := by decide +kernel
theorem dk_1_chosen_9 : decode bk_1_chosen 9 = .ok (.ifCond .ne 10, 3) := by decide +kernel
theorem dk_1_chosen_12 : decode bk_1_chosen 12 = .ok (.aload_n 0, 1) := by decide +kernel
theorem dk_1_chosen_13 : decode bk_1_chosen 13 = .ok (.getfield 180, 3) := by decide +kernel
theorem dk_1_chosen_16 : decode bk_1_chosen 16 = .ok (.goto 4, 3) := by decide +kernel
theorem dk_1_chosen_19 : decode bk_1_chosen 19 = .ok (.iconst (-1), 1) := by decide +kernel
theorem dk_1_chosen_20 : decode bk_1_chosen 20 = .ok (.ireturn, 1) := by decide +kernel
theorem dk_1_chosen_21 : decode bk_1_chosen 21 = .ok (.aload_n 0, 1) := by decide +kernel
theorem dk_1_chosen_22 : decode bk_1_chosen 22 = .ok (.getfield 83, 3) := by decide +kernel
theorem dk_1_chosen_25 : decode bk_1_chosen 25 = .ok (.iconst 2, 1) := by decide +kernel
theorem dk_1_chosen_26 : decode bk_1_chosen 26 = .ok (.if_icmp .ne 11, 3) := by decide +kernel
theorem dk_1_chosen_29 : decode bk_1_chosen 29 = .ok (.iload_n 1, 1) := by decide +kernel
theorem dk_1_chosen_30 : decode bk_1_chosen 30 = .ok (.iconst 2, 1) := by decide +kernel
theorem dk_1_chosen_31 : decode bk_1_chosen 31 = .ok (.invokestatic 102, 3) := by decide +kernel
theorem dk_1_chosen_34 : decode bk_1_chosen 34 = .ok (.ifCond .ne 7, 3) := by decide +kernel
theorem dk_1_chosen_37 : decode bk_1_chosen 37 = .ok (.iconst (-1), 1) := by decide +kernel
theorem dk_1_chosen_38 : decode bk_1_chosen 38 = .ok (.goto 18, 3) := by decide +kernel
theorem dk_1_chosen_41 : decode bk_1_chosen 41 = .ok (.iload_n 1, 1) := by decide +kernel
theorem dk_1_chosen_42 : decode bk_1_chosen 42 = .ok (.ifCond .ne 10, 3) := by decide +kernel
theorem dk_1_chosen_45 : decode bk_1_chosen 45 = .ok (.aload_n 0, 1) := by decide +kernel
theorem dk_1_chosen_46 : decode bk_1_chosen 46 = .ok (.getfield 183, 3) := by decide +kernel
theorem dk_1_chosen_49 : decode bk_1_chosen 49 = .ok (.goto 7, 3) := by decide +kernel
theorem dk_1_chosen_52 : decode bk_1_chosen 52 = .ok (.aload_n 0, 1) := by decide +kernel
theorem dk_1_chosen_53 : decode bk_1_chosen 53 = .ok (.getfield 186, 3) := by decide +kernel
theorem dk_1_chosen_56 : decode bk_1_chosen 56 = .ok (.ireturn, 1) := by decide +kernel
theorem dk_1_need_0 : decode bk_1_need 0 = .ok (.iload_n 1, 1) := by decide +kernel
theorem dk_1_need_1 : decode bk_1_need 1 = .ok (.aload_n 0, 1) := by decide +kernel
theorem dk_1_need_2 : decode bk_1_need 2 = .ok (.getfield 138, 3) := by decide +kernel
theorem dk_1_need_5 : decode bk_1_need 5 = .ok (.invokestatic 102, 3) := by decide +kernel
theorem dk_1_need_8 : decode bk_1_need 8 = .ok (.ifCond .eq 23, 3) := by decide +kernel
theorem dk_1_need_11 : decode bk_1_need 11 = .ok (.iload_n 2, 1) := by decide +kernel
theorem dk_1_need_12 : decode bk_1_need 12 = .ok (.aload_n 0, 1) := by decide +kernel
theorem dk_1_need_13 : decode bk_1_need 13 = .ok (.getfield 138, 3) := by decide +kernel
theorem dk_1_need_16 : decode bk_1_need 16 = .ok (.invokestatic 102, 3) := by decide +kernel
theorem dk_1_need_19 : decode bk_1_need 19 = .ok (.ifCond .eq 12, 3) := by decide +kernel
theorem dk_1_need_22 : decode bk_1_need 22 = .ok (.aload_n 0, 1) := by decide +kernel
theorem dk_1_need_23 : decode bk_1_need 23 = .ok (.getfield 195, 3) := by decide +kernel
theorem dk_1_need_26 : decode bk_1_need 26 = .ok (.bipush 40, 2) := by decide +kernel
theorem dk_1_need_28 : decode bk_1_need 28 = .ok (.if_icmp .ne 5, 3) := by decide +kernel
theorem dk_1_need_31 : decode bk_1_need 31 = .ok (.iconst (-1), 1) := by decide +kernel
theorem dk_1_need_32 : decode bk_1_need 32 = .ok (.ireturn, 1) := by decide +kernel
theorem dk_1_need_33 : decode bk_1_need 33 = .ok (.aload_n 0, 1) := by decide +kernel
theorem dk_1_need_34 : decode bk_1_need 34 = .ok (.getfield 68, 3) := by decide +kernel
theorem dk_1_need_37 : decode bk_1_need 37 = .ok (.aload_n 0, 1) := by decide +kernel
theorem dk_1_need_38 : decode bk_1_need 38 = .ok (.getfield 195, 3) := by decide +kernel
theorem dk_1_need_41 : decode bk_1_need 41 = .ok (.iload_n 1, 1) := by decide +kernel
theorem dk_1_need_42 : decode bk_1_need 42 = .ok (.iastore, 1) := by decide +kernel
theorem dk_1_need_43 : decode bk_1_need 43 = .ok (.aload_n 0, 1) := by decide +kernel
theorem dk_1_need_44 : decode bk_1_need 44 = .ok (.getfield 71, 3) := by decide +kernel
theorem dk_1_need_47 : decode bk_1_need 47 = .ok (.aload_n 0, 1) := by decide +kernel
theorem dk_1_need_48 : decode bk_1_need 48 = .ok (.getfield 195, 3) := by decide +kernel
theorem dk_1_need_51 : decode bk_1_need 51 = .ok (.iload_n 2, 1) := by decide +kernel
theorem dk_1_need_52 : decode bk_1_need 52 = .ok (.iastore, 1) := by decide +kernel
theorem dk_1_need_53 : decode bk_1_need 53 = .ok (.aload_n 0, 1) := by decide +kernel
theorem dk_1_need_54 : decode bk_1_need 54 = .ok (.dup, 1) := by decide +kernel
theorem dk_1_need_55 : decode bk_1_need 55 = .ok (.getfield 195, 3) := by decide +kernel
theorem dk_1_need_58 : decode bk_1_need 58 = .ok (.iconst 1, 1) := by decide +kernel
theorem dk_1_need_59 : decode bk_1_need 59 = .ok (.iadd, 1) := by decide +kernel
theorem dk_1_need_60 : decode bk_1_need 60 = .ok (.putfield 195, 3) := by decide +kernel
theorem dk_1_need_63 : decode bk_1_need 63 = .ok (.aload_n 0, 1) := by decide +kernel
theorem dk_1_need_64 : decode bk_1_need 64 = .ok (.getfield 195, 3) := by decide +kernel
theorem dk_1_need_67 : decode bk_1_need 67 = .ok (.iconst 1, 1) := by decide +kernel
theorem dk_1_need_68 : decode bk_1_need 68 = .ok (.isub, 1) := by decide +kernel
theorem dk_1_need_69 : decode bk_1_need 69 = .ok (.ireturn, 1) := by decide +kernel
