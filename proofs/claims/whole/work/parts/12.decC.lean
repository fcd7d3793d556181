theorem dk_0_mostSpecialBranches_0 : decode bk_0_mostSpecialBranches 0 = .ok (.iconst 0, 1) := by decide +kernel
theorem dk_0_mostSpecialBranches_1 : decode bk_0_mostSpecialBranches 1 = .ok (.istore_n 3, 1) := by decide +kernel
theorem dk_0_mostSpecialBranches_2 : decode bk_0_mostSpecialBranches 2 = .ok (.iconst 0, 1) := by decide +kernel
theorem dk_0_mostSpecialBranches_3 : decode bk_0_mostSpecialBranches 3 = .ok (.istore 4, 2) := by decide +kernel
theorem dk_0_mostSpecialBranches_5 : decode bk_0_mostSpecialBranches 5 = .ok (.iload 4, 2) := by decide +kernel
theorem dk_0_mostSpecialBranches_7 : decode bk_0_mostSpecialBranches 7 = .ok (.aload_n 0, 1) := by decide +kernel
theorem dk_0_mostSpecialBranches_8 : decode bk_0_mostSpecialBranches 8 = .ok (.getfield 47, 3) := by decide +kernel
theorem dk_0_mostSpecialBranches_11 : decode bk_0_mostSpecialBranches 11 = .ok (.getfield 266, 3) := by decide +kernel
theorem dk_0_mostSpecialBranches_14 : decode bk_0_mostSpecialBranches 14 = .ok (.iload_n 1, 1) := by decide +kernel
theorem dk_0_mostSpecialBranches_15 : decode bk_0_mostSpecialBranches 15 = .ok (.iaload, 1) := by decide +kernel
theorem dk_0_mostSpecialBranches_16 : decode bk_0_mostSpecialBranches 16 = .ok (.if_icmp .ge 36, 3) := by decide +kernel
theorem dk_0_mostSpecialBranches_19 : decode bk_0_mostSpecialBranches 19 = .ok (.iload_n 2, 1) := by decide +kernel
theorem dk_0_mostSpecialBranches_20 : decode bk_0_mostSpecialBranches 20 = .ok (.iload 4, 2) := by decide +kernel
theorem dk_0_mostSpecialBranches_22 : decode bk_0_mostSpecialBranches 22 = .ok (.invokestatic 269, 3) := by decide +kernel
theorem dk_0_mostSpecialBranches_25 : decode bk_0_mostSpecialBranches 25 = .ok (.ifCond .eq 21, 3) := by decide +kernel
theorem dk_0_mostSpecialBranches_28 : decode bk_0_mostSpecialBranches 28 = .ok (.aload_n 0, 1) := by decide +kernel
theorem dk_0_mostSpecialBranches_29 : decode bk_0_mostSpecialBranches 29 = .ok (.iload_n 1, 1) := by decide +kernel
theorem dk_0_mostSpecialBranches_30 : decode bk_0_mostSpecialBranches 30 = .ok (.iload 4, 2) := by decide +kernel
theorem dk_0_mostSpecialBranches_32 : decode bk_0_mostSpecialBranches 32 = .ok (.iload_n 2, 1) := by decide +kernel
theorem dk_0_mostSpecialBranches_33 : decode bk_0_mostSpecialBranches 33 = .ok (.invokevirtual 295, 3) := by decide +kernel
theorem dk_0_mostSpecialBranches_36 : decode bk_0_mostSpecialBranches 36 = .ok (.ifCond .ne 10, 3) := by decide +kernel
theorem dk_0_mostSpecialBranches_39 : decode bk_0_mostSpecialBranches 39 = .ok (.iload_n 3, 1) := by decide +kernel
theorem dk_0_mostSpecialBranches_40 : decode bk_0_mostSpecialBranches 40 = .ok (.iconst 1, 1) := by decide +kernel
theorem dk_0_mostSpecialBranches_41 : decode bk_0_mostSpecialBranches 41 = .ok (.iload 4, 2) := by decide +kernel
theorem dk_0_mostSpecialBranches_43 : decode bk_0_mostSpecialBranches 43 = .ok (.ishl, 1) := by decide +kernel
theorem dk_0_mostSpecialBranches_44 : decode bk_0_mostSpecialBranches 44 = .ok (.ior, 1) := by decide +kernel
theorem dk_0_mostSpecialBranches_45 : decode bk_0_mostSpecialBranches 45 = .ok (.istore_n 3, 1) := by decide +kernel
theorem dk_0_mostSpecialBranches_46 : decode bk_0_mostSpecialBranches 46 = .ok (.iinc 4 1, 3) := by decide +kernel
theorem dk_0_mostSpecialBranches_49 : decode bk_0_mostSpecialBranches 49 = .ok (.goto (-44), 3) := by decide +kernel
theorem dk_0_mostSpecialBranches_52 : decode bk_0_mostSpecialBranches 52 = .ok (.iload_n 3, 1) := by decide +kernel
theorem dk_0_mostSpecialBranches_53 : decode bk_0_mostSpecialBranches 53 = .ok (.ireturn, 1) := by decide +kernel
theorem dk_0_isOutdone_0 : decode bk_0_isOutdone 0 = .ok (.aload_n 0, 1) := by decide +kernel
theorem dk_0_isOutdone_1 : decode bk_0_isOutdone 1 = .ok (.aload_n 0, 1) := by decide +kernel
theorem dk_0_isOutdone_2 : decode bk_0_isOutdone 2 = .ok (.getfield 47, 3) := by decide +kernel
theorem dk_0_isOutdone_5 : decode bk_0_isOutdone 5 = .ok (.iload_n 1, 1) := by decide +kernel
theorem dk_0_isOutdone_6 : decode bk_0_isOutdone 6 = .ok (.iload_n 2, 1) := by decide +kernel
theorem dk_0_isOutdone_7 : decode bk_0_isOutdone 7 = .ok (.invokevirtual 292, 3) := by decide +kernel
theorem dk_0_isOutdone_10 : decode bk_0_isOutdone 10 = .ok (.invokevirtual 298, 3) := by decide +kernel
theorem dk_0_isOutdone_13 : decode bk_0_isOutdone 13 = .ok (.istore 4, 2) := by decide +kernel
theorem dk_0_isOutdone_15 : decode bk_0_isOutdone 15 = .ok (.iconst 0, 1) := by decide +kernel
theorem dk_0_isOutdone_16 : decode bk_0_isOutdone 16 = .ok (.istore 5, 2) := by decide +kernel
theorem dk_0_isOutdone_18 : decode bk_0_isOutdone 18 = .ok (.iload 5, 2) := by decide +kernel
theorem dk_0_isOutdone_20 : decode bk_0_isOutdone 20 = .ok (.aload_n 0, 1) := by decide +kernel
theorem dk_0_isOutdone_21 : decode bk_0_isOutdone 21 = .ok (.getfield 47, 3) := by decide +kernel
theorem dk_0_isOutdone_24 : decode bk_0_isOutdone 24 = .ok (.getfield 266, 3) := by decide +kernel
theorem dk_0_isOutdone_27 : decode bk_0_isOutdone 27 = .ok (.iload_n 1, 1) := by decide +kernel
theorem dk_0_isOutdone_28 : decode bk_0_isOutdone 28 = .ok (.iaload, 1) := by decide +kernel
theorem dk_0_isOutdone_29 : decode bk_0_isOutdone 29 = .ok (.if_icmp .ge 53, 3) := by decide +kernel
theorem dk_0_isOutdone_32 : decode bk_0_isOutdone 32 = .ok (.iload_n 3, 1) := by decide +kernel
theorem dk_0_isOutdone_33 : decode bk_0_isOutdone 33 = .ok (.iload 5, 2) := by decide +kernel
theorem dk_0_isOutdone_35 : decode bk_0_isOutdone 35 = .ok (.invokestatic 269, 3) := by decide +kernel
theorem dk_0_isOutdone_38 : decode bk_0_isOutdone 38 = .ok (.ifCond .eq 38, 3) := by decide +kernel
theorem dk_0_isOutdone_41 : decode bk_0_isOutdone 41 = .ok (.aload_n 0, 1) := by decide +kernel
theorem dk_0_isOutdone_42 : decode bk_0_isOutdone 42 = .ok (.aload_n 0, 1) := by decide +kernel
theorem dk_0_isOutdone_43 : decode bk_0_isOutdone 43 = .ok (.getfield 47, 3) := by decide +kernel
theorem dk_0_isOutdone_46 : decode bk_0_isOutdone 46 = .ok (.iload_n 1, 1) := by decide +kernel
theorem dk_0_isOutdone_47 : decode bk_0_isOutdone 47 = .ok (.iload 5, 2) := by decide +kernel
theorem dk_0_isOutdone_49 : decode bk_0_isOutdone 49 = .ok (.invokevirtual 292, 3) := by decide +kernel
theorem dk_0_isOutdone_52 : decode bk_0_isOutdone 52 = .ok (.invokevirtual 298, 3) := by decide +kernel
theorem dk_0_isOutdone_55 : decode bk_0_isOutdone 55 = .ok (.istore 6, 2) := by decide +kernel
theorem dk_0_isOutdone_57 : decode bk_0_isOutdone 57 = .ok (.iload 6, 2) := by decide +kernel
theorem dk_0_isOutdone_59 : decode bk_0_isOutdone 59 = .ok (.iload 4, 2) := by decide +kernel
theorem dk_0_isOutdone_61 : decode bk_0_isOutdone 61 = .ok (.if_icmp .eq 15, 3) := by decide +kernel
theorem dk_0_isOutdone_64 : decode bk_0_isOutdone 64 = .ok (.iload 6, 2) := by decide +kernel
theorem dk_0_isOutdone_66 : decode bk_0_isOutdone 66 = .ok (.iload 4, 2) := by decide +kernel
theorem dk_0_isOutdone_68 : decode bk_0_isOutdone 68 = .ok (.iand, 1) := by decide +kernel
theorem dk_0_isOutdone_69 : decode bk_0_isOutdone 69 = .ok (.iload 4, 2) := by decide +kernel
theorem dk_0_isOutdone_71 : decode bk_0_isOutdone 71 = .ok (.if_icmp .ne 5, 3) := by decide +kernel
theorem dk_0_isOutdone_74 : decode bk_0_isOutdone 74 = .ok (.iconst 1, 1) := by decide +kernel
theorem dk_0_isOutdone_75 : decode bk_0_isOutdone 75 = .ok (.ireturn, 1) := by decide +kernel
theorem dk_0_isOutdone_76 : decode bk_0_isOutdone 76 = .ok (.iinc 5 1, 3) := by decide +kernel
theorem dk_0_isOutdone_79 : decode bk_0_isOutdone 79 = .ok (.goto (-61), 3) := by decide +kernel
theorem dk_0_isOutdone_82 : decode bk_0_isOutdone 82 = .ok (.iconst 0, 1) := by decide +kernel
theorem dk_0_isOutdone_83 : decode bk_0_isOutdone 83 = .ok (.ireturn, 1) := by decide +kernel
theorem dk_0_findWhatTargetsRead_0 : decode bk_0_findWhatTargetsRead 0 = .ok (.iconst 0, 1) := by decide +kernel
theorem dk_0_findWhatTargetsRead_1 : decode bk_0_findWhatTargetsRead 1 = .ok (.istore_n 1, 1) := by decide +kernel
theorem dk_0_findWhatTargetsRead_2 : decode bk_0_findWhatTargetsRead 2 = .ok (.iload_n 1, 1) := by decide +kernel
theorem dk_0_findWhatTargetsRead_3 : decode bk_0_findWhatTargetsRead 3 = .ok (.aload_n 0, 1) := by decide +kernel
theorem dk_0_findWhatTargetsRead_4 : decode bk_0_findWhatTargetsRead 4 = .ok (.getfield 40, 3) := by decide +kernel
theorem dk_0_findWhatTargetsRead_7 : decode bk_0_findWhatTargetsRead 7 = .ok (.getfield 301, 3) := by decide +kernel
theorem dk_0_findWhatTargetsRead_10 : decode bk_0_findWhatTargetsRead 10 = .ok (.if_icmp .ge 46, 3) := by decide +kernel
theorem dk_0_findWhatTargetsRead_13 : decode bk_0_findWhatTargetsRead 13 = .ok (.aload_n 0, 1) := by decide +kernel
theorem dk_0_findWhatTargetsRead_14 : decode bk_0_findWhatTargetsRead 14 = .ok (.getfield 40, 3) := by decide +kernel
theorem dk_0_findWhatTargetsRead_17 : decode bk_0_findWhatTargetsRead 17 = .ok (.getfield 122, 3) := by decide +kernel
theorem dk_0_findWhatTargetsRead_20 : decode bk_0_findWhatTargetsRead 20 = .ok (.iload_n 1, 1) := by decide +kernel
theorem dk_0_findWhatTargetsRead_21 : decode bk_0_findWhatTargetsRead 21 = .ok (.iaload, 1) := by decide +kernel
theorem dk_0_findWhatTargetsRead_22 : decode bk_0_findWhatTargetsRead 22 = .ok (.istore_n 2, 1) := by decide +kernel
theorem dk_0_findWhatTargetsRead_23 : decode bk_0_findWhatTargetsRead 23 = .ok (.aload_n 0, 1) := by decide +kernel
theorem dk_0_findWhatTargetsRead_24 : decode bk_0_findWhatTargetsRead 24 = .ok (.getfield 40, 3) := by decide +kernel
theorem dk_0_findWhatTargetsRead_27 : decode bk_0_findWhatTargetsRead 27 = .ok (.getfield 207, 3) := by decide +kernel
theorem dk_0_findWhatTargetsRead_30 : decode bk_0_findWhatTargetsRead 30 = .ok (.iload_n 1, 1) := by decide +kernel
theorem dk_0_findWhatTargetsRead_31 : decode bk_0_findWhatTargetsRead 31 = .ok (.iload_n 2, 1) := by decide +kernel
theorem dk_0_findWhatTargetsRead_32 : decode bk_0_findWhatTargetsRead 32 = .ok (.iconst (-1), 1) := by decide +kernel
theorem dk_0_findWhatTargetsRead_33 : decode bk_0_findWhatTargetsRead 33 = .ok (.if_icmp .ne 7, 3) := by decide +kernel
theorem dk_0_findWhatTargetsRead_36 : decode bk_0_findWhatTargetsRead 36 = .ok (.iconst 0, 1) := by decide +kernel
theorem dk_0_findWhatTargetsRead_37 : decode bk_0_findWhatTargetsRead 37 = .ok (.goto 12, 3) := by decide +kernel
theorem dk_0_findWhatTargetsRead_40 : decode bk_0_findWhatTargetsRead 40 = .ok (.aload_n 0, 1) := by decide +kernel
theorem dk_0_findWhatTargetsRead_41 : decode bk_0_findWhatTargetsRead 41 = .ok (.iload_n 2, 1) := by decide +kernel
theorem dk_0_findWhatTargetsRead_42 : decode bk_0_findWhatTargetsRead 42 = .ok (.invokevirtual 298, 3) := by decide +kernel
theorem dk_0_findWhatTargetsRead_45 : decode bk_0_findWhatTargetsRead 45 = .ok (.ldc_w 302, 3) := by decide +kernel
theorem dk_0_findWhatTargetsRead_48 : decode bk_0_findWhatTargetsRead 48 = .ok (.iand, 1) := by decide +kernel
theorem dk_0_findWhatTargetsRead_49 : decode bk_0_findWhatTargetsRead 49 = .ok (.iastore, 1) := by decide +kernel
theorem dk_0_findWhatTargetsRead_50 : decode bk_0_findWhatTargetsRead 50 = .ok (.iinc 1 1, 3) := by decide +kernel
theorem dk_0_findWhatTargetsRead_53 : decode bk_0_findWhatTargetsRead 53 = .ok (.goto (-51), 3) := by decide +kernel
theorem dk_0_findWhatTargetsRead_56 : decode bk_0_findWhatTargetsRead 56 = .ok (.iconst 0, 1) := by decide +kernel
theorem dk_0_findWhatTargetsRead_57 : decode bk_0_findWhatTargetsRead 57 = .ok (.istore_n 1, 1) := by decide +kernel
theorem dk_0_findWhatTargetsRead_58 : decode bk_0_findWhatTargetsRead 58 = .ok (.iload_n 1, 1) := by decide +kernel
theorem dk_0_findWhatTargetsRead_59 : decode bk_0_findWhatTargetsRead 59 = .ok (.aload_n 0, 1) := by decide +kernel
theorem dk_0_findWhatTargetsRead_60 : decode bk_0_findWhatTargetsRead 60 = .ok (.getfield 47, 3) := by decide +kernel
theorem dk_0_findWhatTargetsRead_63 : decode bk_0_findWhatTargetsRead 63 = .ok (.getfield 303, 3) := by decide +kernel
theorem dk_0_findWhatTargetsRead_66 : decode bk_0_findWhatTargetsRead 66 = .ok (.if_icmp .ge 69, 3) := by decide +kernel
theorem dk_0_findWhatTargetsRead_69 : decode bk_0_findWhatTargetsRead 69 = .ok (.iconst 0, 1) := by decide +kernel
theorem dk_0_findWhatTargetsRead_70 : decode bk_0_findWhatTargetsRead 70 = .ok (.istore_n 2, 1) := by decide +kernel
theorem dk_0_findWhatTargetsRead_71 : decode bk_0_findWhatTargetsRead 71 = .ok (.iload_n 2, 1) := by decide +kernel
theorem dk_0_findWhatTargetsRead_72 : decode bk_0_findWhatTargetsRead 72 = .ok (.aload_n 0, 1) := by decide +kernel
theorem dk_0_findWhatTargetsRead_73 : decode bk_0_findWhatTargetsRead 73 = .ok (.getfield 47, 3) := by decide +kernel
theorem dk_0_findWhatTargetsRead_76 : decode bk_0_findWhatTargetsRead 76 = .ok (.getfield 266, 3) := by decide +kernel
theorem dk_0_findWhatTargetsRead_79 : decode bk_0_findWhatTargetsRead 79 = .ok (.iload_n 1, 1) := by decide +kernel
theorem dk_0_findWhatTargetsRead_80 : decode bk_0_findWhatTargetsRead 80 = .ok (.iaload, 1) := by decide +kernel
theorem dk_0_findWhatTargetsRead_81 : decode bk_0_findWhatTargetsRead 81 = .ok (.if_icmp .ge 48, 3) := by decide +kernel
theorem dk_0_findWhatTargetsRead_84 : decode bk_0_findWhatTargetsRead 84 = .ok (.aload_n 0, 1) := by decide +kernel
theorem dk_0_findWhatTargetsRead_85 : decode bk_0_findWhatTargetsRead 85 = .ok (.aload_n 0, 1) := by decide +kernel
theorem dk_0_findWhatTargetsRead_86 : decode bk_0_findWhatTargetsRead 86 = .ok (.getfield 47, 3) := by decide +kernel
theorem dk_0_findWhatTargetsRead_89 : decode bk_0_findWhatTargetsRead 89 = .ok (.iload_n 1, 1) := by decide +kernel
theorem dk_0_findWhatTargetsRead_90 : decode bk_0_findWhatTargetsRead 90 = .ok (.iload_n 2, 1) := by decide +kernel
theorem dk_0_findWhatTargetsRead_91 : decode bk_0_findWhatTargetsRead 91 = .ok (.invokevirtual 292, 3) := by decide +kernel
theorem dk_0_findWhatTargetsRead_94 : decode bk_0_findWhatTargetsRead 94 = .ok (.invokevirtual 298, 3) := by decide +kernel
theorem dk_0_findWhatTargetsRead_97 : decode bk_0_findWhatTargetsRead 97 = .ok (.istore_n 3, 1) := by decide +kernel
theorem dk_0_findWhatTargetsRead_98 : decode bk_0_findWhatTargetsRead 98 = .ok (.aload_n 0, 1) := by decide +kernel
theorem dk_0_findWhatTargetsRead_99 : decode bk_0_findWhatTargetsRead 99 = .ok (.getfield 40, 3) := by decide +kernel
theorem dk_0_findWhatTargetsRead_102 : decode bk_0_findWhatTargetsRead 102 = .ok (.getfield 207, 3) := by decide +kernel
theorem dk_0_findWhatTargetsRead_105 : decode bk_0_findWhatTargetsRead 105 = .ok (.aload_n 0, 1) := by decide +kernel
theorem dk_0_findWhatTargetsRead_106 : decode bk_0_findWhatTargetsRead 106 = .ok (.getfield 47, 3) := by decide +kernel
theorem dk_0_findWhatTargetsRead_109 : decode bk_0_findWhatTargetsRead 109 = .ok (.getfield 304, 3) := by decide +kernel
theorem dk_0_findWhatTargetsRead_112 : decode bk_0_findWhatTargetsRead 112 = .ok (.iload_n 1, 1) := by decide +kernel
theorem dk_0_findWhatTargetsRead_113 : decode bk_0_findWhatTargetsRead 113 = .ok (.iaload, 1) := by decide +kernel
theorem dk_0_findWhatTargetsRead_114 : decode bk_0_findWhatTargetsRead 114 = .ok (.dup2, 1) := by decide +kernel
theorem dk_0_findWhatTargetsRead_115 : decode bk_0_findWhatTargetsRead 115 = .ok (.iaload, 1) := by decide +kernel
theorem dk_0_findWhatTargetsRead_116 : decode bk_0_findWhatTargetsRead 116 = .ok (.iload_n 3, 1) := by decide +kernel
theorem dk_0_findWhatTargetsRead_117 : decode bk_0_findWhatTargetsRead 117 = .ok (.ldc_w 302, 3) := by decide +kernel
theorem dk_0_findWhatTargetsRead_120 : decode bk_0_findWhatTargetsRead 120 = .ok (.iand, 1) := by decide +kernel
theorem dk_0_findWhatTargetsRead_121 : decode bk_0_findWhatTargetsRead 121 = .ok (.ior, 1) := by decide +kernel
theorem dk_0_findWhatTargetsRead_122 : decode bk_0_findWhatTargetsRead 122 = .ok (.iastore, 1) := by decide +kernel
theorem dk_0_findWhatTargetsRead_123 : decode bk_0_findWhatTargetsRead 123 = .ok (.iinc 2 1, 3) := by decide +kernel
theorem dk_0_findWhatTargetsRead_126 : decode bk_0_findWhatTargetsRead 126 = .ok (.goto (-55), 3) := by decide +kernel
theorem dk_0_findWhatTargetsRead_129 : decode bk_0_findWhatTargetsRead 129 = .ok (.iinc 1 1, 3) := by decide +kernel
theorem dk_0_findWhatTargetsRead_132 : decode bk_0_findWhatTargetsRead 132 = .ok (.goto (-74), 3) := by decide +kernel
theorem dk_0_findWhatTargetsRead_135 : decode bk_0_findWhatTargetsRead 135 = .ok (.iconst 0, 1) := by decide +kernel
theorem dk_0_findWhatTargetsRead_136 : decode bk_0_findWhatTargetsRead 136 = .ok (.istore_n 1, 1) := by decide +kernel
theorem dk_0_findWhatTargetsRead_137 : decode bk_0_findWhatTargetsRead 137 = .ok (.iload_n 1, 1) := by decide +kernel
theorem dk_0_findWhatTargetsRead_138 : decode bk_0_findWhatTargetsRead 138 = .ok (.bipush 16, 2) := by decide +kernel
theorem dk_0_findWhatTargetsRead_140 : decode bk_0_findWhatTargetsRead 140 = .ok (.if_icmp .ge 65, 3) := by decide +kernel
theorem dk_0_findWhatTargetsRead_143 : decode bk_0_findWhatTargetsRead 143 = .ok (.iconst 0, 1) := by decide +kernel
theorem dk_0_findWhatTargetsRead_144 : decode bk_0_findWhatTargetsRead 144 = .ok (.istore_n 2, 1) := by decide +kernel
theorem dk_0_findWhatTargetsRead_145 : decode bk_0_findWhatTargetsRead 145 = .ok (.iload_n 2, 1) := by decide +kernel
theorem dk_0_findWhatTargetsRead_146 : decode bk_0_findWhatTargetsRead 146 = .ok (.aload_n 0, 1) := by decide +kernel
theorem dk_0_findWhatTargetsRead_147 : decode bk_0_findWhatTargetsRead 147 = .ok (.getfield 54, 3) := by decide +kernel
theorem dk_0_findWhatTargetsRead_150 : decode bk_0_findWhatTargetsRead 150 = .ok (.getfield 305, 3) := by decide +kernel
theorem dk_0_findWhatTargetsRead_153 : decode bk_0_findWhatTargetsRead 153 = .ok (.if_icmp .ge 46, 3) := by decide +kernel
theorem dk_0_findWhatTargetsRead_156 : decode bk_0_findWhatTargetsRead 156 = .ok (.aload_n 0, 1) := by decide +kernel
theorem dk_0_findWhatTargetsRead_157 : decode bk_0_findWhatTargetsRead 157 = .ok (.getfield 40, 3) := by decide +kernel
theorem dk_0_findWhatTargetsRead_160 : decode bk_0_findWhatTargetsRead 160 = .ok (.getfield 207, 3) := by decide +kernel
theorem dk_0_findWhatTargetsRead_163 : decode bk_0_findWhatTargetsRead 163 = .ok (.aload_n 0, 1) := by decide +kernel
theorem dk_0_findWhatTargetsRead_164 : decode bk_0_findWhatTargetsRead 164 = .ok (.getfield 54, 3) := by decide +kernel
theorem dk_0_findWhatTargetsRead_167 : decode bk_0_findWhatTargetsRead 167 = .ok (.getfield 306, 3) := by decide +kernel
theorem dk_0_findWhatTargetsRead_170 : decode bk_0_findWhatTargetsRead 170 = .ok (.iload_n 2, 1) := by decide +kernel
theorem dk_0_findWhatTargetsRead_171 : decode bk_0_findWhatTargetsRead 171 = .ok (.iaload, 1) := by decide +kernel
theorem dk_0_findWhatTargetsRead_172 : decode bk_0_findWhatTargetsRead 172 = .ok (.dup2, 1) := by decide +kernel
theorem dk_0_findWhatTargetsRead_173 : decode bk_0_findWhatTargetsRead 173 = .ok (.iaload, 1) := by decide +kernel
theorem dk_0_findWhatTargetsRead_174 : decode bk_0_findWhatTargetsRead 174 = .ok (.aload_n 0, 1) := by decide +kernel
theorem dk_0_findWhatTargetsRead_175 : decode bk_0_findWhatTargetsRead 175 = .ok (.getfield 40, 3) := by decide +kernel
theorem dk_0_findWhatTargetsRead_178 : decode bk_0_findWhatTargetsRead 178 = .ok (.getfield 207, 3) := by decide +kernel
theorem dk_0_findWhatTargetsRead_181 : decode bk_0_findWhatTargetsRead 181 = .ok (.aload_n 0, 1) := by decide +kernel
theorem dk_0_findWhatTargetsRead_182 : decode bk_0_findWhatTargetsRead 182 = .ok (.getfield 54, 3) := by decide +kernel
theorem dk_0_findWhatTargetsRead_185 : decode bk_0_findWhatTargetsRead 185 = .ok (.getfield 307, 3) := by decide +kernel
theorem dk_0_findWhatTargetsRead_188 : decode bk_0_findWhatTargetsRead 188 = .ok (.iload_n 2, 1) := by decide +kernel
theorem dk_0_findWhatTargetsRead_189 : decode bk_0_findWhatTargetsRead 189 = .ok (.iaload, 1) := by decide +kernel
theorem dk_0_findWhatTargetsRead_190 : decode bk_0_findWhatTargetsRead 190 = .ok (.iaload, 1) := by decide +kernel
theorem dk_0_findWhatTargetsRead_191 : decode bk_0_findWhatTargetsRead 191 = .ok (.ior, 1) := by decide +kernel
theorem dk_0_findWhatTargetsRead_192 : decode bk_0_findWhatTargetsRead 192 = .ok (.iastore, 1) := by decide +kernel
theorem dk_0_findWhatTargetsRead_193 : decode bk_0_findWhatTargetsRead 193 = .ok (.iinc 2 1, 3) := by decide +kernel
theorem dk_0_findWhatTargetsRead_196 : decode bk_0_findWhatTargetsRead 196 = .ok (.goto (-51), 3) := by decide +kernel
theorem dk_0_findWhatTargetsRead_199 : decode bk_0_findWhatTargetsRead 199 = .ok (.iinc 1 1, 3) := by decide +kernel
theorem dk_0_findWhatTargetsRead_202 : decode bk_0_findWhatTargetsRead 202 = .ok (.goto (-65), 3) := by decide +kernel
theorem dk_0_findWhatTargetsRead_205 : decode bk_0_findWhatTargetsRead 205 = .ok (.return_, 1) := by decide +kernel
theorem dk_0_trimmed_0 : decode bk_0_trimmed 0 = .ok (.lload_n 1, 1) := by decide +kernel
theorem dk_0_trimmed_1 : decode bk_0_trimmed 1 = .ok (.lstore 4, 2) := by decide +kernel
theorem dk_0_trimmed_3 : decode bk_0_trimmed 3 = .ok (.iconst 0, 1) := by decide +kernel
theorem dk_0_trimmed_4 : decode bk_0_trimmed 4 = .ok (.istore 6, 2) := by decide +kernel
theorem dk_0_trimmed_6 : decode bk_0_trimmed 6 = .ok (.iload 6, 2) := by decide +kernel
theorem dk_0_trimmed_8 : decode bk_0_trimmed 8 = .ok (.aload_n 0, 1) := by decide +kernel
theorem dk_0_trimmed_9 : decode bk_0_trimmed 9 = .ok (.getfield 12, 3) := by decide +kernel
theorem dk_0_trimmed_12 : decode bk_0_trimmed 12 = .ok (.getfield 310, 3) := by decide +kernel
theorem dk_0_trimmed_15 : decode bk_0_trimmed 15 = .ok (.if_icmp .ge 37, 3) := by decide +kernel
theorem dk_0_trimmed_18 : decode bk_0_trimmed 18 = .ok (.iload_n 3, 1) := by decide +kernel
theorem dk_0_trimmed_19 : decode bk_0_trimmed 19 = .ok (.iload 6, 2) := by decide +kernel
theorem dk_0_trimmed_21 : decode bk_0_trimmed 21 = .ok (.invokestatic 269, 3) := by decide +kernel
theorem dk_0_trimmed_24 : decode bk_0_trimmed 24 = .ok (.ifCond .ne 22, 3) := by decide +kernel
theorem dk_0_trimmed_27 : decode bk_0_trimmed 27 = .ok (.lload 4, 2) := by decide +kernel
theorem dk_0_trimmed_29 : decode bk_0_trimmed 29 = .ok (.iload 6, 2) := by decide +kernel
theorem dk_0_trimmed_31 : decode bk_0_trimmed 31 = .ok (.aload_n 0, 1) := by decide +kernel
theorem dk_0_trimmed_32 : decode bk_0_trimmed 32 = .ok (.getfield 12, 3) := by decide +kernel
theorem dk_0_trimmed_35 : decode bk_0_trimmed 35 = .ok (.getfield 311, 3) := by decide +kernel
theorem dk_0_trimmed_38 : decode bk_0_trimmed 38 = .ok (.iload 6, 2) := by decide +kernel
theorem dk_0_trimmed_40 : decode bk_0_trimmed 40 = .ok (.iaload, 1) := by decide +kernel
theorem dk_0_trimmed_41 : decode bk_0_trimmed 41 = .ok (.invokestatic 168, 3) := by decide +kernel
theorem dk_0_trimmed_44 : decode bk_0_trimmed 44 = .ok (.lstore 4, 2) := by decide +kernel
theorem dk_0_trimmed_46 : decode bk_0_trimmed 46 = .ok (.iinc 6 1, 3) := by decide +kernel
theorem dk_0_trimmed_49 : decode bk_0_trimmed 49 = .ok (.goto (-43), 3) := by decide +kernel
theorem dk_0_trimmed_52 : decode bk_0_trimmed 52 = .ok (.lload 4, 2) := by decide +kernel
theorem dk_0_trimmed_54 : decode bk_0_trimmed 54 = .ok (.lreturn, 1) := by decide +kernel
theorem dk_0_findPairs_0 : decode bk_0_findPairs 0 = .ok (.aload_n 0, 1) := by decide +kernel
theorem dk_0_findPairs_1 : decode bk_0_findPairs 1 = .ok (.iload_n 1, 1) := by decide +kernel
theorem dk_0_findPairs_2 : decode bk_0_findPairs 2 = .ok (.lload_n 2, 1) := by decide +kernel
theorem dk_0_findPairs_3 : decode bk_0_findPairs 3 = .ok (.invokevirtual 314, 3) := by decide +kernel
theorem dk_0_findPairs_6 : decode bk_0_findPairs 6 = .ok (.iconst (-1), 1) := by decide +kernel
theorem dk_0_findPairs_7 : decode bk_0_findPairs 7 = .ok (.if_icmp .ne 5, 3) := by decide +kernel
theorem dk_0_findPairs_10 : decode bk_0_findPairs 10 = .ok (.iconst 0, 1) := by decide +kernel
theorem dk_0_findPairs_11 : decode bk_0_findPairs 11 = .ok (.ireturn, 1) := by decide +kernel
theorem dk_0_findPairs_12 : decode bk_0_findPairs 12 = .ok (.iconst 0, 1) := by decide +kernel
theorem dk_0_findPairs_13 : decode bk_0_findPairs 13 = .ok (.istore 4, 2) := by decide +kernel
theorem dk_0_findPairs_15 : decode bk_0_findPairs 15 = .ok (.iload 4, 2) := by decide +kernel
theorem dk_0_findPairs_17 : decode bk_0_findPairs 17 = .ok (.bipush 60, 2) := by decide +kernel
theorem dk_0_findPairs_19 : decode bk_0_findPairs 19 = .ok (.if_icmp .ge 78, 3) := by decide +kernel
theorem dk_0_findPairs_22 : decode bk_0_findPairs 22 = .ok (.iload 4, 2) := by decide +kernel
theorem dk_0_findPairs_24 : decode bk_0_findPairs 24 = .ok (.aload_n 0, 1) := by decide +kernel
theorem dk_0_findPairs_25 : decode bk_0_findPairs 25 = .ok (.getfield 61, 3) := by decide +kernel
theorem dk_0_findPairs_28 : decode bk_0_findPairs 28 = .ok (.getfield 222, 3) := by decide +kernel
theorem dk_0_findPairs_31 : decode bk_0_findPairs 31 = .ok (.if_icmp .ge 66, 3) := by decide +kernel
theorem dk_0_findPairs_34 : decode bk_0_findPairs 34 = .ok (.iconst 0, 1) := by decide +kernel
theorem dk_0_findPairs_35 : decode bk_0_findPairs 35 = .ok (.istore 5, 2) := by decide +kernel
theorem dk_0_findPairs_37 : decode bk_0_findPairs 37 = .ok (.iload 5, 2) := by decide +kernel
theorem dk_0_findPairs_39 : decode bk_0_findPairs 39 = .ok (.aload_n 0, 1) := by decide +kernel
theorem dk_0_findPairs_40 : decode bk_0_findPairs 40 = .ok (.getfield 54, 3) := by decide +kernel
theorem dk_0_findPairs_43 : decode bk_0_findPairs 43 = .ok (.getfield 305, 3) := by decide +kernel
theorem dk_0_findPairs_46 : decode bk_0_findPairs 46 = .ok (.if_icmp .ge 45, 3) := by decide +kernel
theorem dk_0_findPairs_49 : decode bk_0_findPairs 49 = .ok (.aload_n 0, 1) := by decide +kernel
theorem dk_0_findPairs_50 : decode bk_0_findPairs 50 = .ok (.getfield 54, 3) := by decide +kernel
theorem dk_0_findPairs_53 : decode bk_0_findPairs 53 = .ok (.getfield 306, 3) := by decide +kernel
theorem dk_0_findPairs_56 : decode bk_0_findPairs 56 = .ok (.iload 5, 2) := by decide +kernel
theorem dk_0_findPairs_58 : decode bk_0_findPairs 58 = .ok (.iaload, 1) := by decide +kernel
theorem dk_0_findPairs_59 : decode bk_0_findPairs 59 = .ok (.aload_n 0, 1) := by decide +kernel
theorem dk_0_findPairs_60 : decode bk_0_findPairs 60 = .ok (.getfield 61, 3) := by decide +kernel
theorem dk_0_findPairs_63 : decode bk_0_findPairs 63 = .ok (.getfield 227, 3) := by decide +kernel
theorem dk_0_findPairs_66 : decode bk_0_findPairs 66 = .ok (.iload 4, 2) := by decide +kernel
theorem dk_0_findPairs_68 : decode bk_0_findPairs 68 = .ok (.iaload, 1) := by decide +kernel
theorem dk_0_findPairs_69 : decode bk_0_findPairs 69 = .ok (.if_icmp .ne 16, 3) := by decide +kernel
theorem dk_0_findPairs_72 : decode bk_0_findPairs 72 = .ok (.aload_n 0, 1) := by decide +kernel
theorem dk_0_findPairs_73 : decode bk_0_findPairs 73 = .ok (.iload 4, 2) := by decide +kernel
theorem dk_0_findPairs_75 : decode bk_0_findPairs 75 = .ok (.iload 5, 2) := by decide +kernel
theorem dk_0_findPairs_77 : decode bk_0_findPairs 77 = .ok (.invokevirtual 317, 3) := by decide +kernel
theorem dk_0_findPairs_80 : decode bk_0_findPairs 80 = .ok (.ifCond .ne 5, 3) := by decide +kernel
theorem dk_0_findPairs_83 : decode bk_0_findPairs 83 = .ok (.iconst 0, 1) := by decide +kernel
theorem dk_0_findPairs_84 : decode bk_0_findPairs 84 = .ok (.ireturn, 1) := by decide +kernel
theorem dk_0_findPairs_85 : decode bk_0_findPairs 85 = .ok (.iinc 5 1, 3) := by decide +kernel
theorem dk_0_findPairs_88 : decode bk_0_findPairs 88 = .ok (.goto (-51), 3) := by decide +kernel
theorem dk_0_findPairs_91 : decode bk_0_findPairs 91 = .ok (.iinc 4 1, 3) := by decide +kernel
theorem dk_0_findPairs_94 : decode bk_0_findPairs 94 = .ok (.goto (-79), 3) := by decide +kernel
theorem dk_0_findPairs_97 : decode bk_0_findPairs 97 = .ok (.iconst 1, 1) := by decide +kernel
theorem dk_0_findPairs_98 : decode bk_0_findPairs 98 = .ok (.ireturn, 1) := by decide +kernel
theorem dk_0_followNeed_0 : decode bk_0_followNeed 0 = .ok (.aload_n 0, 1) := by decide +kernel
theorem dk_0_followNeed_1 : decode bk_0_followNeed 1 = .ok (.getfield 26, 3) := by decide +kernel
theorem dk_0_followNeed_4 : decode bk_0_followNeed 4 = .ok (.getfield 165, 3) := by decide +kernel
theorem dk_0_followNeed_7 : decode bk_0_followNeed 7 = .ok (.aload_n 0, 1) := by decide +kernel
theorem dk_0_followNeed_8 : decode bk_0_followNeed 8 = .ok (.getfield 61, 3) := by decide +kernel
theorem dk_0_followNeed_11 : decode bk_0_followNeed 11 = .ok (.getfield 230, 3) := by decide +kernel
theorem dk_0_followNeed_14 : decode bk_0_followNeed 14 = .ok (.iload_n 1, 1) := by decide +kernel
theorem dk_0_followNeed_15 : decode bk_0_followNeed 15 = .ok (.iaload, 1) := by decide +kernel
theorem dk_0_followNeed_16 : decode bk_0_followNeed 16 = .ok (.laload, 1) := by decide +kernel
theorem dk_0_followNeed_17 : decode bk_0_followNeed 17 = .ok (.lstore_n 3, 1) := by decide +kernel
theorem dk_0_followNeed_18 : decode bk_0_followNeed 18 = .ok (.aload_n 0, 1) := by decide +kernel
theorem dk_0_followNeed_19 : decode bk_0_followNeed 19 = .ok (.iload_n 2, 1) := by decide +kernel
theorem dk_0_followNeed_20 : decode bk_0_followNeed 20 = .ok (.iconst 0, 1) := by decide +kernel
theorem dk_0_followNeed_21 : decode bk_0_followNeed 21 = .ok (.invokevirtual 320, 3) := by decide +kernel
theorem dk_0_followNeed_24 : decode bk_0_followNeed 24 = .ok (.istore 5, 2) := by decide +kernel
theorem dk_0_followNeed_26 : decode bk_0_followNeed 26 = .ok (.aload_n 0, 1) := by decide +kernel
theorem dk_0_followNeed_27 : decode bk_0_followNeed 27 = .ok (.iload_n 2, 1) := by decide +kernel
theorem dk_0_followNeed_28 : decode bk_0_followNeed 28 = .ok (.iconst 1, 1) := by decide +kernel
theorem dk_0_followNeed_29 : decode bk_0_followNeed 29 = .ok (.invokevirtual 320, 3) := by decide +kernel
theorem dk_0_followNeed_32 : decode bk_0_followNeed 32 = .ok (.istore 6, 2) := by decide +kernel
theorem dk_0_followNeed_34 : decode bk_0_followNeed 34 = .ok (.aload_n 0, 1) := by decide +kernel
theorem dk_0_followNeed_35 : decode bk_0_followNeed 35 = .ok (.iload_n 2, 1) := by decide +kernel
theorem dk_0_followNeed_36 : decode bk_0_followNeed 36 = .ok (.iconst 0, 1) := by decide +kernel
theorem dk_0_followNeed_37 : decode bk_0_followNeed 37 = .ok (.iload 5, 2) := by decide +kernel
theorem dk_0_followNeed_39 : decode bk_0_followNeed 39 = .ok (.invokevirtual 323, 3) := by decide +kernel
theorem dk_0_followNeed_42 : decode bk_0_followNeed 42 = .ok (.istore 7, 2) := by decide +kernel
theorem dk_0_followNeed_44 : decode bk_0_followNeed 44 = .ok (.aload_n 0, 1) := by decide +kernel
theorem dk_0_followNeed_45 : decode bk_0_followNeed 45 = .ok (.iload_n 2, 1) := by decide +kernel
theorem dk_0_followNeed_46 : decode bk_0_followNeed 46 = .ok (.iconst 1, 1) := by decide +kernel
theorem dk_0_followNeed_47 : decode bk_0_followNeed 47 = .ok (.iload 6, 2) := by decide +kernel
theorem dk_0_followNeed_49 : decode bk_0_followNeed 49 = .ok (.invokevirtual 323, 3) := by decide +kernel
theorem dk_0_followNeed_52 : decode bk_0_followNeed 52 = .ok (.istore 8, 2) := by decide +kernel
theorem dk_0_followNeed_54 : decode bk_0_followNeed 54 = .ok (.iconst 0, 1) := by decide +kernel
theorem dk_0_followNeed_55 : decode bk_0_followNeed 55 = .ok (.istore 9, 2) := by decide +kernel
theorem dk_0_followNeed_57 : decode bk_0_followNeed 57 = .ok (.iload 9, 2) := by decide +kernel
theorem dk_0_followNeed_59 : decode bk_0_followNeed 59 = .ok (.bipush 8, 2) := by decide +kernel
theorem dk_0_followNeed_61 : decode bk_0_followNeed 61 = .ok (.if_icmp .ge 109, 3) := by decide +kernel
theorem dk_0_followNeed_64 : decode bk_0_followNeed 64 = .ok (.iload 7, 2) := by decide +kernel
theorem dk_0_followNeed_66 : decode bk_0_followNeed 66 = .ok (.iload 9, 2) := by decide +kernel
theorem dk_0_followNeed_68 : decode bk_0_followNeed 68 = .ok (.invokestatic 269, 3) := by decide +kernel
theorem dk_0_followNeed_71 : decode bk_0_followNeed 71 = .ok (.ifCond .ne 6, 3) := by decide +kernel
theorem dk_0_followNeed_74 : decode bk_0_followNeed 74 = .ok (.goto 90, 3) := by decide +kernel
theorem dk_0_followNeed_77 : decode bk_0_followNeed 77 = .ok (.lload_n 3, 1) := by decide +kernel
theorem dk_0_followNeed_78 : decode bk_0_followNeed 78 = .ok (.iload 5, 2) := by decide +kernel
theorem dk_0_followNeed_80 : decode bk_0_followNeed 80 = .ok (.iload 9, 2) := by decide +kernel
theorem dk_0_followNeed_82 : decode bk_0_followNeed 82 = .ok (.invokestatic 326, 3) := by decide +kernel
theorem dk_0_followNeed_85 : decode bk_0_followNeed 85 = .ok (.lstore 10, 2) := by decide +kernel
theorem dk_0_followNeed_87 : decode bk_0_followNeed 87 = .ok (.iconst 0, 1) := by decide +kernel
theorem dk_0_followNeed_88 : decode bk_0_followNeed 88 = .ok (.istore 12, 2) := by decide +kernel
theorem dk_0_followNeed_90 : decode bk_0_followNeed 90 = .ok (.iload 12, 2) := by decide +kernel
theorem dk_0_followNeed_92 : decode bk_0_followNeed 92 = .ok (.bipush 8, 2) := by decide +kernel
theorem dk_0_followNeed_94 : decode bk_0_followNeed 94 = .ok (.if_icmp .ge 70, 3) := by decide +kernel
theorem dk_0_followNeed_97 : decode bk_0_followNeed 97 = .ok (.iload 8, 2) := by decide +kernel
theorem dk_0_followNeed_99 : decode bk_0_followNeed 99 = .ok (.iload 12, 2) := by decide +kernel
theorem dk_0_followNeed_101 : decode bk_0_followNeed 101 = .ok (.invokestatic 269, 3) := by decide +kernel
theorem dk_0_followNeed_104 : decode bk_0_followNeed 104 = .ok (.ifCond .ne 6, 3) := by decide +kernel
theorem dk_0_followNeed_107 : decode bk_0_followNeed 107 = .ok (.goto 51, 3) := by decide +kernel
theorem dk_0_followNeed_110 : decode bk_0_followNeed 110 = .ok (.aload_n 0, 1) := by decide +kernel
theorem dk_0_followNeed_111 : decode bk_0_followNeed 111 = .ok (.aload_n 0, 1) := by decide +kernel
theorem dk_0_followNeed_112 : decode bk_0_followNeed 112 = .ok (.getfield 54, 3) := by decide +kernel
theorem dk_0_followNeed_115 : decode bk_0_followNeed 115 = .ok (.getfield 307, 3) := by decide +kernel
theorem dk_0_followNeed_118 : decode bk_0_followNeed 118 = .ok (.iload_n 2, 1) := by decide +kernel
theorem dk_0_followNeed_119 : decode bk_0_followNeed 119 = .ok (.iaload, 1) := by decide +kernel
theorem dk_0_followNeed_120 : decode bk_0_followNeed 120 = .ok (.lload 10, 2) := by decide +kernel
theorem dk_0_followNeed_122 : decode bk_0_followNeed 122 = .ok (.iload 6, 2) := by decide +kernel
theorem dk_0_followNeed_124 : decode bk_0_followNeed 124 = .ok (.iload 12, 2) := by decide +kernel
theorem dk_0_followNeed_126 : decode bk_0_followNeed 126 = .ok (.invokestatic 326, 3) := by decide +kernel
theorem dk_0_followNeed_129 : decode bk_0_followNeed 129 = .ok (.invokevirtual 314, 3) := by decide +kernel
theorem dk_0_followNeed_132 : decode bk_0_followNeed 132 = .ok (.istore 13, 2) := by decide +kernel
theorem dk_0_followNeed_134 : decode bk_0_followNeed 134 = .ok (.iload 13, 2) := by decide +kernel
theorem dk_0_followNeed_136 : decode bk_0_followNeed 136 = .ok (.iconst (-1), 1) := by decide +kernel
theorem dk_0_followNeed_137 : decode bk_0_followNeed 137 = .ok (.if_icmp .ne 5, 3) := by decide +kernel
theorem dk_0_followNeed_140 : decode bk_0_followNeed 140 = .ok (.iconst 0, 1) := by decide +kernel
theorem dk_0_followNeed_141 : decode bk_0_followNeed 141 = .ok (.ireturn, 1) := by decide +kernel
theorem dk_0_followNeed_142 : decode bk_0_followNeed 142 = .ok (.aload_n 0, 1) := by decide +kernel
theorem dk_0_followNeed_143 : decode bk_0_followNeed 143 = .ok (.getfield 61, 3) := by decide +kernel
theorem dk_0_followNeed_146 : decode bk_0_followNeed 146 = .ok (.getfield 329, 3) := by decide +kernel
theorem dk_0_followNeed_149 : decode bk_0_followNeed 149 = .ok (.iload_n 1, 1) := by decide +kernel
theorem dk_0_followNeed_150 : decode bk_0_followNeed 150 = .ok (.dup2, 1) := by decide +kernel
theorem dk_0_followNeed_151 : decode bk_0_followNeed 151 = .ok (.laload, 1) := by decide +kernel
theorem dk_0_followNeed_152 : decode bk_0_followNeed 152 = .ok (.lconst 1, 1) := by decide +kernel
theorem dk_0_followNeed_153 : decode bk_0_followNeed 153 = .ok (.iload 13, 2) := by decide +kernel
theorem dk_0_followNeed_155 : decode bk_0_followNeed 155 = .ok (.lshl, 1) := by decide +kernel
theorem dk_0_followNeed_156 : decode bk_0_followNeed 156 = .ok (.lor, 1) := by decide +kernel
theorem dk_0_followNeed_157 : decode bk_0_followNeed 157 = .ok (.lastore, 1) := by decide +kernel
theorem dk_0_followNeed_158 : decode bk_0_followNeed 158 = .ok (.iinc 12 1, 3) := by decide +kernel
theorem dk_0_followNeed_161 : decode bk_0_followNeed 161 = .ok (.goto (-71), 3) := by decide +kernel
theorem dk_0_followNeed_164 : decode bk_0_followNeed 164 = .ok (.iinc 9 1, 3) := by decide +kernel
theorem dk_0_followNeed_167 : decode bk_0_followNeed 167 = .ok (.goto (-110), 3) := by decide +kernel
theorem dk_0_followNeed_170 : decode bk_0_followNeed 170 = .ok (.iconst 1, 1) := by decide +kernel
theorem dk_0_followNeed_171 : decode bk_0_followNeed 171 = .ok (.ireturn, 1) := by decide +kernel
theorem dk_0_changedBase_0 : decode bk_0_changedBase 0 = .ok (.iload_n 2, 1) := by decide +kernel
theorem dk_0_changedBase_1 : decode bk_0_changedBase 1 = .ok (.aload_n 0, 1) := by decide +kernel
theorem dk_0_changedBase_2 : decode bk_0_changedBase 2 = .ok (.getfield 54, 3) := by decide +kernel
theorem dk_0_changedBase_5 : decode bk_0_changedBase 5 = .ok (.getfield 332, 3) := by decide +kernel
theorem dk_0_changedBase_8 : decode bk_0_changedBase 8 = .ok (.iload_n 1, 1) := by decide +kernel
theorem dk_0_changedBase_9 : decode bk_0_changedBase 9 = .ok (.iaload, 1) := by decide +kernel
theorem dk_0_changedBase_10 : decode bk_0_changedBase 10 = .ok (.if_icmp .ge 22, 3) := by decide +kernel
theorem dk_0_changedBase_13 : decode bk_0_changedBase 13 = .ok (.aload_n 0, 1) := by decide +kernel
theorem dk_0_changedBase_14 : decode bk_0_changedBase 14 = .ok (.getfield 12, 3) := by decide +kernel
theorem dk_0_changedBase_17 : decode bk_0_changedBase 17 = .ok (.aload_n 0, 1) := by decide +kernel
theorem dk_0_changedBase_18 : decode bk_0_changedBase 18 = .ok (.getfield 54, 3) := by decide +kernel
theorem dk_0_changedBase_21 : decode bk_0_changedBase 21 = .ok (.iload_n 1, 1) := by decide +kernel
theorem dk_0_changedBase_22 : decode bk_0_changedBase 22 = .ok (.iload_n 2, 1) := by decide +kernel
theorem dk_0_changedBase_23 : decode bk_0_changedBase 23 = .ok (.invokevirtual 335, 3) := by decide +kernel
theorem dk_0_changedBase_26 : decode bk_0_changedBase 26 = .ok (.invokevirtual 83, 3) := by decide +kernel
theorem dk_0_changedBase_29 : decode bk_0_changedBase 29 = .ok (.goto 4, 3) := by decide +kernel
theorem dk_0_changedBase_32 : decode bk_0_changedBase 32 = .ok (.iconst (-1), 1) := by decide +kernel
theorem dk_0_changedBase_33 : decode bk_0_changedBase 33 = .ok (.ireturn, 1) := by decide +kernel
