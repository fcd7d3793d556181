theorem dk_1_init_0 : decode bk_1_init 0 = .ok (.aload_n 0, 1) := by decide +kernel
theorem dk_1_init_1 : decode bk_1_init 1 = .ok (.invokespecial 1, 3) := by decide +kernel
theorem dk_1_init_4 : decode bk_1_init 4 = .ok (.aload_n 0, 1) := by decide +kernel
theorem dk_1_init_5 : decode bk_1_init 5 = .ok (.bipush 16, 2) := by decide +kernel
theorem dk_1_init_7 : decode bk_1_init 7 = .ok (.newarray .int, 2) := by decide +kernel
theorem dk_1_init_9 : decode bk_1_init 9 = .ok (.putfield 7, 3) := by decide +kernel
theorem dk_1_init_12 : decode bk_1_init 12 = .ok (.aload_n 0, 1) := by decide +kernel
theorem dk_1_init_13 : decode bk_1_init 13 = .ok (.bipush 16, 2) := by decide +kernel
theorem dk_1_init_15 : decode bk_1_init 15 = .ok (.newarray .int, 2) := by decide +kernel
theorem dk_1_init_17 : decode bk_1_init 17 = .ok (.putfield 13, 3) := by decide +kernel
theorem dk_1_init_20 : decode bk_1_init 20 = .ok (.aload_n 0, 1) := by decide +kernel
theorem dk_1_init_21 : decode bk_1_init 21 = .ok (.bipush 16, 2) := by decide +kernel
theorem dk_1_init_23 : decode bk_1_init 23 = .ok (.newarray .int, 2) := by decide +kernel
theorem dk_1_init_25 : decode bk_1_init 25 = .ok (.putfield 16, 3) := by decide +kernel
theorem dk_1_init_28 : decode bk_1_init 28 = .ok (.aload_n 0, 1) := by decide +kernel
theorem dk_1_init_29 : decode bk_1_init 29 = .ok (.bipush 64, 2) := by decide +kernel
theorem dk_1_init_31 : decode bk_1_init 31 = .ok (.newarray .int, 2) := by decide +kernel
theorem dk_1_init_33 : decode bk_1_init 33 = .ok (.putfield 19, 3) := by decide +kernel
theorem dk_1_init_36 : decode bk_1_init 36 = .ok (.aload_n 0, 1) := by decide +kernel
theorem dk_1_init_37 : decode bk_1_init 37 = .ok (.bipush 61, 2) := by decide +kernel
theorem dk_1_init_39 : decode bk_1_init 39 = .ok (.newarray .int, 2) := by decide +kernel
theorem dk_1_init_41 : decode bk_1_init 41 = .ok (.putfield 22, 3) := by decide +kernel
theorem dk_1_init_44 : decode bk_1_init 44 = .ok (.aload_n 0, 1) := by decide +kernel
theorem dk_1_init_45 : decode bk_1_init 45 = .ok (.sipush 976, 3) := by decide +kernel
theorem dk_1_init_48 : decode bk_1_init 48 = .ok (.newarray .int, 2) := by decide +kernel
theorem dk_1_init_50 : decode bk_1_init 50 = .ok (.putfield 25, 3) := by decide +kernel
theorem dk_1_init_53 : decode bk_1_init 53 = .ok (.aload_n 0, 1) := by decide +kernel
theorem dk_1_init_54 : decode bk_1_init 54 = .ok (.bipush 40, 2) := by decide +kernel
theorem dk_1_init_56 : decode bk_1_init 56 = .ok (.newarray .int, 2) := by decide +kernel
theorem dk_1_init_58 : decode bk_1_init 58 = .ok (.putfield 28, 3) := by decide +kernel
theorem dk_1_init_61 : decode bk_1_init 61 = .ok (.aload_n 0, 1) := by decide +kernel
theorem dk_1_init_62 : decode bk_1_init 62 = .ok (.sipush 240, 3) := by decide +kernel
theorem dk_1_init_65 : decode bk_1_init 65 = .ok (.newarray .int, 2) := by decide +kernel
theorem dk_1_init_67 : decode bk_1_init 67 = .ok (.putfield 31, 3) := by decide +kernel
theorem dk_1_init_70 : decode bk_1_init 70 = .ok (.aload_n 0, 1) := by decide +kernel
theorem dk_1_init_71 : decode bk_1_init 71 = .ok (.sipush 240, 3) := by decide +kernel
theorem dk_1_init_74 : decode bk_1_init 74 = .ok (.newarray .int, 2) := by decide +kernel
theorem dk_1_init_76 : decode bk_1_init 76 = .ok (.putfield 34, 3) := by decide +kernel
theorem dk_1_init_79 : decode bk_1_init 79 = .ok (.aload_n 0, 1) := by decide +kernel
theorem dk_1_init_80 : decode bk_1_init 80 = .ok (.sipush 240, 3) := by decide +kernel
theorem dk_1_init_83 : decode bk_1_init 83 = .ok (.newarray .boolean, 2) := by decide +kernel
theorem dk_1_init_85 : decode bk_1_init 85 = .ok (.putfield 37, 3) := by decide +kernel
theorem dk_1_init_88 : decode bk_1_init 88 = .ok (.aload_n 0, 1) := by decide +kernel
theorem dk_1_init_89 : decode bk_1_init 89 = .ok (.bipush 24, 2) := by decide +kernel
theorem dk_1_init_91 : decode bk_1_init 91 = .ok (.newarray .int, 2) := by decide +kernel
theorem dk_1_init_93 : decode bk_1_init 93 = .ok (.putfield 41, 3) := by decide +kernel
theorem dk_1_init_96 : decode bk_1_init 96 = .ok (.aload_n 0, 1) := by decide +kernel
theorem dk_1_init_97 : decode bk_1_init 97 = .ok (.bipush 24, 2) := by decide +kernel
theorem dk_1_init_99 : decode bk_1_init 99 = .ok (.newarray .int, 2) := by decide +kernel
theorem dk_1_init_101 : decode bk_1_init 101 = .ok (.putfield 44, 3) := by decide +kernel
theorem dk_1_init_104 : decode bk_1_init 104 = .ok (.aload_n 0, 1) := by decide +kernel
theorem dk_1_init_105 : decode bk_1_init 105 = .ok (.sipush 192, 3) := by decide +kernel
theorem dk_1_init_108 : decode bk_1_init 108 = .ok (.newarray .int, 2) := by decide +kernel
theorem dk_1_init_110 : decode bk_1_init 110 = .ok (.putfield 47, 3) := by decide +kernel
theorem dk_1_init_113 : decode bk_1_init 113 = .ok (.aload_n 0, 1) := by decide +kernel
theorem dk_1_init_114 : decode bk_1_init 114 = .ok (.sipush 192, 3) := by decide +kernel
theorem dk_1_init_117 : decode bk_1_init 117 = .ok (.newarray .int, 2) := by decide +kernel
theorem dk_1_init_119 : decode bk_1_init 119 = .ok (.putfield 50, 3) := by decide +kernel
theorem dk_1_init_122 : decode bk_1_init 122 = .ok (.aload_n 0, 1) := by decide +kernel
theorem dk_1_init_123 : decode bk_1_init 123 = .ok (.bipush 24, 2) := by decide +kernel
theorem dk_1_init_125 : decode bk_1_init 125 = .ok (.newarray .int, 2) := by decide +kernel
theorem dk_1_init_127 : decode bk_1_init 127 = .ok (.putfield 53, 3) := by decide +kernel
theorem dk_1_init_130 : decode bk_1_init 130 = .ok (.aload_n 0, 1) := by decide +kernel
theorem dk_1_init_131 : decode bk_1_init 131 = .ok (.sipush 192, 3) := by decide +kernel
theorem dk_1_init_134 : decode bk_1_init 134 = .ok (.newarray .boolean, 2) := by decide +kernel
theorem dk_1_init_136 : decode bk_1_init 136 = .ok (.putfield 56, 3) := by decide +kernel
theorem dk_1_init_139 : decode bk_1_init 139 = .ok (.aload_n 0, 1) := by decide +kernel
theorem dk_1_init_140 : decode bk_1_init 140 = .ok (.bipush 24, 2) := by decide +kernel
theorem dk_1_init_142 : decode bk_1_init 142 = .ok (.newarray .boolean, 2) := by decide +kernel
theorem dk_1_init_144 : decode bk_1_init 144 = .ok (.putfield 59, 3) := by decide +kernel
theorem dk_1_init_147 : decode bk_1_init 147 = .ok (.aload_n 0, 1) := by decide +kernel
theorem dk_1_init_148 : decode bk_1_init 148 = .ok (.bipush 16, 2) := by decide +kernel
theorem dk_1_init_150 : decode bk_1_init 150 = .ok (.newarray .int, 2) := by decide +kernel
theorem dk_1_init_152 : decode bk_1_init 152 = .ok (.putfield 62, 3) := by decide +kernel
theorem dk_1_init_155 : decode bk_1_init 155 = .ok (.aload_n 0, 1) := by decide +kernel
theorem dk_1_init_156 : decode bk_1_init 156 = .ok (.bipush 40, 2) := by decide +kernel
theorem dk_1_init_158 : decode bk_1_init 158 = .ok (.newarray .boolean, 2) := by decide +kernel
theorem dk_1_init_160 : decode bk_1_init 160 = .ok (.putfield 65, 3) := by decide +kernel
theorem dk_1_init_163 : decode bk_1_init 163 = .ok (.aload_n 0, 1) := by decide +kernel
theorem dk_1_init_164 : decode bk_1_init 164 = .ok (.bipush 40, 2) := by decide +kernel
theorem dk_1_init_166 : decode bk_1_init 166 = .ok (.newarray .int, 2) := by decide +kernel
theorem dk_1_init_168 : decode bk_1_init 168 = .ok (.putfield 68, 3) := by decide +kernel
theorem dk_1_init_171 : decode bk_1_init 171 = .ok (.aload_n 0, 1) := by decide +kernel
theorem dk_1_init_172 : decode bk_1_init 172 = .ok (.bipush 40, 2) := by decide +kernel
theorem dk_1_init_174 : decode bk_1_init 174 = .ok (.newarray .int, 2) := by decide +kernel
theorem dk_1_init_176 : decode bk_1_init 176 = .ok (.putfield 71, 3) := by decide +kernel
theorem dk_1_init_179 : decode bk_1_init 179 = .ok (.aload_n 0, 1) := by decide +kernel
theorem dk_1_init_180 : decode bk_1_init 180 = .ok (.bipush 40, 2) := by decide +kernel
theorem dk_1_init_182 : decode bk_1_init 182 = .ok (.newarray .int, 2) := by decide +kernel
theorem dk_1_init_184 : decode bk_1_init 184 = .ok (.putfield 74, 3) := by decide +kernel
theorem dk_1_init_187 : decode bk_1_init 187 = .ok (.aload_n 0, 1) := by decide +kernel
theorem dk_1_init_188 : decode bk_1_init 188 = .ok (.bipush 80, 2) := by decide +kernel
theorem dk_1_init_190 : decode bk_1_init 190 = .ok (.newarray .int, 2) := by decide +kernel
theorem dk_1_init_192 : decode bk_1_init 192 = .ok (.putfield 77, 3) := by decide +kernel
theorem dk_1_init_195 : decode bk_1_init 195 = .ok (.aload_n 0, 1) := by decide +kernel
theorem dk_1_init_196 : decode bk_1_init 196 = .ok (.bipush 80, 2) := by decide +kernel
theorem dk_1_init_198 : decode bk_1_init 198 = .ok (.newarray .int, 2) := by decide +kernel
theorem dk_1_init_200 : decode bk_1_init 200 = .ok (.putfield 80, 3) := by decide +kernel
theorem dk_1_init_203 : decode bk_1_init 203 = .ok (.aload_n 0, 1) := by decide +kernel
theorem dk_1_init_204 : decode bk_1_init 204 = .ok (.iconst (-1), 1) := by decide +kernel
theorem dk_1_init_205 : decode bk_1_init 205 = .ok (.putfield 83, 3) := by decide +kernel
theorem dk_1_init_208 : decode bk_1_init 208 = .ok (.aload_n 0, 1) := by decide +kernel
theorem dk_1_init_209 : decode bk_1_init 209 = .ok (.bipush 61, 2) := by decide +kernel
theorem dk_1_init_211 : decode bk_1_init 211 = .ok (.newarray .int, 2) := by decide +kernel
theorem dk_1_init_213 : decode bk_1_init 213 = .ok (.putfield 87, 3) := by decide +kernel
theorem dk_1_init_216 : decode bk_1_init 216 = .ok (.aload_n 0, 1) := by decide +kernel
theorem dk_1_init_217 : decode bk_1_init 217 = .ok (.bipush 61, 2) := by decide +kernel
theorem dk_1_init_219 : decode bk_1_init 219 = .ok (.newarray .int, 2) := by decide +kernel
theorem dk_1_init_221 : decode bk_1_init 221 = .ok (.putfield 90, 3) := by decide +kernel
theorem dk_1_init_224 : decode bk_1_init 224 = .ok (.aload_n 0, 1) := by decide +kernel
theorem dk_1_init_225 : decode bk_1_init 225 = .ok (.bipush 61, 2) := by decide +kernel
theorem dk_1_init_227 : decode bk_1_init 227 = .ok (.newarray .int, 2) := by decide +kernel
theorem dk_1_init_229 : decode bk_1_init 229 = .ok (.putfield 93, 3) := by decide +kernel
theorem dk_1_init_232 : decode bk_1_init 232 = .ok (.aload_n 0, 1) := by decide +kernel
theorem dk_1_init_233 : decode bk_1_init 233 = .ok (.sipush 3721, 3) := by decide +kernel
theorem dk_1_init_236 : decode bk_1_init 236 = .ok (.newarray .boolean, 2) := by decide +kernel
theorem dk_1_init_238 : decode bk_1_init 238 = .ok (.putfield 96, 3) := by decide +kernel
theorem dk_1_init_241 : decode bk_1_init 241 = .ok (.return_, 1) := by decide +kernel
theorem dk_1_in_0 : decode bk_1_in 0 = .ok (.iload_n 0, 1) := by decide +kernel
theorem dk_1_in_1 : decode bk_1_in 1 = .ok (.ifCond .lt 12, 3) := by decide +kernel
theorem dk_1_in_4 : decode bk_1_in 4 = .ok (.iload_n 0, 1) := by decide +kernel
theorem dk_1_in_5 : decode bk_1_in 5 = .ok (.iload_n 1, 1) := by decide +kernel
theorem dk_1_in_6 : decode bk_1_in 6 = .ok (.if_icmp .ge 7, 3) := by decide +kernel
theorem dk_1_in_9 : decode bk_1_in 9 = .ok (.iconst 1, 1) := by decide +kernel
theorem dk_1_in_10 : decode bk_1_in 10 = .ok (.goto 4, 3) := by decide +kernel
theorem dk_1_in_13 : decode bk_1_in 13 = .ok (.iconst 0, 1) := by decide +kernel
theorem dk_1_in_14 : decode bk_1_in 14 = .ok (.ireturn, 1) := by decide +kernel
theorem dk_1_setting_0 : decode bk_1_setting 0 = .ok (.aload_n 0, 1) := by decide +kernel
theorem dk_1_setting_1 : decode bk_1_setting 1 = .ok (.getfield 99, 3) := by decide +kernel
theorem dk_1_setting_4 : decode bk_1_setting 4 = .ok (.bipush 16, 2) := by decide +kernel
theorem dk_1_setting_6 : decode bk_1_setting 6 = .ok (.if_icmp .eq 22, 3) := by decide +kernel
theorem dk_1_setting_9 : decode bk_1_setting 9 = .ok (.iload_n 1, 1) := by decide +kernel
theorem dk_1_setting_10 : decode bk_1_setting 10 = .ok (.iconst 1, 1) := by decide +kernel
theorem dk_1_setting_11 : decode bk_1_setting 11 = .ok (.if_icmp .lt 17, 3) := by decide +kernel
theorem dk_1_setting_14 : decode bk_1_setting 14 = .ok (.iload_n 1, 1) := by decide +kernel
theorem dk_1_setting_15 : decode bk_1_setting 15 = .ok (.bipush 8, 2) := by decide +kernel
theorem dk_1_setting_17 : decode bk_1_setting 17 = .ok (.if_icmp .gt 11, 3) := by decide +kernel
theorem dk_1_setting_20 : decode bk_1_setting 20 = .ok (.iload_n 2, 1) := by decide +kernel
theorem dk_1_setting_21 : decode bk_1_setting 21 = .ok (.iload_n 1, 1) := by decide +kernel
theorem dk_1_setting_22 : decode bk_1_setting 22 = .ok (.invokestatic 102, 3) := by decide +kernel
theorem dk_1_setting_25 : decode bk_1_setting 25 = .ok (.ifCond .ne 5, 3) := by decide +kernel
theorem dk_1_setting_28 : decode bk_1_setting 28 = .ok (.iconst (-1), 1) := by decide +kernel
theorem dk_1_setting_29 : decode bk_1_setting 29 = .ok (.ireturn, 1) := by decide +kernel
theorem dk_1_setting_30 : decode bk_1_setting 30 = .ok (.aload_n 0, 1) := by decide +kernel
theorem dk_1_setting_31 : decode bk_1_setting 31 = .ok (.getfield 7, 3) := by decide +kernel
theorem dk_1_setting_34 : decode bk_1_setting 34 = .ok (.aload_n 0, 1) := by decide +kernel
theorem dk_1_setting_35 : decode bk_1_setting 35 = .ok (.getfield 99, 3) := by decide +kernel
theorem dk_1_setting_38 : decode bk_1_setting 38 = .ok (.iconst (-1), 1) := by decide +kernel
theorem dk_1_setting_39 : decode bk_1_setting 39 = .ok (.iastore, 1) := by decide +kernel
theorem dk_1_setting_40 : decode bk_1_setting 40 = .ok (.aload_n 0, 1) := by decide +kernel
theorem dk_1_setting_41 : decode bk_1_setting 41 = .ok (.getfield 13, 3) := by decide +kernel
theorem dk_1_setting_44 : decode bk_1_setting 44 = .ok (.aload_n 0, 1) := by decide +kernel
theorem dk_1_setting_45 : decode bk_1_setting 45 = .ok (.getfield 99, 3) := by decide +kernel
theorem dk_1_setting_48 : decode bk_1_setting 48 = .ok (.iload_n 1, 1) := by decide +kernel
theorem dk_1_setting_49 : decode bk_1_setting 49 = .ok (.iastore, 1) := by decide +kernel
theorem dk_1_setting_50 : decode bk_1_setting 50 = .ok (.aload_n 0, 1) := by decide +kernel
theorem dk_1_setting_51 : decode bk_1_setting 51 = .ok (.getfield 16, 3) := by decide +kernel
theorem dk_1_setting_54 : decode bk_1_setting 54 = .ok (.aload_n 0, 1) := by decide +kernel
theorem dk_1_setting_55 : decode bk_1_setting 55 = .ok (.getfield 99, 3) := by decide +kernel
theorem dk_1_setting_58 : decode bk_1_setting 58 = .ok (.iload_n 2, 1) := by decide +kernel
theorem dk_1_setting_59 : decode bk_1_setting 59 = .ok (.iastore, 1) := by decide +kernel
theorem dk_1_setting_60 : decode bk_1_setting 60 = .ok (.iconst 0, 1) := by decide +kernel
theorem dk_1_setting_61 : decode bk_1_setting 61 = .ok (.istore_n 3, 1) := by decide +kernel
theorem dk_1_setting_62 : decode bk_1_setting 62 = .ok (.iload_n 3, 1) := by decide +kernel
theorem dk_1_setting_63 : decode bk_1_setting 63 = .ok (.bipush 60, 2) := by decide +kernel
theorem dk_1_setting_65 : decode bk_1_setting 65 = .ok (.if_icmp .gt 24, 3) := by decide +kernel
theorem dk_1_setting_68 : decode bk_1_setting 68 = .ok (.aload_n 0, 1) := by decide +kernel
theorem dk_1_setting_69 : decode bk_1_setting 69 = .ok (.getfield 25, 3) := by decide +kernel
theorem dk_1_setting_72 : decode bk_1_setting 72 = .ok (.bipush 16, 2) := by decide +kernel
theorem dk_1_setting_74 : decode bk_1_setting 74 = .ok (.iload_n 3, 1) := by decide +kernel
theorem dk_1_setting_75 : decode bk_1_setting 75 = .ok (.imul, 1) := by decide +kernel
theorem dk_1_setting_76 : decode bk_1_setting 76 = .ok (.aload_n 0, 1) := by decide +kernel
theorem dk_1_setting_77 : decode bk_1_setting 77 = .ok (.getfield 99, 3) := by decide +kernel
theorem dk_1_setting_80 : decode bk_1_setting 80 = .ok (.iadd, 1) := by decide +kernel
theorem dk_1_setting_81 : decode bk_1_setting 81 = .ok (.iload_n 2, 1) := by decide +kernel
theorem dk_1_setting_82 : decode bk_1_setting 82 = .ok (.iastore, 1) := by decide +kernel
theorem dk_1_setting_83 : decode bk_1_setting 83 = .ok (.iinc 3 1, 3) := by decide +kernel
theorem dk_1_setting_86 : decode bk_1_setting 86 = .ok (.goto (-24), 3) := by decide +kernel
theorem dk_1_setting_89 : decode bk_1_setting 89 = .ok (.aload_n 0, 1) := by decide +kernel
theorem dk_1_setting_90 : decode bk_1_setting 90 = .ok (.dup, 1) := by decide +kernel
theorem dk_1_setting_91 : decode bk_1_setting 91 = .ok (.getfield 99, 3) := by decide +kernel
theorem dk_1_setting_94 : decode bk_1_setting 94 = .ok (.iconst 1, 1) := by decide +kernel
theorem dk_1_setting_95 : decode bk_1_setting 95 = .ok (.iadd, 1) := by decide +kernel
theorem dk_1_setting_96 : decode bk_1_setting 96 = .ok (.putfield 99, 3) := by decide +kernel
theorem dk_1_setting_99 : decode bk_1_setting 99 = .ok (.aload_n 0, 1) := by decide +kernel
theorem dk_1_setting_100 : decode bk_1_setting 100 = .ok (.getfield 99, 3) := by decide +kernel
theorem dk_1_setting_103 : decode bk_1_setting 103 = .ok (.iconst 1, 1) := by decide +kernel
theorem dk_1_setting_104 : decode bk_1_setting 104 = .ok (.isub, 1) := by decide +kernel
theorem dk_1_setting_105 : decode bk_1_setting 105 = .ok (.ireturn, 1) := by decide +kernel
theorem dk_1_alias_0 : decode bk_1_alias 0 = .ok (.aload_n 0, 1) := by decide +kernel
theorem dk_1_alias_1 : decode bk_1_alias 1 = .ok (.getfield 99, 3) := by decide +kernel
theorem dk_1_alias_4 : decode bk_1_alias 4 = .ok (.bipush 16, 2) := by decide +kernel
theorem dk_1_alias_6 : decode bk_1_alias 6 = .ok (.if_icmp .eq 12, 3) := by decide +kernel
theorem dk_1_alias_9 : decode bk_1_alias 9 = .ok (.iload_n 1, 1) := by decide +kernel
theorem dk_1_alias_10 : decode bk_1_alias 10 = .ok (.bipush 16, 2) := by decide +kernel
theorem dk_1_alias_12 : decode bk_1_alias 12 = .ok (.invokestatic 102, 3) := by decide +kernel
theorem dk_1_alias_15 : decode bk_1_alias 15 = .ok (.ifCond .ne 5, 3) := by decide +kernel
theorem dk_1_alias_18 : decode bk_1_alias 18 = .ok (.iconst (-1), 1) := by decide +kernel
theorem dk_1_alias_19 : decode bk_1_alias 19 = .ok (.ireturn, 1) := by decide +kernel
theorem dk_1_alias_20 : decode bk_1_alias 20 = .ok (.aload_n 0, 1) := by decide +kernel
theorem dk_1_alias_21 : decode bk_1_alias 21 = .ok (.getfield 7, 3) := by decide +kernel
theorem dk_1_alias_24 : decode bk_1_alias 24 = .ok (.aload_n 0, 1) := by decide +kernel
theorem dk_1_alias_25 : decode bk_1_alias 25 = .ok (.getfield 99, 3) := by decide +kernel
theorem dk_1_alias_28 : decode bk_1_alias 28 = .ok (.iload_n 1, 1) := by decide +kernel
theorem dk_1_alias_29 : decode bk_1_alias 29 = .ok (.iastore, 1) := by decide +kernel
theorem dk_1_alias_30 : decode bk_1_alias 30 = .ok (.aload_n 0, 1) := by decide +kernel
theorem dk_1_alias_31 : decode bk_1_alias 31 = .ok (.getfield 13, 3) := by decide +kernel
theorem dk_1_alias_34 : decode bk_1_alias 34 = .ok (.aload_n 0, 1) := by decide +kernel
theorem dk_1_alias_35 : decode bk_1_alias 35 = .ok (.getfield 99, 3) := by decide +kernel
theorem dk_1_alias_38 : decode bk_1_alias 38 = .ok (.iconst 0, 1) := by decide +kernel
theorem dk_1_alias_39 : decode bk_1_alias 39 = .ok (.iastore, 1) := by decide +kernel
theorem dk_1_alias_40 : decode bk_1_alias 40 = .ok (.aload_n 0, 1) := by decide +kernel
theorem dk_1_alias_41 : decode bk_1_alias 41 = .ok (.getfield 16, 3) := by decide +kernel
theorem dk_1_alias_44 : decode bk_1_alias 44 = .ok (.aload_n 0, 1) := by decide +kernel
theorem dk_1_alias_45 : decode bk_1_alias 45 = .ok (.getfield 99, 3) := by decide +kernel
theorem dk_1_alias_48 : decode bk_1_alias 48 = .ok (.iconst 0, 1) := by decide +kernel
theorem dk_1_alias_49 : decode bk_1_alias 49 = .ok (.iastore, 1) := by decide +kernel
theorem dk_1_alias_50 : decode bk_1_alias 50 = .ok (.aload_n 0, 1) := by decide +kernel
theorem dk_1_alias_51 : decode bk_1_alias 51 = .ok (.dup, 1) := by decide +kernel
theorem dk_1_alias_52 : decode bk_1_alias 52 = .ok (.getfield 99, 3) := by decide +kernel
theorem dk_1_alias_55 : decode bk_1_alias 55 = .ok (.iconst 1, 1) := by decide +kernel
theorem dk_1_alias_56 : decode bk_1_alias 56 = .ok (.iadd, 1) := by decide +kernel
theorem dk_1_alias_57 : decode bk_1_alias 57 = .ok (.putfield 99, 3) := by decide +kernel
theorem dk_1_alias_60 : decode bk_1_alias 60 = .ok (.aload_n 0, 1) := by decide +kernel
theorem dk_1_alias_61 : decode bk_1_alias 61 = .ok (.getfield 99, 3) := by decide +kernel
theorem dk_1_alias_64 : decode bk_1_alias 64 = .ok (.iconst 1, 1) := by decide +kernel
theorem dk_1_alias_65 : decode bk_1_alias 65 = .ok (.isub, 1) := by decide +kernel
theorem dk_1_alias_66 : decode bk_1_alias 66 = .ok (.ireturn, 1) := by decide +kernel
theorem dk_1_baseOf_0 : decode bk_1_baseOf 0 = .ok (.iload_n 1, 1) := by decide +kernel
theorem dk_1_baseOf_1 : decode bk_1_baseOf 1 = .ok (.istore_n 2, 1) := by decide +kernel
theorem dk_1_baseOf_2 : decode bk_1_baseOf 2 = .ok (.iconst 0, 1) := by decide +kernel
theorem dk_1_baseOf_3 : decode bk_1_baseOf 3 = .ok (.istore_n 3, 1) := by decide +kernel
theorem dk_1_baseOf_4 : decode bk_1_baseOf 4 = .ok (.iload_n 3, 1) := by decide +kernel
theorem dk_1_baseOf_5 : decode bk_1_baseOf 5 = .ok (.bipush 16, 2) := by decide +kernel
theorem dk_1_baseOf_7 : decode bk_1_baseOf 7 = .ok (.if_icmp .gt 41, 3) := by decide +kernel
theorem dk_1_baseOf_10 : decode bk_1_baseOf 10 = .ok (.iload_n 2, 1) := by decide +kernel
theorem dk_1_baseOf_11 : decode bk_1_baseOf 11 = .ok (.aload_n 0, 1) := by decide +kernel
theorem dk_1_baseOf_12 : decode bk_1_baseOf 12 = .ok (.getfield 99, 3) := by decide +kernel
theorem dk_1_baseOf_15 : decode bk_1_baseOf 15 = .ok (.invokestatic 102, 3) := by decide +kernel
theorem dk_1_baseOf_18 : decode bk_1_baseOf 18 = .ok (.ifCond .ne 5, 3) := by decide +kernel
theorem dk_1_baseOf_21 : decode bk_1_baseOf 21 = .ok (.iconst (-1), 1) := by decide +kernel
theorem dk_1_baseOf_22 : decode bk_1_baseOf 22 = .ok (.ireturn, 1) := by decide +kernel
theorem dk_1_baseOf_23 : decode bk_1_baseOf 23 = .ok (.aload_n 0, 1) := by decide +kernel
theorem dk_1_baseOf_24 : decode bk_1_baseOf 24 = .ok (.getfield 7, 3) := by decide +kernel
theorem dk_1_baseOf_27 : decode bk_1_baseOf 27 = .ok (.iload_n 2, 1) := by decide +kernel
theorem dk_1_baseOf_28 : decode bk_1_baseOf 28 = .ok (.iaload, 1) := by decide +kernel
theorem dk_1_baseOf_29 : decode bk_1_baseOf 29 = .ok (.iconst (-1), 1) := by decide +kernel
theorem dk_1_baseOf_30 : decode bk_1_baseOf 30 = .ok (.if_icmp .ne 5, 3) := by decide +kernel
theorem dk_1_baseOf_33 : decode bk_1_baseOf 33 = .ok (.iload_n 2, 1) := by decide +kernel
theorem dk_1_baseOf_34 : decode bk_1_baseOf 34 = .ok (.ireturn, 1) := by decide +kernel
theorem dk_1_baseOf_35 : decode bk_1_baseOf 35 = .ok (.aload_n 0, 1) := by decide +kernel
theorem dk_1_baseOf_36 : decode bk_1_baseOf 36 = .ok (.getfield 7, 3) := by decide +kernel
theorem dk_1_baseOf_39 : decode bk_1_baseOf 39 = .ok (.iload_n 2, 1) := by decide +kernel
theorem dk_1_baseOf_40 : decode bk_1_baseOf 40 = .ok (.iaload, 1) := by decide +kernel
theorem dk_1_baseOf_41 : decode bk_1_baseOf 41 = .ok (.istore_n 2, 1) := by decide +kernel
theorem dk_1_baseOf_42 : decode bk_1_baseOf 42 = .ok (.iinc 3 1, 3) := by decide +kernel
theorem dk_1_baseOf_45 : decode bk_1_baseOf 45 = .ok (.goto (-41), 3) := by decide +kernel
theorem dk_1_baseOf_48 : decode bk_1_baseOf 48 = .ok (.iconst (-1), 1) := by decide +kernel
theorem dk_1_baseOf_49 : decode bk_1_baseOf 49 = .ok (.ireturn, 1) := by decide +kernel
theorem dk_1_base_0 : decode bk_1_base 0 = .ok (.aload_n 0, 1) := by decide +kernel
theorem dk_1_base_1 : decode bk_1_base 1 = .ok (.iload_n 1, 1) := by decide +kernel
theorem dk_1_base_2 : decode bk_1_base 2 = .ok (.invokevirtual 106, 3) := by decide +kernel
theorem dk_1_base_5 : decode bk_1_base 5 = .ok (.ireturn, 1) := by decide +kernel
theorem dk_1_platform_0 : decode bk_1_platform 0 = .ok (.aload_n 0, 1) := by decide +kernel
theorem dk_1_platform_1 : decode bk_1_platform 1 = .ok (.getfield 110, 3) := by decide +kernel
theorem dk_1_platform_4 : decode bk_1_platform 4 = .ok (.bipush 8, 2) := by decide +kernel
theorem dk_1_platform_6 : decode bk_1_platform 6 = .ok (.if_icmp .ne 5, 3) := by decide +kernel
theorem dk_1_platform_9 : decode bk_1_platform 9 = .ok (.iconst (-1), 1) := by decide +kernel
theorem dk_1_platform_10 : decode bk_1_platform 10 = .ok (.ireturn, 1) := by decide +kernel
theorem dk_1_platform_11 : decode bk_1_platform 11 = .ok (.iconst 0, 1) := by decide +kernel
theorem dk_1_platform_12 : decode bk_1_platform 12 = .ok (.istore_n 1, 1) := by decide +kernel
theorem dk_1_platform_13 : decode bk_1_platform 13 = .ok (.iload_n 1, 1) := by decide +kernel
theorem dk_1_platform_14 : decode bk_1_platform 14 = .ok (.bipush 8, 2) := by decide +kernel
theorem dk_1_platform_16 : decode bk_1_platform 16 = .ok (.if_icmp .ge 24, 3) := by decide +kernel
theorem dk_1_platform_19 : decode bk_1_platform 19 = .ok (.aload_n 0, 1) := by decide +kernel
theorem dk_1_platform_20 : decode bk_1_platform 20 = .ok (.getfield 19, 3) := by decide +kernel
theorem dk_1_platform_23 : decode bk_1_platform 23 = .ok (.bipush 8, 2) := by decide +kernel
theorem dk_1_platform_25 : decode bk_1_platform 25 = .ok (.aload_n 0, 1) := by decide +kernel
theorem dk_1_platform_26 : decode bk_1_platform 26 = .ok (.getfield 110, 3) := by decide +kernel
theorem dk_1_platform_29 : decode bk_1_platform 29 = .ok (.imul, 1) := by decide +kernel
theorem dk_1_platform_30 : decode bk_1_platform 30 = .ok (.iload_n 1, 1) := by decide +kernel
theorem dk_1_platform_31 : decode bk_1_platform 31 = .ok (.iadd, 1) := by decide +kernel
theorem dk_1_platform_32 : decode bk_1_platform 32 = .ok (.iconst (-1), 1) := by decide +kernel
theorem dk_1_platform_33 : decode bk_1_platform 33 = .ok (.iastore, 1) := by decide +kernel
theorem dk_1_platform_34 : decode bk_1_platform 34 = .ok (.iinc 1 1, 3) := by decide +kernel
theorem dk_1_platform_37 : decode bk_1_platform 37 = .ok (.goto (-24), 3) := by decide +kernel
theorem dk_1_platform_40 : decode bk_1_platform 40 = .ok (.aload_n 0, 1) := by decide +kernel
theorem dk_1_platform_41 : decode bk_1_platform 41 = .ok (.dup, 1) := by decide +kernel
theorem dk_1_platform_42 : decode bk_1_platform 42 = .ok (.getfield 110, 3) := by decide +kernel
theorem dk_1_platform_45 : decode bk_1_platform 45 = .ok (.iconst 1, 1) := by decide +kernel
theorem dk_1_platform_46 : decode bk_1_platform 46 = .ok (.iadd, 1) := by decide +kernel
theorem dk_1_platform_47 : decode bk_1_platform 47 = .ok (.putfield 110, 3) := by decide +kernel
theorem dk_1_platform_50 : decode bk_1_platform 50 = .ok (.aload_n 0, 1) := by decide +kernel
theorem dk_1_platform_51 : decode bk_1_platform 51 = .ok (.getfield 110, 3) := by decide +kernel
theorem dk_1_platform_54 : decode bk_1_platform 54 = .ok (.iconst 1, 1) := by decide +kernel
theorem dk_1_platform_55 : decode bk_1_platform 55 = .ok (.isub, 1) := by decide +kernel
theorem dk_1_platform_56 : decode bk_1_platform 56 = .ok (.ireturn, 1) := by decide +kernel
theorem dk_1_has_0 : decode bk_1_has 0 = .ok (.iload_n 1, 1) := by decide +kernel
theorem dk_1_has_1 : decode bk_1_has 1 = .ok (.aload_n 0, 1) := by decide +kernel
theorem dk_1_has_2 : decode bk_1_has 2 = .ok (.getfield 110, 3) := by decide +kernel
theorem dk_1_has_5 : decode bk_1_has 5 = .ok (.invokestatic 102, 3) := by decide +kernel
theorem dk_1_has_8 : decode bk_1_has 8 = .ok (.ifCond .eq 27, 3) := by decide +kernel
theorem dk_1_has_11 : decode bk_1_has 11 = .ok (.iload_n 2, 1) := by decide +kernel
theorem dk_1_has_12 : decode bk_1_has 12 = .ok (.bipush 8, 2) := by decide +kernel
theorem dk_1_has_14 : decode bk_1_has 14 = .ok (.invokestatic 102, 3) := by decide +kernel
theorem dk_1_has_17 : decode bk_1_has 17 = .ok (.ifCond .eq 18, 3) := by decide +kernel
theorem dk_1_has_20 : decode bk_1_has 20 = .ok (.iload_n 3, 1) := by decide +kernel
theorem dk_1_has_21 : decode bk_1_has 21 = .ok (.iconst (-1), 1) := by decide +kernel
theorem dk_1_has_22 : decode bk_1_has 22 = .ok (.if_icmp .lt 13, 3) := by decide +kernel
theorem dk_1_has_25 : decode bk_1_has 25 = .ok (.iload_n 3, 1) := by decide +kernel
theorem dk_1_has_26 : decode bk_1_has 26 = .ok (.bipush 8, 2) := by decide +kernel
theorem dk_1_has_28 : decode bk_1_has 28 = .ok (.if_icmp .ge 7, 3) := by decide +kernel
theorem dk_1_has_31 : decode bk_1_has 31 = .ok (.iconst 1, 1) := by decide +kernel
theorem dk_1_has_32 : decode bk_1_has 32 = .ok (.goto 4, 3) := by decide +kernel
theorem dk_1_has_35 : decode bk_1_has 35 = .ok (.iconst 0, 1) := by decide +kernel
theorem dk_1_has_36 : decode bk_1_has 36 = .ok (.istore 4, 2) := by decide +kernel
theorem dk_1_has_38 : decode bk_1_has 38 = .ok (.iconst 0, 1) := by decide +kernel
theorem dk_1_has_39 : decode bk_1_has 39 = .ok (.istore 5, 2) := by decide +kernel
theorem dk_1_has_41 : decode bk_1_has 41 = .ok (.iload 5, 2) := by decide +kernel
theorem dk_1_has_43 : decode bk_1_has 43 = .ok (.aload_n 0, 1) := by decide +kernel
theorem dk_1_has_44 : decode bk_1_has 44 = .ok (.getfield 113, 3) := by decide +kernel
theorem dk_1_has_47 : decode bk_1_has 47 = .ok (.if_icmp .ge 32, 3) := by decide +kernel
theorem dk_1_has_50 : decode bk_1_has 50 = .ok (.iload 4, 2) := by decide +kernel
theorem dk_1_has_52 : decode bk_1_has 52 = .ok (.ifCond .eq 27, 3) := by decide +kernel
theorem dk_1_has_55 : decode bk_1_has 55 = .ok (.aload_n 0, 1) := by decide +kernel
theorem dk_1_has_56 : decode bk_1_has 56 = .ok (.getfield 22, 3) := by decide +kernel
theorem dk_1_has_59 : decode bk_1_has 59 = .ok (.iload 5, 2) := by decide +kernel
theorem dk_1_has_61 : decode bk_1_has 61 = .ok (.iaload, 1) := by decide +kernel
theorem dk_1_has_62 : decode bk_1_has 62 = .ok (.iload_n 1, 1) := by decide +kernel
theorem dk_1_has_63 : decode bk_1_has 63 = .ok (.if_icmp .eq 7, 3) := by decide +kernel
theorem dk_1_has_66 : decode bk_1_has 66 = .ok (.iconst 1, 1) := by decide +kernel
theorem dk_1_has_67 : decode bk_1_has 67 = .ok (.goto 4, 3) := by decide +kernel
theorem dk_1_has_70 : decode bk_1_has 70 = .ok (.iconst 0, 1) := by decide +kernel
theorem dk_1_has_71 : decode bk_1_has 71 = .ok (.istore 4, 2) := by decide +kernel
theorem dk_1_has_73 : decode bk_1_has 73 = .ok (.iinc 5 1, 3) := by decide +kernel
theorem dk_1_has_76 : decode bk_1_has 76 = .ok (.goto (-35), 3) := by decide +kernel
theorem dk_1_has_79 : decode bk_1_has 79 = .ok (.iload 4, 2) := by decide +kernel
theorem dk_1_has_81 : decode bk_1_has 81 = .ok (.ifCond .eq 15, 3) := by decide +kernel
theorem dk_1_has_84 : decode bk_1_has 84 = .ok (.aload_n 0, 1) := by decide +kernel
theorem dk_1_has_85 : decode bk_1_has 85 = .ok (.getfield 19, 3) := by decide +kernel
theorem dk_1_has_88 : decode bk_1_has 88 = .ok (.bipush 8, 2) := by decide +kernel
theorem dk_1_has_90 : decode bk_1_has 90 = .ok (.iload_n 1, 1) := by decide +kernel
theorem dk_1_has_91 : decode bk_1_has 91 = .ok (.imul, 1) := by decide +kernel
theorem dk_1_has_92 : decode bk_1_has 92 = .ok (.iload_n 2, 1) := by decide +kernel
theorem dk_1_has_93 : decode bk_1_has 93 = .ok (.iadd, 1) := by decide +kernel
theorem dk_1_has_94 : decode bk_1_has 94 = .ok (.iload_n 3, 1) := by decide +kernel
theorem dk_1_has_95 : decode bk_1_has 95 = .ok (.iastore, 1) := by decide +kernel
theorem dk_1_has_96 : decode bk_1_has 96 = .ok (.iload 4, 2) := by decide +kernel
theorem dk_1_has_98 : decode bk_1_has 98 = .ok (.ireturn, 1) := by decide +kernel
theorem dk_1_condition_0 : decode bk_1_condition 0 = .ok (.aload_n 0, 1) := by decide +kernel
theorem dk_1_condition_1 : decode bk_1_condition 1 = .ok (.getfield 116, 3) := by decide +kernel
theorem dk_1_condition_4 : decode bk_1_condition 4 = .ok (.bipush 40, 2) := by decide +kernel
theorem dk_1_condition_6 : decode bk_1_condition 6 = .ok (.if_icmp .ne 5, 3) := by decide +kernel
theorem dk_1_condition_9 : decode bk_1_condition 9 = .ok (.iconst (-1), 1) := by decide +kernel
theorem dk_1_condition_10 : decode bk_1_condition 10 = .ok (.ireturn, 1) := by decide +kernel
theorem dk_1_condition_11 : decode bk_1_condition 11 = .ok (.aload_n 0, 1) := by decide +kernel
theorem dk_1_condition_12 : decode bk_1_condition 12 = .ok (.dup, 1) := by decide +kernel
theorem dk_1_condition_13 : decode bk_1_condition 13 = .ok (.getfield 116, 3) := by decide +kernel
theorem dk_1_condition_16 : decode bk_1_condition 16 = .ok (.iconst 1, 1) := by decide +kernel
theorem dk_1_condition_17 : decode bk_1_condition 17 = .ok (.iadd, 1) := by decide +kernel
theorem dk_1_condition_18 : decode bk_1_condition 18 = .ok (.putfield 116, 3) := by decide +kernel
theorem dk_1_condition_21 : decode bk_1_condition 21 = .ok (.aload_n 0, 1) := by decide +kernel
theorem dk_1_condition_22 : decode bk_1_condition 22 = .ok (.getfield 116, 3) := by decide +kernel
theorem dk_1_condition_25 : decode bk_1_condition 25 = .ok (.iconst 1, 1) := by decide +kernel
theorem dk_1_condition_26 : decode bk_1_condition 26 = .ok (.isub, 1) := by decide +kernel
theorem dk_1_condition_27 : decode bk_1_condition 27 = .ok (.ireturn, 1) := by decide +kernel
theorem dk_1_isUsed_0 : decode bk_1_isUsed 0 = .ok (.aload_n 0, 1) := by decide +kernel
theorem dk_1_isUsed_1 : decode bk_1_isUsed 1 = .ok (.getfield 65, 3) := by decide +kernel
theorem dk_1_isUsed_4 : decode bk_1_isUsed 4 = .ok (.iload_n 1, 1) := by decide +kernel
theorem dk_1_isUsed_5 : decode bk_1_isUsed 5 = .ok (.baload, 1) := by decide +kernel
theorem dk_1_isUsed_6 : decode bk_1_isUsed 6 = .ok (.istore_n 2, 1) := by decide +kernel
theorem dk_1_isUsed_7 : decode bk_1_isUsed 7 = .ok (.iconst 0, 1) := by decide +kernel
theorem dk_1_isUsed_8 : decode bk_1_isUsed 8 = .ok (.istore_n 3, 1) := by decide +kernel
theorem dk_1_isUsed_9 : decode bk_1_isUsed 9 = .ok (.iload_n 3, 1) := by decide +kernel
theorem dk_1_isUsed_10 : decode bk_1_isUsed 10 = .ok (.aload_n 0, 1) := by decide +kernel
theorem dk_1_isUsed_11 : decode bk_1_isUsed 11 = .ok (.getfield 119, 3) := by decide +kernel
theorem dk_1_isUsed_14 : decode bk_1_isUsed 14 = .ok (.if_icmp .ge 58, 3) := by decide +kernel
theorem dk_1_isUsed_17 : decode bk_1_isUsed 17 = .ok (.bipush 8, 2) := by decide +kernel
theorem dk_1_isUsed_19 : decode bk_1_isUsed 19 = .ok (.iload_n 3, 1) := by decide +kernel
theorem dk_1_isUsed_20 : decode bk_1_isUsed 20 = .ok (.imul, 1) := by decide +kernel
theorem dk_1_isUsed_21 : decode bk_1_isUsed 21 = .ok (.istore 4, 2) := by decide +kernel
theorem dk_1_isUsed_23 : decode bk_1_isUsed 23 = .ok (.iload 4, 2) := by decide +kernel
theorem dk_1_isUsed_25 : decode bk_1_isUsed 25 = .ok (.bipush 8, 2) := by decide +kernel
theorem dk_1_isUsed_27 : decode bk_1_isUsed 27 = .ok (.iload_n 3, 1) := by decide +kernel
theorem dk_1_isUsed_28 : decode bk_1_isUsed 28 = .ok (.imul, 1) := by decide +kernel
theorem dk_1_isUsed_29 : decode bk_1_isUsed 29 = .ok (.aload_n 0, 1) := by decide +kernel
theorem dk_1_isUsed_30 : decode bk_1_isUsed 30 = .ok (.getfield 44, 3) := by decide +kernel
theorem dk_1_isUsed_33 : decode bk_1_isUsed 33 = .ok (.iload_n 3, 1) := by decide +kernel
theorem dk_1_isUsed_34 : decode bk_1_isUsed 34 = .ok (.iaload, 1) := by decide +kernel
theorem dk_1_isUsed_35 : decode bk_1_isUsed 35 = .ok (.iadd, 1) := by decide +kernel
theorem dk_1_isUsed_36 : decode bk_1_isUsed 36 = .ok (.if_icmp .ge 30, 3) := by decide +kernel
theorem dk_1_isUsed_39 : decode bk_1_isUsed 39 = .ok (.iload_n 2, 1) := by decide +kernel
theorem dk_1_isUsed_40 : decode bk_1_isUsed 40 = .ok (.ifCond .ne 14, 3) := by decide +kernel
theorem dk_1_isUsed_43 : decode bk_1_isUsed 43 = .ok (.aload_n 0, 1) := by decide +kernel
theorem dk_1_isUsed_44 : decode bk_1_isUsed 44 = .ok (.getfield 47, 3) := by decide +kernel
theorem dk_1_isUsed_47 : decode bk_1_isUsed 47 = .ok (.iload 4, 2) := by decide +kernel
theorem dk_1_isUsed_49 : decode bk_1_isUsed 49 = .ok (.iaload, 1) := by decide +kernel
theorem dk_1_isUsed_50 : decode bk_1_isUsed 50 = .ok (.iload_n 1, 1) := by decide +kernel
theorem dk_1_isUsed_51 : decode bk_1_isUsed 51 = .ok (.if_icmp .ne 7, 3) := by decide +kernel
theorem dk_1_isUsed_54 : decode bk_1_isUsed 54 = .ok (.iconst 1, 1) := by decide +kernel
theorem dk_1_isUsed_55 : decode bk_1_isUsed 55 = .ok (.goto 4, 3) := by decide +kernel
theorem dk_1_isUsed_58 : decode bk_1_isUsed 58 = .ok (.iconst 0, 1) := by decide +kernel
theorem dk_1_isUsed_59 : decode bk_1_isUsed 59 = .ok (.istore_n 2, 1) := by decide +kernel
theorem dk_1_isUsed_60 : decode bk_1_isUsed 60 = .ok (.iinc 4 1, 3) := by decide +kernel
theorem dk_1_isUsed_63 : decode bk_1_isUsed 63 = .ok (.goto (-40), 3) := by decide +kernel
theorem dk_1_isUsed_66 : decode bk_1_isUsed 66 = .ok (.iinc 3 1, 3) := by decide +kernel
theorem dk_1_isUsed_69 : decode bk_1_isUsed 69 = .ok (.goto (-60), 3) := by decide +kernel
theorem dk_1_isUsed_72 : decode bk_1_isUsed 72 = .ok (.iload_n 2, 1) := by decide +kernel
theorem dk_1_isUsed_73 : decode bk_1_isUsed 73 = .ok (.ireturn, 1) := by decide +kernel
