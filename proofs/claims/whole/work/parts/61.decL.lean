theorem dk_L_law_0 : decode code 0 = .ok (.new 7, 3) := by decide +kernel
theorem dk_L_law_3 : decode code 3 = .ok (.dup, 1) := by decide +kernel
theorem dk_L_law_4 : decode code 4 = .ok (.invokespecial 9, 3) := by decide +kernel
theorem dk_L_law_7 : decode code 7 = .ok (.astore_n 1, 1) := by decide +kernel
theorem dk_L_law_8 : decode code 8 = .ok (.new 10, 3) := by decide +kernel
theorem dk_L_law_11 : decode code 11 = .ok (.dup, 1) := by decide +kernel
theorem dk_L_law_12 : decode code 12 = .ok (.invokespecial 12, 3) := by decide +kernel
theorem dk_L_law_15 : decode code 15 = .ok (.astore_n 2, 1) := by decide +kernel
theorem dk_L_law_16 : decode code 16 = .ok (.iconst 0, 1) := by decide +kernel
theorem dk_L_law_17 : decode code 17 = .ok (.istore_n 3, 1) := by decide +kernel
theorem dk_L_law_18 : decode code 18 = .ok (.iload_n 3, 1) := by decide +kernel
theorem dk_L_law_19 : decode code 19 = .ok (.aload_n 0, 1) := by decide +kernel
theorem dk_L_law_20 : decode code 20 = .ok (.arraylength, 1) := by decide +kernel
theorem dk_L_law_21 : decode code 21 = .ok (.iconst 5, 1) := by decide +kernel
theorem dk_L_law_22 : decode code 22 = .ok (.isub, 1) := by decide +kernel
theorem dk_L_law_23 : decode code 23 = .ok (.if_icmp .gt 901, 3) := by decide +kernel
theorem dk_L_law_26 : decode code 26 = .ok (.aload_n 0, 1) := by decide +kernel
theorem dk_L_law_27 : decode code 27 = .ok (.iload_n 3, 1) := by decide +kernel
theorem dk_L_law_28 : decode code 28 = .ok (.iaload, 1) := by decide +kernel
theorem dk_L_law_29 : decode code 29 = .ok (.bipush 31, 2) := by decide +kernel
theorem dk_L_law_31 : decode code 31 = .ok (.iand, 1) := by decide +kernel
theorem dk_L_law_32 : decode code 32 = .ok (.tableswitch 886 0 23 #[112, 145, 168, 191, 204, 247, 260, 329, 342, 375, 398, 467, 500, 523, 566, 599, 632, 665, 688, 721, 764, 787, 820, 853], 112) := by decide +kernel
theorem dk_L_law_144 : decode code 144 = .ok (.aload_n 1, 1) := by decide +kernel
theorem dk_L_law_145 : decode code 145 = .ok (.aload_n 0, 1) := by decide +kernel
theorem dk_L_law_146 : decode code 146 = .ok (.iload_n 3, 1) := by decide +kernel
theorem dk_L_law_147 : decode code 147 = .ok (.iconst 1, 1) := by decide +kernel
theorem dk_L_law_148 : decode code 148 = .ok (.iadd, 1) := by decide +kernel
theorem dk_L_law_149 : decode code 149 = .ok (.iaload, 1) := by decide +kernel
theorem dk_L_law_150 : decode code 150 = .ok (.aload_n 0, 1) := by decide +kernel
theorem dk_L_law_151 : decode code 151 = .ok (.iload_n 3, 1) := by decide +kernel
theorem dk_L_law_152 : decode code 152 = .ok (.iconst 2, 1) := by decide +kernel
theorem dk_L_law_153 : decode code 153 = .ok (.iadd, 1) := by decide +kernel
theorem dk_L_law_154 : decode code 154 = .ok (.iaload, 1) := by decide +kernel
theorem dk_L_law_155 : decode code 155 = .ok (.invokevirtual 13, 3) := by decide +kernel
theorem dk_L_law_158 : decode code 158 = .ok (.aload_n 2, 1) := by decide +kernel
theorem dk_L_law_159 : decode code 159 = .ok (.aload_n 0, 1) := by decide +kernel
theorem dk_L_law_160 : decode code 160 = .ok (.iload_n 3, 1) := by decide +kernel
theorem dk_L_law_161 : decode code 161 = .ok (.iconst 1, 1) := by decide +kernel
theorem dk_L_law_162 : decode code 162 = .ok (.iadd, 1) := by decide +kernel
theorem dk_L_law_163 : decode code 163 = .ok (.iaload, 1) := by decide +kernel
theorem dk_L_law_164 : decode code 164 = .ok (.aload_n 0, 1) := by decide +kernel
theorem dk_L_law_165 : decode code 165 = .ok (.iload_n 3, 1) := by decide +kernel
theorem dk_L_law_166 : decode code 166 = .ok (.iconst 2, 1) := by decide +kernel
theorem dk_L_law_167 : decode code 167 = .ok (.iadd, 1) := by decide +kernel
theorem dk_L_law_168 : decode code 168 = .ok (.iaload, 1) := by decide +kernel
theorem dk_L_law_169 : decode code 169 = .ok (.invokevirtual 17, 3) := by decide +kernel
theorem dk_L_law_172 : decode code 172 = .ok (.if_icmp .eq 746, 3) := by decide +kernel
theorem dk_L_law_175 : decode code 175 = .ok (.iconst 0, 1) := by decide +kernel
theorem dk_L_law_176 : decode code 176 = .ok (.ireturn, 1) := by decide +kernel
theorem dk_L_law_177 : decode code 177 = .ok (.aload_n 1, 1) := by decide +kernel
theorem dk_L_law_178 : decode code 178 = .ok (.aload_n 0, 1) := by decide +kernel
theorem dk_L_law_179 : decode code 179 = .ok (.iload_n 3, 1) := by decide +kernel
theorem dk_L_law_180 : decode code 180 = .ok (.iconst 1, 1) := by decide +kernel
theorem dk_L_law_181 : decode code 181 = .ok (.iadd, 1) := by decide +kernel
theorem dk_L_law_182 : decode code 182 = .ok (.iaload, 1) := by decide +kernel
theorem dk_L_law_183 : decode code 183 = .ok (.invokevirtual 18, 3) := by decide +kernel
theorem dk_L_law_186 : decode code 186 = .ok (.aload_n 2, 1) := by decide +kernel
theorem dk_L_law_187 : decode code 187 = .ok (.aload_n 0, 1) := by decide +kernel
theorem dk_L_law_188 : decode code 188 = .ok (.iload_n 3, 1) := by decide +kernel
theorem dk_L_law_189 : decode code 189 = .ok (.iconst 1, 1) := by decide +kernel
theorem dk_L_law_190 : decode code 190 = .ok (.iadd, 1) := by decide +kernel
theorem dk_L_law_191 : decode code 191 = .ok (.iaload, 1) := by decide +kernel
theorem dk_L_law_192 : decode code 192 = .ok (.invokevirtual 22, 3) := by decide +kernel
theorem dk_L_law_195 : decode code 195 = .ok (.if_icmp .eq 723, 3) := by decide +kernel
theorem dk_L_law_198 : decode code 198 = .ok (.iconst 0, 1) := by decide +kernel
theorem dk_L_law_199 : decode code 199 = .ok (.ireturn, 1) := by decide +kernel
theorem dk_L_law_200 : decode code 200 = .ok (.aload_n 1, 1) := by decide +kernel
theorem dk_L_law_201 : decode code 201 = .ok (.aload_n 0, 1) := by decide +kernel
theorem dk_L_law_202 : decode code 202 = .ok (.iload_n 3, 1) := by decide +kernel
theorem dk_L_law_203 : decode code 203 = .ok (.iconst 1, 1) := by decide +kernel
theorem dk_L_law_204 : decode code 204 = .ok (.iadd, 1) := by decide +kernel
theorem dk_L_law_205 : decode code 205 = .ok (.iaload, 1) := by decide +kernel
theorem dk_L_law_206 : decode code 206 = .ok (.invokevirtual 23, 3) := by decide +kernel
theorem dk_L_law_209 : decode code 209 = .ok (.aload_n 2, 1) := by decide +kernel
theorem dk_L_law_210 : decode code 210 = .ok (.aload_n 0, 1) := by decide +kernel
theorem dk_L_law_211 : decode code 211 = .ok (.iload_n 3, 1) := by decide +kernel
theorem dk_L_law_212 : decode code 212 = .ok (.iconst 1, 1) := by decide +kernel
theorem dk_L_law_213 : decode code 213 = .ok (.iadd, 1) := by decide +kernel
theorem dk_L_law_214 : decode code 214 = .ok (.iaload, 1) := by decide +kernel
theorem dk_L_law_215 : decode code 215 = .ok (.invokevirtual 26, 3) := by decide +kernel
