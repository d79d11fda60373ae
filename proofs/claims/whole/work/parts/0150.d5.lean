theorem d_LW_law_0 : decode code 0 = .ok (.new 8, 3) := by decide +kernel
theorem d_LW_law_3 : decode code 3 = .ok (.dup, 1) := by decide +kernel
theorem d_LW_law_4 : decode code 4 = .ok (.aload_n 0, 1) := by decide +kernel
theorem d_LW_law_5 : decode code 5 = .ok (.iconst 0, 1) := by decide +kernel
theorem d_LW_law_6 : decode code 6 = .ok (.invokestatic 48, 3) := by decide +kernel
theorem d_LW_law_9 : decode code 9 = .ok (.aload_n 0, 1) := by decide +kernel
theorem d_LW_law_10 : decode code 10 = .ok (.iconst 1, 1) := by decide +kernel
theorem d_LW_law_11 : decode code 11 = .ok (.invokestatic 48, 3) := by decide +kernel
theorem d_LW_law_14 : decode code 14 = .ok (.aload_n 0, 1) := by decide +kernel
theorem d_LW_law_15 : decode code 15 = .ok (.iconst 2, 1) := by decide +kernel
theorem d_LW_law_16 : decode code 16 = .ok (.invokestatic 48, 3) := by decide +kernel
theorem d_LW_law_19 : decode code 19 = .ok (.invokespecial 54, 3) := by decide +kernel
theorem d_LW_law_22 : decode code 22 = .ok (.astore_n 1, 1) := by decide +kernel
theorem d_LW_law_23 : decode code 23 = .ok (.new 57, 3) := by decide +kernel
theorem d_LW_law_26 : decode code 26 = .ok (.dup, 1) := by decide +kernel
theorem d_LW_law_27 : decode code 27 = .ok (.aload_n 0, 1) := by decide +kernel
theorem d_LW_law_28 : decode code 28 = .ok (.iconst 0, 1) := by decide +kernel
theorem d_LW_law_29 : decode code 29 = .ok (.invokestatic 48, 3) := by decide +kernel
theorem d_LW_law_32 : decode code 32 = .ok (.aload_n 0, 1) := by decide +kernel
theorem d_LW_law_33 : decode code 33 = .ok (.iconst 1, 1) := by decide +kernel
theorem d_LW_law_34 : decode code 34 = .ok (.invokestatic 48, 3) := by decide +kernel
theorem d_LW_law_37 : decode code 37 = .ok (.aload_n 0, 1) := by decide +kernel
theorem d_LW_law_38 : decode code 38 = .ok (.iconst 2, 1) := by decide +kernel
theorem d_LW_law_39 : decode code 39 = .ok (.invokestatic 48, 3) := by decide +kernel
theorem d_LW_law_42 : decode code 42 = .ok (.invokespecial 59, 3) := by decide +kernel
theorem d_LW_law_45 : decode code 45 = .ok (.astore_n 2, 1) := by decide +kernel
theorem d_LW_law_46 : decode code 46 = .ok (.iconst 1, 1) := by decide +kernel
theorem d_LW_law_47 : decode code 47 = .ok (.newarray .long, 2) := by decide +kernel
theorem d_LW_law_49 : decode code 49 = .ok (.astore_n 3, 1) := by decide +kernel
theorem d_LW_law_50 : decode code 50 = .ok (.iconst 3, 1) := by decide +kernel
theorem d_LW_law_51 : decode code 51 = .ok (.istore 4, 2) := by decide +kernel
theorem d_LW_law_53 : decode code 53 = .ok (.iload 4, 2) := by decide +kernel
theorem d_LW_law_55 : decode code 55 = .ok (.aload_n 0, 1) := by decide +kernel
theorem d_LW_law_56 : decode code 56 = .ok (.arraylength, 1) := by decide +kernel
theorem d_LW_law_57 : decode code 57 = .ok (.iconst 5, 1) := by decide +kernel
theorem d_LW_law_58 : decode code 58 = .ok (.isub, 1) := by decide +kernel
theorem d_LW_law_59 : decode code 59 = .ok (.if_icmp .gt 800, 3) := by decide +kernel
theorem d_LW_law_62 : decode code 62 = .ok (.aload_n 0, 1) := by decide +kernel
theorem d_LW_law_63 : decode code 63 = .ok (.iload 4, 2) := by decide +kernel
theorem d_LW_law_65 : decode code 65 = .ok (.iaload, 1) := by decide +kernel
theorem d_LW_law_66 : decode code 66 = .ok (.bipush 15, 2) := by decide +kernel
theorem d_LW_law_68 : decode code 68 = .ok (.iand, 1) := by decide +kernel
theorem d_LW_law_69 : decode code 69 = .ok (.tableswitch 784 0 10 #[59, 151, 259, 327, 419, 432, 500, 580, 660, 716, 771], 59) := by decide +kernel
theorem d_LW_law_128 : decode code 128 = .ok (.aload_n 1, 1) := by decide +kernel
theorem d_LW_law_129 : decode code 129 = .ok (.aload_n 0, 1) := by decide +kernel
theorem d_LW_law_130 : decode code 130 = .ok (.iload 4, 2) := by decide +kernel
theorem d_LW_law_132 : decode code 132 = .ok (.iconst 1, 1) := by decide +kernel
theorem d_LW_law_133 : decode code 133 = .ok (.iadd, 1) := by decide +kernel
theorem d_LW_law_134 : decode code 134 = .ok (.iaload, 1) := by decide +kernel
theorem d_LW_law_135 : decode code 135 = .ok (.aload_n 0, 1) := by decide +kernel
theorem d_LW_law_136 : decode code 136 = .ok (.iload 4, 2) := by decide +kernel
theorem d_LW_law_138 : decode code 138 = .ok (.iconst 2, 1) := by decide +kernel
theorem d_LW_law_139 : decode code 139 = .ok (.iadd, 1) := by decide +kernel
theorem d_LW_law_140 : decode code 140 = .ok (.iaload, 1) := by decide +kernel
theorem d_LW_law_141 : decode code 141 = .ok (.aload_n 0, 1) := by decide +kernel
theorem d_LW_law_142 : decode code 142 = .ok (.iload 4, 2) := by decide +kernel
theorem d_LW_law_144 : decode code 144 = .ok (.iconst 3, 1) := by decide +kernel
theorem d_LW_law_145 : decode code 145 = .ok (.iadd, 1) := by decide +kernel
theorem d_LW_law_146 : decode code 146 = .ok (.iaload, 1) := by decide +kernel
theorem d_LW_law_147 : decode code 147 = .ok (.aload_n 0, 1) := by decide +kernel
theorem d_LW_law_148 : decode code 148 = .ok (.iload 4, 2) := by decide +kernel
theorem d_LW_law_150 : decode code 150 = .ok (.iconst 4, 1) := by decide +kernel
theorem d_LW_law_151 : decode code 151 = .ok (.iadd, 1) := by decide +kernel
theorem d_LW_law_152 : decode code 152 = .ok (.iaload, 1) := by decide +kernel
theorem d_LW_law_153 : decode code 153 = .ok (.aload_n 3, 1) := by decide +kernel
theorem d_LW_law_154 : decode code 154 = .ok (.invokestatic 60, 3) := by decide +kernel
theorem d_LW_law_157 : decode code 157 = .ok (.istore 5, 2) := by decide +kernel
theorem d_LW_law_159 : decode code 159 = .ok (.aload_n 2, 1) := by decide +kernel
theorem d_LW_law_160 : decode code 160 = .ok (.aload_n 0, 1) := by decide +kernel
theorem d_LW_law_161 : decode code 161 = .ok (.iload 4, 2) := by decide +kernel
theorem d_LW_law_163 : decode code 163 = .ok (.iconst 1, 1) := by decide +kernel
theorem d_LW_law_164 : decode code 164 = .ok (.iadd, 1) := by decide +kernel
theorem d_LW_law_165 : decode code 165 = .ok (.iaload, 1) := by decide +kernel
theorem d_LW_law_166 : decode code 166 = .ok (.aload_n 0, 1) := by decide +kernel
theorem d_LW_law_167 : decode code 167 = .ok (.iload 4, 2) := by decide +kernel
theorem d_LW_law_169 : decode code 169 = .ok (.iconst 2, 1) := by decide +kernel
theorem d_LW_law_170 : decode code 170 = .ok (.iadd, 1) := by decide +kernel
theorem d_LW_law_171 : decode code 171 = .ok (.iaload, 1) := by decide +kernel
theorem d_LW_law_172 : decode code 172 = .ok (.aload_n 0, 1) := by decide +kernel
theorem d_LW_law_173 : decode code 173 = .ok (.iload 4, 2) := by decide +kernel
theorem d_LW_law_175 : decode code 175 = .ok (.iconst 3, 1) := by decide +kernel
theorem d_LW_law_176 : decode code 176 = .ok (.iadd, 1) := by decide +kernel
theorem d_LW_law_177 : decode code 177 = .ok (.iaload, 1) := by decide +kernel
theorem d_LW_law_178 : decode code 178 = .ok (.aload_n 0, 1) := by decide +kernel
theorem d_LW_law_179 : decode code 179 = .ok (.iload 4, 2) := by decide +kernel
theorem d_LW_law_181 : decode code 181 = .ok (.iconst 4, 1) := by decide +kernel
theorem d_LW_law_182 : decode code 182 = .ok (.iadd, 1) := by decide +kernel
theorem d_LW_law_183 : decode code 183 = .ok (.iaload, 1) := by decide +kernel
theorem d_LW_law_184 : decode code 184 = .ok (.invokevirtual 63, 3) := by decide +kernel
theorem d_LW_law_187 : decode code 187 = .ok (.istore 6, 2) := by decide +kernel
theorem d_LW_law_189 : decode code 189 = .ok (.aload_n 2, 1) := by decide +kernel
theorem d_LW_law_190 : decode code 190 = .ok (.invokevirtual 64, 3) := by decide +kernel
theorem d_LW_law_193 : decode code 193 = .ok (.iload 5, 2) := by decide +kernel
theorem d_LW_law_195 : decode code 195 = .ok (.if_icmp .eq 5, 3) := by decide +kernel
theorem d_LW_law_198 : decode code 198 = .ok (.iconst 0, 1) := by decide +kernel
theorem d_LW_law_199 : decode code 199 = .ok (.ireturn, 1) := by decide +kernel
theorem d_LW_law_200 : decode code 200 = .ok (.iload 5, 2) := by decide +kernel
theorem d_LW_law_202 : decode code 202 = .ok (.ifCond .ne 15, 3) := by decide +kernel
theorem d_LW_law_205 : decode code 205 = .ok (.aload_n 3, 1) := by decide +kernel
theorem d_LW_law_206 : decode code 206 = .ok (.iconst 0, 1) := by decide +kernel
theorem d_LW_law_207 : decode code 207 = .ok (.laload, 1) := by decide +kernel
theorem d_LW_law_208 : decode code 208 = .ok (.iload 6, 2) := by decide +kernel
theorem d_LW_law_210 : decode code 210 = .ok (.i2l, 1) := by decide +kernel
theorem d_LW_law_211 : decode code 211 = .ok (.lcmp, 1) := by decide +kernel
theorem d_LW_law_212 : decode code 212 = .ok (.ifCond .eq 5, 3) := by decide +kernel
theorem d_LW_law_215 : decode code 215 = .ok (.iconst 0, 1) := by decide +kernel
theorem d_LW_law_216 : decode code 216 = .ok (.ireturn, 1) := by decide +kernel
theorem d_LW_law_217 : decode code 217 = .ok (.goto 636, 3) := by decide +kernel
theorem d_LW_law_220 : decode code 220 = .ok (.aload_n 1, 1) := by decide +kernel
theorem d_LW_law_221 : decode code 221 = .ok (.aload_n 0, 1) := by decide +kernel
theorem d_LW_law_222 : decode code 222 = .ok (.iload 4, 2) := by decide +kernel
theorem d_LW_law_224 : decode code 224 = .ok (.iconst 1, 1) := by decide +kernel
theorem d_LW_law_225 : decode code 225 = .ok (.iadd, 1) := by decide +kernel
theorem d_LW_law_226 : decode code 226 = .ok (.iaload, 1) := by decide +kernel
theorem d_LW_law_227 : decode code 227 = .ok (.aload_n 0, 1) := by decide +kernel
theorem d_LW_law_228 : decode code 228 = .ok (.iload 4, 2) := by decide +kernel
theorem d_LW_law_230 : decode code 230 = .ok (.iconst 2, 1) := by decide +kernel
theorem d_LW_law_231 : decode code 231 = .ok (.iadd, 1) := by decide +kernel
theorem d_LW_law_232 : decode code 232 = .ok (.iaload, 1) := by decide +kernel
theorem d_LW_law_233 : decode code 233 = .ok (.aload_n 0, 1) := by decide +kernel
theorem d_LW_law_234 : decode code 234 = .ok (.iload 4, 2) := by decide +kernel
theorem d_LW_law_236 : decode code 236 = .ok (.iconst 3, 1) := by decide +kernel
theorem d_LW_law_237 : decode code 237 = .ok (.iadd, 1) := by decide +kernel
theorem d_LW_law_238 : decode code 238 = .ok (.iaload, 1) := by decide +kernel
theorem d_LW_law_239 : decode code 239 = .ok (.aload_n 0, 1) := by decide +kernel
theorem d_LW_law_240 : decode code 240 = .ok (.iload 4, 2) := by decide +kernel
theorem d_LW_law_242 : decode code 242 = .ok (.iconst 4, 1) := by decide +kernel
theorem d_LW_law_243 : decode code 243 = .ok (.iadd, 1) := by decide +kernel
theorem d_LW_law_244 : decode code 244 = .ok (.iaload, 1) := by decide +kernel
theorem d_LW_law_245 : decode code 245 = .ok (.ifCond .eq 7, 3) := by decide +kernel
theorem d_LW_law_248 : decode code 248 = .ok (.iconst 1, 1) := by decide +kernel
theorem d_LW_law_249 : decode code 249 = .ok (.goto 4, 3) := by decide +kernel
theorem d_LW_law_252 : decode code 252 = .ok (.iconst 0, 1) := by decide +kernel
theorem d_LW_law_253 : decode code 253 = .ok (.aload_n 3, 1) := by decide +kernel
