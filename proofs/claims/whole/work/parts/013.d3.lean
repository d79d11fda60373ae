theorem d_MO_init_0 : decode b_MO_init 0 = .ok (.aload_n 0, 1) := by decide +kernel
theorem d_MO_init_1 : decode b_MO_init 1 = .ok (.invokespecial 1, 3) := by decide +kernel
theorem d_MO_init_4 : decode b_MO_init 4 = .ok (.aload_n 0, 1) := by decide +kernel
theorem d_MO_init_5 : decode b_MO_init 5 = .ok (.iconst 4, 1) := by decide +kernel
theorem d_MO_init_6 : decode b_MO_init 6 = .ok (.newarray .int, 2) := by decide +kernel
theorem d_MO_init_8 : decode b_MO_init 8 = .ok (.putfield 7, 3) := by decide +kernel
theorem d_MO_init_11 : decode b_MO_init 11 = .ok (.aload_n 0, 1) := by decide +kernel
theorem d_MO_init_12 : decode b_MO_init 12 = .ok (.iconst 4, 1) := by decide +kernel
theorem d_MO_init_13 : decode b_MO_init 13 = .ok (.newarray .int, 2) := by decide +kernel
theorem d_MO_init_15 : decode b_MO_init 15 = .ok (.putfield 13, 3) := by decide +kernel
theorem d_MO_init_18 : decode b_MO_init 18 = .ok (.aload_n 0, 1) := by decide +kernel
theorem d_MO_init_19 : decode b_MO_init 19 = .ok (.iconst 4, 1) := by decide +kernel
theorem d_MO_init_20 : decode b_MO_init 20 = .ok (.newarray .int, 2) := by decide +kernel
theorem d_MO_init_22 : decode b_MO_init 22 = .ok (.putfield 16, 3) := by decide +kernel
theorem d_MO_init_25 : decode b_MO_init 25 = .ok (.aload_n 0, 1) := by decide +kernel
theorem d_MO_init_26 : decode b_MO_init 26 = .ok (.iconst 4, 1) := by decide +kernel
theorem d_MO_init_27 : decode b_MO_init 27 = .ok (.newarray .int, 2) := by decide +kernel
theorem d_MO_init_29 : decode b_MO_init 29 = .ok (.putfield 19, 3) := by decide +kernel
theorem d_MO_init_32 : decode b_MO_init 32 = .ok (.aload_n 0, 1) := by decide +kernel
theorem d_MO_init_33 : decode b_MO_init 33 = .ok (.bipush 8, 2) := by decide +kernel
theorem d_MO_init_35 : decode b_MO_init 35 = .ok (.newarray .int, 2) := by decide +kernel
theorem d_MO_init_37 : decode b_MO_init 37 = .ok (.putfield 22, 3) := by decide +kernel
theorem d_MO_init_40 : decode b_MO_init 40 = .ok (.aload_n 0, 1) := by decide +kernel
theorem d_MO_init_41 : decode b_MO_init 41 = .ok (.bipush 8, 2) := by decide +kernel
theorem d_MO_init_43 : decode b_MO_init 43 = .ok (.newarray .int, 2) := by decide +kernel
theorem d_MO_init_45 : decode b_MO_init 45 = .ok (.putfield 25, 3) := by decide +kernel
theorem d_MO_init_48 : decode b_MO_init 48 = .ok (.aload_n 0, 1) := by decide +kernel
theorem d_MO_init_49 : decode b_MO_init 49 = .ok (.bipush 8, 2) := by decide +kernel
theorem d_MO_init_51 : decode b_MO_init 51 = .ok (.newarray .int, 2) := by decide +kernel
theorem d_MO_init_53 : decode b_MO_init 53 = .ok (.putfield 28, 3) := by decide +kernel
theorem d_MO_init_56 : decode b_MO_init 56 = .ok (.aload_n 0, 1) := by decide +kernel
theorem d_MO_init_57 : decode b_MO_init 57 = .ok (.bipush 8, 2) := by decide +kernel
theorem d_MO_init_59 : decode b_MO_init 59 = .ok (.newarray .boolean, 2) := by decide +kernel
theorem d_MO_init_61 : decode b_MO_init 61 = .ok (.putfield 31, 3) := by decide +kernel
theorem d_MO_init_64 : decode b_MO_init 64 = .ok (.aload_n 0, 1) := by decide +kernel
theorem d_MO_init_65 : decode b_MO_init 65 = .ok (.bipush 8, 2) := by decide +kernel
theorem d_MO_init_67 : decode b_MO_init 67 = .ok (.newarray .int, 2) := by decide +kernel
theorem d_MO_init_69 : decode b_MO_init 69 = .ok (.putfield 35, 3) := by decide +kernel
theorem d_MO_init_72 : decode b_MO_init 72 = .ok (.aload_n 0, 1) := by decide +kernel
theorem d_MO_init_73 : decode b_MO_init 73 = .ok (.iconst 4, 1) := by decide +kernel
theorem d_MO_init_74 : decode b_MO_init 74 = .ok (.newarray .int, 2) := by decide +kernel
theorem d_MO_init_76 : decode b_MO_init 76 = .ok (.putfield 38, 3) := by decide +kernel
theorem d_MO_init_79 : decode b_MO_init 79 = .ok (.aload_n 0, 1) := by decide +kernel
theorem d_MO_init_80 : decode b_MO_init 80 = .ok (.bipush 8, 2) := by decide +kernel
theorem d_MO_init_82 : decode b_MO_init 82 = .ok (.newarray .int, 2) := by decide +kernel
theorem d_MO_init_84 : decode b_MO_init 84 = .ok (.putfield 41, 3) := by decide +kernel
theorem d_MO_init_87 : decode b_MO_init 87 = .ok (.aload_n 0, 1) := by decide +kernel
theorem d_MO_init_88 : decode b_MO_init 88 = .ok (.sipush 2312, 3) := by decide +kernel
theorem d_MO_init_91 : decode b_MO_init 91 = .ok (.newarray .int, 2) := by decide +kernel
theorem d_MO_init_93 : decode b_MO_init 93 = .ok (.putfield 44, 3) := by decide +kernel
theorem d_MO_init_96 : decode b_MO_init 96 = .ok (.aload_n 0, 1) := by decide +kernel
theorem d_MO_init_97 : decode b_MO_init 97 = .ok (.sipush 2312, 3) := by decide +kernel
theorem d_MO_init_100 : decode b_MO_init 100 = .ok (.newarray .int, 2) := by decide +kernel
theorem d_MO_init_102 : decode b_MO_init 102 = .ok (.putfield 47, 3) := by decide +kernel
theorem d_MO_init_105 : decode b_MO_init 105 = .ok (.aload_n 0, 1) := by decide +kernel
theorem d_MO_init_106 : decode b_MO_init 106 = .ok (.sipush 2312, 3) := by decide +kernel
theorem d_MO_init_109 : decode b_MO_init 109 = .ok (.newarray .int, 2) := by decide +kernel
theorem d_MO_init_111 : decode b_MO_init 111 = .ok (.putfield 50, 3) := by decide +kernel
theorem d_MO_init_114 : decode b_MO_init 114 = .ok (.aload_n 0, 1) := by decide +kernel
theorem d_MO_init_115 : decode b_MO_init 115 = .ok (.sipush 3600, 3) := by decide +kernel
theorem d_MO_init_118 : decode b_MO_init 118 = .ok (.newarray .int, 2) := by decide +kernel
theorem d_MO_init_120 : decode b_MO_init 120 = .ok (.putfield 53, 3) := by decide +kernel
theorem d_MO_init_123 : decode b_MO_init 123 = .ok (.aload_n 0, 1) := by decide +kernel
theorem d_MO_init_124 : decode b_MO_init 124 = .ok (.bipush 20, 2) := by decide +kernel
theorem d_MO_init_126 : decode b_MO_init 126 = .ok (.newarray .int, 2) := by decide +kernel
theorem d_MO_init_128 : decode b_MO_init 128 = .ok (.putfield 56, 3) := by decide +kernel
theorem d_MO_init_131 : decode b_MO_init 131 = .ok (.aload_n 0, 1) := by decide +kernel
theorem d_MO_init_132 : decode b_MO_init 132 = .ok (.bipush 20, 2) := by decide +kernel
theorem d_MO_init_134 : decode b_MO_init 134 = .ok (.newarray .int, 2) := by decide +kernel
theorem d_MO_init_136 : decode b_MO_init 136 = .ok (.putfield 59, 3) := by decide +kernel
theorem d_MO_init_139 : decode b_MO_init 139 = .ok (.aload_n 0, 1) := by decide +kernel
theorem d_MO_init_140 : decode b_MO_init 140 = .ok (.bipush 20, 2) := by decide +kernel
theorem d_MO_init_142 : decode b_MO_init 142 = .ok (.newarray .int, 2) := by decide +kernel
theorem d_MO_init_144 : decode b_MO_init 144 = .ok (.putfield 62, 3) := by decide +kernel
theorem d_MO_init_147 : decode b_MO_init 147 = .ok (.aload_n 0, 1) := by decide +kernel
theorem d_MO_init_148 : decode b_MO_init 148 = .ok (.bipush 20, 2) := by decide +kernel
theorem d_MO_init_150 : decode b_MO_init 150 = .ok (.newarray .int, 2) := by decide +kernel
theorem d_MO_init_152 : decode b_MO_init 152 = .ok (.putfield 65, 3) := by decide +kernel
theorem d_MO_init_155 : decode b_MO_init 155 = .ok (.aload_n 0, 1) := by decide +kernel
theorem d_MO_init_156 : decode b_MO_init 156 = .ok (.bipush 20, 2) := by decide +kernel
theorem d_MO_init_158 : decode b_MO_init 158 = .ok (.newarray .int, 2) := by decide +kernel
theorem d_MO_init_160 : decode b_MO_init 160 = .ok (.putfield 68, 3) := by decide +kernel
theorem d_MO_init_163 : decode b_MO_init 163 = .ok (.aload_n 0, 1) := by decide +kernel
theorem d_MO_init_164 : decode b_MO_init 164 = .ok (.bipush 20, 2) := by decide +kernel
theorem d_MO_init_166 : decode b_MO_init 166 = .ok (.newarray .int, 2) := by decide +kernel
theorem d_MO_init_168 : decode b_MO_init 168 = .ok (.putfield 71, 3) := by decide +kernel
theorem d_MO_init_171 : decode b_MO_init 171 = .ok (.aload_n 0, 1) := by decide +kernel
theorem d_MO_init_172 : decode b_MO_init 172 = .ok (.bipush 20, 2) := by decide +kernel
theorem d_MO_init_174 : decode b_MO_init 174 = .ok (.newarray .int, 2) := by decide +kernel
theorem d_MO_init_176 : decode b_MO_init 176 = .ok (.putfield 74, 3) := by decide +kernel
theorem d_MO_init_179 : decode b_MO_init 179 = .ok (.aload_n 0, 1) := by decide +kernel
theorem d_MO_init_180 : decode b_MO_init 180 = .ok (.bipush 20, 2) := by decide +kernel
theorem d_MO_init_182 : decode b_MO_init 182 = .ok (.newarray .int, 2) := by decide +kernel
theorem d_MO_init_184 : decode b_MO_init 184 = .ok (.putfield 77, 3) := by decide +kernel
theorem d_MO_init_187 : decode b_MO_init 187 = .ok (.aload_n 0, 1) := by decide +kernel
theorem d_MO_init_188 : decode b_MO_init 188 = .ok (.sipush 12000, 3) := by decide +kernel
theorem d_MO_init_191 : decode b_MO_init 191 = .ok (.newarray .int, 2) := by decide +kernel
theorem d_MO_init_193 : decode b_MO_init 193 = .ok (.putfield 80, 3) := by decide +kernel
theorem d_MO_init_196 : decode b_MO_init 196 = .ok (.aload_n 0, 1) := by decide +kernel
theorem d_MO_init_197 : decode b_MO_init 197 = .ok (.sipush 25600, 3) := by decide +kernel
theorem d_MO_init_200 : decode b_MO_init 200 = .ok (.newarray .int, 2) := by decide +kernel
theorem d_MO_init_202 : decode b_MO_init 202 = .ok (.putfield 83, 3) := by decide +kernel
theorem d_MO_init_205 : decode b_MO_init 205 = .ok (.aload_n 0, 1) := by decide +kernel
theorem d_MO_init_206 : decode b_MO_init 206 = .ok (.sipush 20480, 3) := by decide +kernel
theorem d_MO_init_209 : decode b_MO_init 209 = .ok (.newarray .int, 2) := by decide +kernel
theorem d_MO_init_211 : decode b_MO_init 211 = .ok (.putfield 86, 3) := by decide +kernel
theorem d_MO_init_214 : decode b_MO_init 214 = .ok (.aload_n 0, 1) := by decide +kernel
theorem d_MO_init_215 : decode b_MO_init 215 = .ok (.iload_n 1, 1) := by decide +kernel
theorem d_MO_init_216 : decode b_MO_init 216 = .ok (.ifCond .ge 7, 3) := by decide +kernel
theorem d_MO_init_219 : decode b_MO_init 219 = .ok (.iconst 0, 1) := by decide +kernel
theorem d_MO_init_220 : decode b_MO_init 220 = .ok (.goto 13, 3) := by decide +kernel
theorem d_MO_init_223 : decode b_MO_init 223 = .ok (.iload_n 1, 1) := by decide +kernel
theorem d_MO_init_224 : decode b_MO_init 224 = .ok (.iconst 3, 1) := by decide +kernel
theorem d_MO_init_225 : decode b_MO_init 225 = .ok (.if_icmp .le 7, 3) := by decide +kernel
theorem d_MO_init_228 : decode b_MO_init 228 = .ok (.iconst 3, 1) := by decide +kernel
theorem d_MO_init_229 : decode b_MO_init 229 = .ok (.goto 4, 3) := by decide +kernel
theorem d_MO_init_232 : decode b_MO_init 232 = .ok (.iload_n 1, 1) := by decide +kernel
theorem d_MO_init_233 : decode b_MO_init 233 = .ok (.putfield 89, 3) := by decide +kernel
theorem d_MO_init_236 : decode b_MO_init 236 = .ok (.aload_n 0, 1) := by decide +kernel
theorem d_MO_init_237 : decode b_MO_init 237 = .ok (.iload_n 2, 1) := by decide +kernel
theorem d_MO_init_238 : decode b_MO_init 238 = .ok (.iconst 1, 1) := by decide +kernel
theorem d_MO_init_239 : decode b_MO_init 239 = .ok (.if_icmp .ge 7, 3) := by decide +kernel
theorem d_MO_init_242 : decode b_MO_init 242 = .ok (.iconst 1, 1) := by decide +kernel
theorem d_MO_init_243 : decode b_MO_init 243 = .ok (.goto 13, 3) := by decide +kernel
theorem d_MO_init_246 : decode b_MO_init 246 = .ok (.iload_n 2, 1) := by decide +kernel
theorem d_MO_init_247 : decode b_MO_init 247 = .ok (.iconst 3, 1) := by decide +kernel
theorem d_MO_init_248 : decode b_MO_init 248 = .ok (.if_icmp .le 7, 3) := by decide +kernel
theorem d_MO_init_251 : decode b_MO_init 251 = .ok (.iconst 3, 1) := by decide +kernel
theorem d_MO_init_252 : decode b_MO_init 252 = .ok (.goto 4, 3) := by decide +kernel
theorem d_MO_init_255 : decode b_MO_init 255 = .ok (.iload_n 2, 1) := by decide +kernel
theorem d_MO_init_256 : decode b_MO_init 256 = .ok (.putfield 93, 3) := by decide +kernel
theorem d_MO_init_259 : decode b_MO_init 259 = .ok (.aload_n 0, 1) := by decide +kernel
theorem d_MO_init_260 : decode b_MO_init 260 = .ok (.iload_n 3, 1) := by decide +kernel
theorem d_MO_init_261 : decode b_MO_init 261 = .ok (.iconst 1, 1) := by decide +kernel
theorem d_MO_init_262 : decode b_MO_init 262 = .ok (.if_icmp .ge 7, 3) := by decide +kernel
theorem d_MO_init_265 : decode b_MO_init 265 = .ok (.iconst 1, 1) := by decide +kernel
theorem d_MO_init_266 : decode b_MO_init 266 = .ok (.goto 15, 3) := by decide +kernel
theorem d_MO_init_269 : decode b_MO_init 269 = .ok (.iload_n 3, 1) := by decide +kernel
theorem d_MO_init_270 : decode b_MO_init 270 = .ok (.bipush 16, 2) := by decide +kernel
theorem d_MO_init_272 : decode b_MO_init 272 = .ok (.if_icmp .le 8, 3) := by decide +kernel
theorem d_MO_init_275 : decode b_MO_init 275 = .ok (.bipush 16, 2) := by decide +kernel
theorem d_MO_init_277 : decode b_MO_init 277 = .ok (.goto 4, 3) := by decide +kernel
theorem d_MO_init_280 : decode b_MO_init 280 = .ok (.iload_n 3, 1) := by decide +kernel
theorem d_MO_init_281 : decode b_MO_init 281 = .ok (.putfield 96, 3) := by decide +kernel
theorem d_MO_init_284 : decode b_MO_init 284 = .ok (.return_, 1) := by decide +kernel
theorem d_MO_thrown_0 : decode b_MO_thrown 0 = .ok (.aload_n 0, 1) := by decide +kernel
theorem d_MO_thrown_1 : decode b_MO_thrown 1 = .ok (.getfield 99, 3) := by decide +kernel
theorem d_MO_thrown_4 : decode b_MO_thrown 4 = .ok (.ireturn, 1) := by decide +kernel
theorem d_MO_in_0 : decode b_MO_in 0 = .ok (.iload_n 0, 1) := by decide +kernel
theorem d_MO_in_1 : decode b_MO_in 1 = .ok (.iload_n 1, 1) := by decide +kernel
theorem d_MO_in_2 : decode b_MO_in 2 = .ok (.if_icmp .lt 12, 3) := by decide +kernel
theorem d_MO_in_5 : decode b_MO_in 5 = .ok (.iload_n 0, 1) := by decide +kernel
theorem d_MO_in_6 : decode b_MO_in 6 = .ok (.iload_n 2, 1) := by decide +kernel
theorem d_MO_in_7 : decode b_MO_in 7 = .ok (.if_icmp .gt 7, 3) := by decide +kernel
theorem d_MO_in_10 : decode b_MO_in 10 = .ok (.iconst 1, 1) := by decide +kernel
theorem d_MO_in_11 : decode b_MO_in 11 = .ok (.goto 4, 3) := by decide +kernel
theorem d_MO_in_14 : decode b_MO_in 14 = .ok (.iconst 0, 1) := by decide +kernel
theorem d_MO_in_15 : decode b_MO_in 15 = .ok (.ireturn, 1) := by decide +kernel
theorem d_MO_sheet_0 : decode b_MO_sheet 0 = .ok (.aload_n 0, 1) := by decide +kernel
theorem d_MO_sheet_1 : decode b_MO_sheet 1 = .ok (.iload_n 1, 1) := by decide +kernel
theorem d_MO_sheet_2 : decode b_MO_sheet 2 = .ok (.iconst 1, 1) := by decide +kernel
theorem d_MO_sheet_3 : decode b_MO_sheet 3 = .ok (.bipush 16, 2) := by decide +kernel
theorem d_MO_sheet_5 : decode b_MO_sheet 5 = .ok (.invokestatic 102, 3) := by decide +kernel
theorem d_MO_sheet_8 : decode b_MO_sheet 8 = .ok (.ifCond .eq 35, 3) := by decide +kernel
theorem d_MO_sheet_11 : decode b_MO_sheet 11 = .ok (.iload_n 2, 1) := by decide +kernel
theorem d_MO_sheet_12 : decode b_MO_sheet 12 = .ok (.iconst 1, 1) := by decide +kernel
theorem d_MO_sheet_13 : decode b_MO_sheet 13 = .ok (.bipush 16, 2) := by decide +kernel
theorem d_MO_sheet_15 : decode b_MO_sheet 15 = .ok (.invokestatic 102, 3) := by decide +kernel
theorem d_MO_sheet_18 : decode b_MO_sheet 18 = .ok (.ifCond .eq 25, 3) := by decide +kernel
theorem d_MO_sheet_21 : decode b_MO_sheet 21 = .ok (.iload_n 3, 1) := by decide +kernel
theorem d_MO_sheet_22 : decode b_MO_sheet 22 = .ok (.iconst 1, 1) := by decide +kernel
theorem d_MO_sheet_23 : decode b_MO_sheet 23 = .ok (.sipush 10000, 3) := by decide +kernel
theorem d_MO_sheet_26 : decode b_MO_sheet 26 = .ok (.invokestatic 102, 3) := by decide +kernel
theorem d_MO_sheet_29 : decode b_MO_sheet 29 = .ok (.ifCond .eq 14, 3) := by decide +kernel
theorem d_MO_sheet_32 : decode b_MO_sheet 32 = .ok (.iload 4, 2) := by decide +kernel
theorem d_MO_sheet_34 : decode b_MO_sheet 34 = .ok (.iconst 0, 1) := by decide +kernel
theorem d_MO_sheet_35 : decode b_MO_sheet 35 = .ok (.bipush 20, 2) := by decide +kernel
theorem d_MO_sheet_37 : decode b_MO_sheet 37 = .ok (.invokestatic 102, 3) := by decide +kernel
theorem d_MO_sheet_40 : decode b_MO_sheet 40 = .ok (.ifCond .ne 7, 3) := by decide +kernel
theorem d_MO_sheet_43 : decode b_MO_sheet 43 = .ok (.iconst 1, 1) := by decide +kernel
theorem d_MO_sheet_44 : decode b_MO_sheet 44 = .ok (.goto 16, 3) := by decide +kernel
theorem d_MO_sheet_47 : decode b_MO_sheet 47 = .ok (.aload_n 0, 1) := by decide +kernel
theorem d_MO_sheet_48 : decode b_MO_sheet 48 = .ok (.getfield 106, 3) := by decide +kernel
theorem d_MO_sheet_51 : decode b_MO_sheet 51 = .ok (.iconst 4, 1) := by decide +kernel
theorem d_MO_sheet_52 : decode b_MO_sheet 52 = .ok (.if_icmp .ne 7, 3) := by decide +kernel
theorem d_MO_sheet_55 : decode b_MO_sheet 55 = .ok (.iconst 2, 1) := by decide +kernel
theorem d_MO_sheet_56 : decode b_MO_sheet 56 = .ok (.goto 4, 3) := by decide +kernel
theorem d_MO_sheet_59 : decode b_MO_sheet 59 = .ok (.iconst 0, 1) := by decide +kernel
theorem d_MO_sheet_60 : decode b_MO_sheet 60 = .ok (.putfield 99, 3) := by decide +kernel
theorem d_MO_sheet_63 : decode b_MO_sheet 63 = .ok (.aload_n 0, 1) := by decide +kernel
theorem d_MO_sheet_64 : decode b_MO_sheet 64 = .ok (.getfield 99, 3) := by decide +kernel
theorem d_MO_sheet_67 : decode b_MO_sheet 67 = .ok (.ifCond .le 5, 3) := by decide +kernel
theorem d_MO_sheet_70 : decode b_MO_sheet 70 = .ok (.iconst 0, 1) := by decide +kernel
theorem d_MO_sheet_71 : decode b_MO_sheet 71 = .ok (.ireturn, 1) := by decide +kernel
theorem d_MO_sheet_72 : decode b_MO_sheet 72 = .ok (.aload_n 0, 1) := by decide +kernel
theorem d_MO_sheet_73 : decode b_MO_sheet 73 = .ok (.getfield 7, 3) := by decide +kernel
theorem d_MO_sheet_76 : decode b_MO_sheet 76 = .ok (.aload_n 0, 1) := by decide +kernel
theorem d_MO_sheet_77 : decode b_MO_sheet 77 = .ok (.getfield 106, 3) := by decide +kernel
theorem d_MO_sheet_80 : decode b_MO_sheet 80 = .ok (.iload_n 1, 1) := by decide +kernel
theorem d_MO_sheet_81 : decode b_MO_sheet 81 = .ok (.iastore, 1) := by decide +kernel
theorem d_MO_sheet_82 : decode b_MO_sheet 82 = .ok (.aload_n 0, 1) := by decide +kernel
theorem d_MO_sheet_83 : decode b_MO_sheet 83 = .ok (.getfield 13, 3) := by decide +kernel
theorem d_MO_sheet_86 : decode b_MO_sheet 86 = .ok (.aload_n 0, 1) := by decide +kernel
theorem d_MO_sheet_87 : decode b_MO_sheet 87 = .ok (.getfield 106, 3) := by decide +kernel
theorem d_MO_sheet_90 : decode b_MO_sheet 90 = .ok (.iload_n 2, 1) := by decide +kernel
theorem d_MO_sheet_91 : decode b_MO_sheet 91 = .ok (.iastore, 1) := by decide +kernel
theorem d_MO_sheet_92 : decode b_MO_sheet 92 = .ok (.aload_n 0, 1) := by decide +kernel
theorem d_MO_sheet_93 : decode b_MO_sheet 93 = .ok (.getfield 16, 3) := by decide +kernel
theorem d_MO_sheet_96 : decode b_MO_sheet 96 = .ok (.aload_n 0, 1) := by decide +kernel
theorem d_MO_sheet_97 : decode b_MO_sheet 97 = .ok (.getfield 106, 3) := by decide +kernel
theorem d_MO_sheet_100 : decode b_MO_sheet 100 = .ok (.iload_n 3, 1) := by decide +kernel
theorem d_MO_sheet_101 : decode b_MO_sheet 101 = .ok (.iastore, 1) := by decide +kernel
theorem d_MO_sheet_102 : decode b_MO_sheet 102 = .ok (.aload_n 0, 1) := by decide +kernel
theorem d_MO_sheet_103 : decode b_MO_sheet 103 = .ok (.getfield 19, 3) := by decide +kernel
theorem d_MO_sheet_106 : decode b_MO_sheet 106 = .ok (.aload_n 0, 1) := by decide +kernel
theorem d_MO_sheet_107 : decode b_MO_sheet 107 = .ok (.getfield 106, 3) := by decide +kernel
theorem d_MO_sheet_110 : decode b_MO_sheet 110 = .ok (.iload 4, 2) := by decide +kernel
theorem d_MO_sheet_112 : decode b_MO_sheet 112 = .ok (.iastore, 1) := by decide +kernel
theorem d_MO_sheet_113 : decode b_MO_sheet 113 = .ok (.aload_n 0, 1) := by decide +kernel
theorem d_MO_sheet_114 : decode b_MO_sheet 114 = .ok (.dup, 1) := by decide +kernel
theorem d_MO_sheet_115 : decode b_MO_sheet 115 = .ok (.getfield 106, 3) := by decide +kernel
theorem d_MO_sheet_118 : decode b_MO_sheet 118 = .ok (.iconst 1, 1) := by decide +kernel
theorem d_MO_sheet_119 : decode b_MO_sheet 119 = .ok (.iadd, 1) := by decide +kernel
theorem d_MO_sheet_120 : decode b_MO_sheet 120 = .ok (.putfield 106, 3) := by decide +kernel
theorem d_MO_sheet_123 : decode b_MO_sheet 123 = .ok (.aload_n 0, 1) := by decide +kernel
theorem d_MO_sheet_124 : decode b_MO_sheet 124 = .ok (.iconst 0, 1) := by decide +kernel
theorem d_MO_sheet_125 : decode b_MO_sheet 125 = .ok (.putfield 109, 3) := by decide +kernel
theorem d_MO_sheet_128 : decode b_MO_sheet 128 = .ok (.aload_n 0, 1) := by decide +kernel
theorem d_MO_sheet_129 : decode b_MO_sheet 129 = .ok (.getfield 106, 3) := by decide +kernel
theorem d_MO_sheet_132 : decode b_MO_sheet 132 = .ok (.iconst 1, 1) := by decide +kernel
theorem d_MO_sheet_133 : decode b_MO_sheet 133 = .ok (.isub, 1) := by decide +kernel
theorem d_MO_sheet_134 : decode b_MO_sheet 134 = .ok (.ireturn, 1) := by decide +kernel
theorem d_MO_part_0 : decode b_MO_part 0 = .ok (.aload_n 0, 1) := by decide +kernel
theorem d_MO_part_1 : decode b_MO_part 1 = .ok (.iload_n 1, 1) := by decide +kernel
theorem d_MO_part_2 : decode b_MO_part 2 = .ok (.iconst 1, 1) := by decide +kernel
theorem d_MO_part_3 : decode b_MO_part 3 = .ok (.bipush 16, 2) := by decide +kernel
theorem d_MO_part_5 : decode b_MO_part 5 = .ok (.invokestatic 102, 3) := by decide +kernel
theorem d_MO_part_8 : decode b_MO_part 8 = .ok (.ifCond .eq 23, 3) := by decide +kernel
theorem d_MO_part_11 : decode b_MO_part 11 = .ok (.iload_n 2, 1) := by decide +kernel
theorem d_MO_part_12 : decode b_MO_part 12 = .ok (.iconst 1, 1) := by decide +kernel
theorem d_MO_part_13 : decode b_MO_part 13 = .ok (.bipush 16, 2) := by decide +kernel
theorem d_MO_part_15 : decode b_MO_part 15 = .ok (.invokestatic 102, 3) := by decide +kernel
theorem d_MO_part_18 : decode b_MO_part 18 = .ok (.ifCond .eq 13, 3) := by decide +kernel
theorem d_MO_part_21 : decode b_MO_part 21 = .ok (.iload_n 3, 1) := by decide +kernel
theorem d_MO_part_22 : decode b_MO_part 22 = .ok (.iconst 0, 1) := by decide +kernel
theorem d_MO_part_23 : decode b_MO_part 23 = .ok (.bipush 50, 2) := by decide +kernel
theorem d_MO_part_25 : decode b_MO_part 25 = .ok (.invokestatic 102, 3) := by decide +kernel
theorem d_MO_part_28 : decode b_MO_part 28 = .ok (.ifCond .ne 7, 3) := by decide +kernel
theorem d_MO_part_31 : decode b_MO_part 31 = .ok (.iconst 1, 1) := by decide +kernel
theorem d_MO_part_32 : decode b_MO_part 32 = .ok (.goto 17, 3) := by decide +kernel
theorem d_MO_part_35 : decode b_MO_part 35 = .ok (.aload_n 0, 1) := by decide +kernel
theorem d_MO_part_36 : decode b_MO_part 36 = .ok (.getfield 113, 3) := by decide +kernel
theorem d_MO_part_39 : decode b_MO_part 39 = .ok (.bipush 8, 2) := by decide +kernel
theorem d_MO_part_41 : decode b_MO_part 41 = .ok (.if_icmp .ne 7, 3) := by decide +kernel
theorem d_MO_part_44 : decode b_MO_part 44 = .ok (.iconst 2, 1) := by decide +kernel
theorem d_MO_part_45 : decode b_MO_part 45 = .ok (.goto 4, 3) := by decide +kernel
theorem d_MO_part_48 : decode b_MO_part 48 = .ok (.iconst 0, 1) := by decide +kernel
theorem d_MO_part_49 : decode b_MO_part 49 = .ok (.putfield 99, 3) := by decide +kernel
theorem d_MO_part_52 : decode b_MO_part 52 = .ok (.aload_n 0, 1) := by decide +kernel
theorem d_MO_part_53 : decode b_MO_part 53 = .ok (.getfield 99, 3) := by decide +kernel
theorem d_MO_part_56 : decode b_MO_part 56 = .ok (.ifCond .le 5, 3) := by decide +kernel
theorem d_MO_part_59 : decode b_MO_part 59 = .ok (.iconst 0, 1) := by decide +kernel
theorem d_MO_part_60 : decode b_MO_part 60 = .ok (.ireturn, 1) := by decide +kernel
theorem d_MO_part_61 : decode b_MO_part 61 = .ok (.aload_n 0, 1) := by decide +kernel
theorem d_MO_part_62 : decode b_MO_part 62 = .ok (.getfield 22, 3) := by decide +kernel
theorem d_MO_part_65 : decode b_MO_part 65 = .ok (.aload_n 0, 1) := by decide +kernel
theorem d_MO_part_66 : decode b_MO_part 66 = .ok (.getfield 113, 3) := by decide +kernel
theorem d_MO_part_69 : decode b_MO_part 69 = .ok (.iload_n 1, 1) := by decide +kernel
theorem d_MO_part_70 : decode b_MO_part 70 = .ok (.iastore, 1) := by decide +kernel
theorem d_MO_part_71 : decode b_MO_part 71 = .ok (.aload_n 0, 1) := by decide +kernel
theorem d_MO_part_72 : decode b_MO_part 72 = .ok (.getfield 25, 3) := by decide +kernel
theorem d_MO_part_75 : decode b_MO_part 75 = .ok (.aload_n 0, 1) := by decide +kernel
theorem d_MO_part_76 : decode b_MO_part 76 = .ok (.getfield 113, 3) := by decide +kernel
theorem d_MO_part_79 : decode b_MO_part 79 = .ok (.iload_n 2, 1) := by decide +kernel
theorem d_MO_part_80 : decode b_MO_part 80 = .ok (.iastore, 1) := by decide +kernel
theorem d_MO_part_81 : decode b_MO_part 81 = .ok (.aload_n 0, 1) := by decide +kernel
theorem d_MO_part_82 : decode b_MO_part 82 = .ok (.getfield 28, 3) := by decide +kernel
theorem d_MO_part_85 : decode b_MO_part 85 = .ok (.aload_n 0, 1) := by decide +kernel
theorem d_MO_part_86 : decode b_MO_part 86 = .ok (.getfield 113, 3) := by decide +kernel
theorem d_MO_part_89 : decode b_MO_part 89 = .ok (.iload_n 3, 1) := by decide +kernel
theorem d_MO_part_90 : decode b_MO_part 90 = .ok (.iastore, 1) := by decide +kernel
theorem d_MO_part_91 : decode b_MO_part 91 = .ok (.aload_n 0, 1) := by decide +kernel
theorem d_MO_part_92 : decode b_MO_part 92 = .ok (.getfield 31, 3) := by decide +kernel
theorem d_MO_part_95 : decode b_MO_part 95 = .ok (.aload_n 0, 1) := by decide +kernel
theorem d_MO_part_96 : decode b_MO_part 96 = .ok (.getfield 113, 3) := by decide +kernel
theorem d_MO_part_99 : decode b_MO_part 99 = .ok (.iload 4, 2) := by decide +kernel
theorem d_MO_part_101 : decode b_MO_part 101 = .ok (.bastore, 1) := by decide +kernel
theorem d_MO_part_102 : decode b_MO_part 102 = .ok (.aload_n 0, 1) := by decide +kernel
theorem d_MO_part_103 : decode b_MO_part 103 = .ok (.dup, 1) := by decide +kernel
theorem d_MO_part_104 : decode b_MO_part 104 = .ok (.getfield 113, 3) := by decide +kernel
theorem d_MO_part_107 : decode b_MO_part 107 = .ok (.iconst 1, 1) := by decide +kernel
theorem d_MO_part_108 : decode b_MO_part 108 = .ok (.iadd, 1) := by decide +kernel
theorem d_MO_part_109 : decode b_MO_part 109 = .ok (.putfield 113, 3) := by decide +kernel
theorem d_MO_part_112 : decode b_MO_part 112 = .ok (.aload_n 0, 1) := by decide +kernel
theorem d_MO_part_113 : decode b_MO_part 113 = .ok (.iconst 0, 1) := by decide +kernel
theorem d_MO_part_114 : decode b_MO_part 114 = .ok (.putfield 109, 3) := by decide +kernel
theorem d_MO_part_117 : decode b_MO_part 117 = .ok (.aload_n 0, 1) := by decide +kernel
theorem d_MO_part_118 : decode b_MO_part 118 = .ok (.getfield 113, 3) := by decide +kernel
theorem d_MO_part_121 : decode b_MO_part 121 = .ok (.iconst 1, 1) := by decide +kernel
theorem d_MO_part_122 : decode b_MO_part 122 = .ok (.isub, 1) := by decide +kernel
theorem d_MO_part_123 : decode b_MO_part 123 = .ok (.ireturn, 1) := by decide +kernel
theorem d_MO_count_0 : decode b_MO_count 0 = .ok (.aload_n 0, 1) := by decide +kernel
theorem d_MO_count_1 : decode b_MO_count 1 = .ok (.iload_n 1, 1) := by decide +kernel
theorem d_MO_count_2 : decode b_MO_count 2 = .ok (.iconst 0, 1) := by decide +kernel
theorem d_MO_count_3 : decode b_MO_count 3 = .ok (.aload_n 0, 1) := by decide +kernel
theorem d_MO_count_4 : decode b_MO_count 4 = .ok (.getfield 113, 3) := by decide +kernel
theorem d_MO_count_7 : decode b_MO_count 7 = .ok (.iconst 1, 1) := by decide +kernel
theorem d_MO_count_8 : decode b_MO_count 8 = .ok (.isub, 1) := by decide +kernel
theorem d_MO_count_9 : decode b_MO_count 9 = .ok (.invokestatic 102, 3) := by decide +kernel
theorem d_MO_count_12 : decode b_MO_count 12 = .ok (.ifCond .ne 7, 3) := by decide +kernel
theorem d_MO_count_15 : decode b_MO_count 15 = .ok (.iconst 1, 1) := by decide +kernel
theorem d_MO_count_16 : decode b_MO_count 16 = .ok (.goto 18, 3) := by decide +kernel
theorem d_MO_count_19 : decode b_MO_count 19 = .ok (.iload_n 2, 1) := by decide +kernel
theorem d_MO_count_20 : decode b_MO_count 20 = .ok (.iconst 0, 1) := by decide +kernel
theorem d_MO_count_21 : decode b_MO_count 21 = .ok (.bipush 50, 2) := by decide +kernel
theorem d_MO_count_23 : decode b_MO_count 23 = .ok (.invokestatic 102, 3) := by decide +kernel
theorem d_MO_count_26 : decode b_MO_count 26 = .ok (.ifCond .ne 7, 3) := by decide +kernel
theorem d_MO_count_29 : decode b_MO_count 29 = .ok (.iconst 2, 1) := by decide +kernel
theorem d_MO_count_30 : decode b_MO_count 30 = .ok (.goto 4, 3) := by decide +kernel
theorem d_MO_count_33 : decode b_MO_count 33 = .ok (.iconst 0, 1) := by decide +kernel
theorem d_MO_count_34 : decode b_MO_count 34 = .ok (.putfield 99, 3) := by decide +kernel
theorem d_MO_count_37 : decode b_MO_count 37 = .ok (.aload_n 0, 1) := by decide +kernel
theorem d_MO_count_38 : decode b_MO_count 38 = .ok (.getfield 99, 3) := by decide +kernel
theorem d_MO_count_41 : decode b_MO_count 41 = .ok (.ifCond .le 5, 3) := by decide +kernel
theorem d_MO_count_44 : decode b_MO_count 44 = .ok (.iconst 0, 1) := by decide +kernel
theorem d_MO_count_45 : decode b_MO_count 45 = .ok (.ireturn, 1) := by decide +kernel
theorem d_MO_count_46 : decode b_MO_count 46 = .ok (.aload_n 0, 1) := by decide +kernel
theorem d_MO_count_47 : decode b_MO_count 47 = .ok (.getfield 28, 3) := by decide +kernel
theorem d_MO_count_50 : decode b_MO_count 50 = .ok (.iload_n 1, 1) := by decide +kernel
theorem d_MO_count_51 : decode b_MO_count 51 = .ok (.iaload, 1) := by decide +kernel
theorem d_MO_count_52 : decode b_MO_count 52 = .ok (.istore_n 3, 1) := by decide +kernel
theorem d_MO_count_53 : decode b_MO_count 53 = .ok (.aload_n 0, 1) := by decide +kernel
theorem d_MO_count_54 : decode b_MO_count 54 = .ok (.getfield 28, 3) := by decide +kernel
theorem d_MO_count_57 : decode b_MO_count 57 = .ok (.iload_n 1, 1) := by decide +kernel
theorem d_MO_count_58 : decode b_MO_count 58 = .ok (.iload_n 2, 1) := by decide +kernel
theorem d_MO_count_59 : decode b_MO_count 59 = .ok (.iastore, 1) := by decide +kernel
theorem d_MO_count_60 : decode b_MO_count 60 = .ok (.aload_n 0, 1) := by decide +kernel
theorem d_MO_count_61 : decode b_MO_count 61 = .ok (.iconst 0, 1) := by decide +kernel
theorem d_MO_count_62 : decode b_MO_count 62 = .ok (.putfield 109, 3) := by decide +kernel
theorem d_MO_count_65 : decode b_MO_count 65 = .ok (.iload_n 3, 1) := by decide +kernel
theorem d_MO_count_66 : decode b_MO_count 66 = .ok (.ireturn, 1) := by decide +kernel
theorem d_MO_place_0 : decode b_MO_place 0 = .ok (.sipush 289, 3) := by decide +kernel
theorem d_MO_place_3 : decode b_MO_place 3 = .ok (.iconst 2, 1) := by decide +kernel
theorem d_MO_place_4 : decode b_MO_place 4 = .ok (.iload_n 0, 1) := by decide +kernel
theorem d_MO_place_5 : decode b_MO_place 5 = .ok (.imul, 1) := by decide +kernel
theorem d_MO_place_6 : decode b_MO_place 6 = .ok (.iload_n 1, 1) := by decide +kernel
theorem d_MO_place_7 : decode b_MO_place 7 = .ok (.iadd, 1) := by decide +kernel
theorem d_MO_place_8 : decode b_MO_place 8 = .ok (.imul, 1) := by decide +kernel
theorem d_MO_place_9 : decode b_MO_place 9 = .ok (.bipush 17, 2) := by decide +kernel
theorem d_MO_place_11 : decode b_MO_place 11 = .ok (.iload_n 3, 1) := by decide +kernel
theorem d_MO_place_12 : decode b_MO_place 12 = .ok (.imul, 1) := by decide +kernel
theorem d_MO_place_13 : decode b_MO_place 13 = .ok (.iadd, 1) := by decide +kernel
theorem d_MO_place_14 : decode b_MO_place 14 = .ok (.iload_n 2, 1) := by decide +kernel
theorem d_MO_place_15 : decode b_MO_place 15 = .ok (.iadd, 1) := by decide +kernel
theorem d_MO_place_16 : decode b_MO_place 16 = .ok (.ireturn, 1) := by decide +kernel
theorem d_MO_isJust_0 : decode b_MO_isJust 0 = .ok (.aload_n 0, 1) := by decide +kernel
theorem d_MO_isJust_1 : decode b_MO_isJust 1 = .ok (.getfield 22, 3) := by decide +kernel
theorem d_MO_isJust_4 : decode b_MO_isJust 4 = .ok (.iload_n 1, 1) := by decide +kernel
theorem d_MO_isJust_5 : decode b_MO_isJust 5 = .ok (.iaload, 1) := by decide +kernel
theorem d_MO_isJust_6 : decode b_MO_isJust 6 = .ok (.iload_n 2, 1) := by decide +kernel
theorem d_MO_isJust_7 : decode b_MO_isJust 7 = .ok (.if_icmp .ne 13, 3) := by decide +kernel
theorem d_MO_isJust_10 : decode b_MO_isJust 10 = .ok (.aload_n 0, 1) := by decide +kernel
theorem d_MO_isJust_11 : decode b_MO_isJust 11 = .ok (.getfield 25, 3) := by decide +kernel
theorem d_MO_isJust_14 : decode b_MO_isJust 14 = .ok (.iload_n 1, 1) := by decide +kernel
theorem d_MO_isJust_15 : decode b_MO_isJust 15 = .ok (.iaload, 1) := by decide +kernel
theorem d_MO_isJust_16 : decode b_MO_isJust 16 = .ok (.iload_n 3, 1) := by decide +kernel
theorem d_MO_isJust_17 : decode b_MO_isJust 17 = .ok (.if_icmp .eq 32, 3) := by decide +kernel
theorem d_MO_isJust_20 : decode b_MO_isJust 20 = .ok (.aload_n 0, 1) := by decide +kernel
theorem d_MO_isJust_21 : decode b_MO_isJust 21 = .ok (.getfield 31, 3) := by decide +kernel
theorem d_MO_isJust_24 : decode b_MO_isJust 24 = .ok (.iload_n 1, 1) := by decide +kernel
theorem d_MO_isJust_25 : decode b_MO_isJust 25 = .ok (.baload, 1) := by decide +kernel
theorem d_MO_isJust_26 : decode b_MO_isJust 26 = .ok (.ifCond .eq 27, 3) := by decide +kernel
theorem d_MO_isJust_29 : decode b_MO_isJust 29 = .ok (.aload_n 0, 1) := by decide +kernel
theorem d_MO_isJust_30 : decode b_MO_isJust 30 = .ok (.getfield 22, 3) := by decide +kernel
theorem d_MO_isJust_33 : decode b_MO_isJust 33 = .ok (.iload_n 1, 1) := by decide +kernel
theorem d_MO_isJust_34 : decode b_MO_isJust 34 = .ok (.iaload, 1) := by decide +kernel
theorem d_MO_isJust_35 : decode b_MO_isJust 35 = .ok (.iload_n 3, 1) := by decide +kernel
theorem d_MO_isJust_36 : decode b_MO_isJust 36 = .ok (.if_icmp .ne 17, 3) := by decide +kernel
theorem d_MO_isJust_39 : decode b_MO_isJust 39 = .ok (.aload_n 0, 1) := by decide +kernel
theorem d_MO_isJust_40 : decode b_MO_isJust 40 = .ok (.getfield 25, 3) := by decide +kernel
theorem d_MO_isJust_43 : decode b_MO_isJust 43 = .ok (.iload_n 1, 1) := by decide +kernel
theorem d_MO_isJust_44 : decode b_MO_isJust 44 = .ok (.iaload, 1) := by decide +kernel
theorem d_MO_isJust_45 : decode b_MO_isJust 45 = .ok (.iload_n 2, 1) := by decide +kernel
theorem d_MO_isJust_46 : decode b_MO_isJust 46 = .ok (.if_icmp .ne 7, 3) := by decide +kernel
theorem d_MO_isJust_49 : decode b_MO_isJust 49 = .ok (.iconst 1, 1) := by decide +kernel
theorem d_MO_isJust_50 : decode b_MO_isJust 50 = .ok (.goto 4, 3) := by decide +kernel
theorem d_MO_isJust_53 : decode b_MO_isJust 53 = .ok (.iconst 0, 1) := by decide +kernel
theorem d_MO_isJust_54 : decode b_MO_isJust 54 = .ok (.ireturn, 1) := by decide +kernel
theorem d_MO_better_0 : decode b_MO_better 0 = .ok (.iload_n 2, 1) := by decide +kernel
theorem d_MO_better_1 : decode b_MO_better 1 = .ok (.aload_n 0, 1) := by decide +kernel
theorem d_MO_better_2 : decode b_MO_better 2 = .ok (.getfield 44, 3) := by decide +kernel
theorem d_MO_better_5 : decode b_MO_better 5 = .ok (.iload_n 1, 1) := by decide +kernel
theorem d_MO_better_6 : decode b_MO_better 6 = .ok (.iaload, 1) := by decide +kernel
theorem d_MO_better_7 : decode b_MO_better 7 = .ok (.if_icmp .gt 23, 3) := by decide +kernel
theorem d_MO_better_10 : decode b_MO_better 10 = .ok (.iload_n 2, 1) := by decide +kernel
theorem d_MO_better_11 : decode b_MO_better 11 = .ok (.aload_n 0, 1) := by decide +kernel
theorem d_MO_better_12 : decode b_MO_better 12 = .ok (.getfield 44, 3) := by decide +kernel
theorem d_MO_better_15 : decode b_MO_better 15 = .ok (.iload_n 1, 1) := by decide +kernel
theorem d_MO_better_16 : decode b_MO_better 16 = .ok (.iaload, 1) := by decide +kernel
theorem d_MO_better_17 : decode b_MO_better 17 = .ok (.if_icmp .ne 35, 3) := by decide +kernel
theorem d_MO_better_20 : decode b_MO_better 20 = .ok (.iload_n 3, 1) := by decide +kernel
theorem d_MO_better_21 : decode b_MO_better 21 = .ok (.aload_n 0, 1) := by decide +kernel
theorem d_MO_better_22 : decode b_MO_better 22 = .ok (.getfield 47, 3) := by decide +kernel
theorem d_MO_better_25 : decode b_MO_better 25 = .ok (.iload_n 1, 1) := by decide +kernel
theorem d_MO_better_26 : decode b_MO_better 26 = .ok (.iaload, 1) := by decide +kernel
theorem d_MO_better_27 : decode b_MO_better 27 = .ok (.if_icmp .ge 25, 3) := by decide +kernel
theorem d_MO_better_30 : decode b_MO_better 30 = .ok (.aload_n 0, 1) := by decide +kernel
theorem d_MO_better_31 : decode b_MO_better 31 = .ok (.getfield 44, 3) := by decide +kernel
theorem d_MO_better_34 : decode b_MO_better 34 = .ok (.iload_n 1, 1) := by decide +kernel
theorem d_MO_better_35 : decode b_MO_better 35 = .ok (.iload_n 2, 1) := by decide +kernel
theorem d_MO_better_36 : decode b_MO_better 36 = .ok (.iastore, 1) := by decide +kernel
theorem d_MO_better_37 : decode b_MO_better 37 = .ok (.aload_n 0, 1) := by decide +kernel
theorem d_MO_better_38 : decode b_MO_better 38 = .ok (.getfield 47, 3) := by decide +kernel
theorem d_MO_better_41 : decode b_MO_better 41 = .ok (.iload_n 1, 1) := by decide +kernel
theorem d_MO_better_42 : decode b_MO_better 42 = .ok (.iload_n 3, 1) := by decide +kernel
theorem d_MO_better_43 : decode b_MO_better 43 = .ok (.iastore, 1) := by decide +kernel
theorem d_MO_better_44 : decode b_MO_better 44 = .ok (.aload_n 0, 1) := by decide +kernel
theorem d_MO_better_45 : decode b_MO_better 45 = .ok (.getfield 50, 3) := by decide +kernel
theorem d_MO_better_48 : decode b_MO_better 48 = .ok (.iload_n 1, 1) := by decide +kernel
theorem d_MO_better_49 : decode b_MO_better 49 = .ok (.iload 4, 2) := by decide +kernel
theorem d_MO_better_51 : decode b_MO_better 51 = .ok (.iastore, 1) := by decide +kernel
theorem d_MO_better_52 : decode b_MO_better 52 = .ok (.return_, 1) := by decide +kernel
theorem d_MO_fillOne_0 : decode b_MO_fillOne 0 = .ok (.iload_n 1, 1) := by decide +kernel
theorem d_MO_fillOne_1 : decode b_MO_fillOne 1 = .ok (.iload_n 2, 1) := by decide +kernel
theorem d_MO_fillOne_2 : decode b_MO_fillOne 2 = .ok (.iload_n 3, 1) := by decide +kernel
theorem d_MO_fillOne_3 : decode b_MO_fillOne 3 = .ok (.iload 4, 2) := by decide +kernel
theorem d_MO_fillOne_5 : decode b_MO_fillOne 5 = .ok (.invokestatic 116, 3) := by decide +kernel
theorem d_MO_fillOne_8 : decode b_MO_fillOne 8 = .ok (.istore 5, 2) := by decide +kernel
theorem d_MO_fillOne_10 : decode b_MO_fillOne 10 = .ok (.aload_n 0, 1) := by decide +kernel
theorem d_MO_fillOne_11 : decode b_MO_fillOne 11 = .ok (.getfield 44, 3) := by decide +kernel
theorem d_MO_fillOne_14 : decode b_MO_fillOne 14 = .ok (.iload 5, 2) := by decide +kernel
theorem d_MO_fillOne_16 : decode b_MO_fillOne 16 = .ok (.iconst 0, 1) := by decide +kernel
theorem d_MO_fillOne_17 : decode b_MO_fillOne 17 = .ok (.iastore, 1) := by decide +kernel
theorem d_MO_fillOne_18 : decode b_MO_fillOne 18 = .ok (.aload_n 0, 1) := by decide +kernel
theorem d_MO_fillOne_19 : decode b_MO_fillOne 19 = .ok (.getfield 47, 3) := by decide +kernel
theorem d_MO_fillOne_22 : decode b_MO_fillOne 22 = .ok (.iload 5, 2) := by decide +kernel
theorem d_MO_fillOne_24 : decode b_MO_fillOne 24 = .ok (.iconst 0, 1) := by decide +kernel
theorem d_MO_fillOne_25 : decode b_MO_fillOne 25 = .ok (.iastore, 1) := by decide +kernel
theorem d_MO_fillOne_26 : decode b_MO_fillOne 26 = .ok (.aload_n 0, 1) := by decide +kernel
theorem d_MO_fillOne_27 : decode b_MO_fillOne 27 = .ok (.getfield 50, 3) := by decide +kernel
theorem d_MO_fillOne_30 : decode b_MO_fillOne 30 = .ok (.iload 5, 2) := by decide +kernel
theorem d_MO_fillOne_32 : decode b_MO_fillOne 32 = .ok (.iconst (-1), 1) := by decide +kernel
theorem d_MO_fillOne_33 : decode b_MO_fillOne 33 = .ok (.iastore, 1) := by decide +kernel
theorem d_MO_fillOne_34 : decode b_MO_fillOne 34 = .ok (.iconst 0, 1) := by decide +kernel
theorem d_MO_fillOne_35 : decode b_MO_fillOne 35 = .ok (.istore 6, 2) := by decide +kernel
theorem d_MO_fillOne_37 : decode b_MO_fillOne 37 = .ok (.iload 6, 2) := by decide +kernel
theorem d_MO_fillOne_39 : decode b_MO_fillOne 39 = .ok (.aload_n 0, 1) := by decide +kernel
theorem d_MO_fillOne_40 : decode b_MO_fillOne 40 = .ok (.getfield 113, 3) := by decide +kernel
theorem d_MO_fillOne_43 : decode b_MO_fillOne 43 = .ok (.if_icmp .ge 44, 3) := by decide +kernel
theorem d_MO_fillOne_46 : decode b_MO_fillOne 46 = .ok (.aload_n 0, 1) := by decide +kernel
theorem d_MO_fillOne_47 : decode b_MO_fillOne 47 = .ok (.getfield 35, 3) := by decide +kernel
theorem d_MO_fillOne_50 : decode b_MO_fillOne 50 = .ok (.iload 6, 2) := by decide +kernel
theorem d_MO_fillOne_52 : decode b_MO_fillOne 52 = .ok (.iaload, 1) := by decide +kernel
theorem d_MO_fillOne_53 : decode b_MO_fillOne 53 = .ok (.ifCond .le 28, 3) := by decide +kernel
theorem d_MO_fillOne_56 : decode b_MO_fillOne 56 = .ok (.aload_n 0, 1) := by decide +kernel
theorem d_MO_fillOne_57 : decode b_MO_fillOne 57 = .ok (.iload 6, 2) := by decide +kernel
theorem d_MO_fillOne_59 : decode b_MO_fillOne 59 = .ok (.iload_n 3, 1) := by decide +kernel
theorem d_MO_fillOne_60 : decode b_MO_fillOne 60 = .ok (.iload 4, 2) := by decide +kernel
theorem d_MO_fillOne_62 : decode b_MO_fillOne 62 = .ok (.invokevirtual 120, 3) := by decide +kernel
theorem d_MO_fillOne_65 : decode b_MO_fillOne 65 = .ok (.ifCond .eq 16, 3) := by decide +kernel
theorem d_MO_fillOne_68 : decode b_MO_fillOne 68 = .ok (.aload_n 0, 1) := by decide +kernel
theorem d_MO_fillOne_69 : decode b_MO_fillOne 69 = .ok (.iload 5, 2) := by decide +kernel
theorem d_MO_fillOne_71 : decode b_MO_fillOne 71 = .ok (.iload_n 3, 1) := by decide +kernel
theorem d_MO_fillOne_72 : decode b_MO_fillOne 72 = .ok (.iload 4, 2) := by decide +kernel
theorem d_MO_fillOne_74 : decode b_MO_fillOne 74 = .ok (.imul, 1) := by decide +kernel
theorem d_MO_fillOne_75 : decode b_MO_fillOne 75 = .ok (.iconst 0, 1) := by decide +kernel
theorem d_MO_fillOne_76 : decode b_MO_fillOne 76 = .ok (.iload 6, 2) := by decide +kernel
theorem d_MO_fillOne_78 : decode b_MO_fillOne 78 = .ok (.invokevirtual 123, 3) := by decide +kernel
theorem d_MO_fillOne_81 : decode b_MO_fillOne 81 = .ok (.iinc 6 1, 3) := by decide +kernel
theorem d_MO_fillOne_84 : decode b_MO_fillOne 84 = .ok (.goto (-47), 3) := by decide +kernel
theorem d_MO_fillOne_87 : decode b_MO_fillOne 87 = .ok (.iload_n 2, 1) := by decide +kernel
theorem d_MO_fillOne_88 : decode b_MO_fillOne 88 = .ok (.ifCond .ne 7, 3) := by decide +kernel
theorem d_MO_fillOne_91 : decode b_MO_fillOne 91 = .ok (.iload_n 3, 1) := by decide +kernel
theorem d_MO_fillOne_92 : decode b_MO_fillOne 92 = .ok (.goto 5, 3) := by decide +kernel
theorem d_MO_fillOne_95 : decode b_MO_fillOne 95 = .ok (.iload 4, 2) := by decide +kernel
theorem d_MO_fillOne_97 : decode b_MO_fillOne 97 = .ok (.istore 6, 2) := by decide +kernel
theorem d_MO_fillOne_99 : decode b_MO_fillOne 99 = .ok (.iconst 1, 1) := by decide +kernel
theorem d_MO_fillOne_100 : decode b_MO_fillOne 100 = .ok (.istore 7, 2) := by decide +kernel
theorem d_MO_fillOne_102 : decode b_MO_fillOne 102 = .ok (.iload 7, 2) := by decide +kernel
theorem d_MO_fillOne_104 : decode b_MO_fillOne 104 = .ok (.iload 6, 2) := by decide +kernel
theorem d_MO_fillOne_106 : decode b_MO_fillOne 106 = .ok (.if_icmp .ge 145, 3) := by decide +kernel
theorem d_MO_fillOne_109 : decode b_MO_fillOne 109 = .ok (.iload_n 1, 1) := by decide +kernel
theorem d_MO_fillOne_110 : decode b_MO_fillOne 110 = .ok (.ifCond .le 141, 3) := by decide +kernel
theorem d_MO_fillOne_113 : decode b_MO_fillOne 113 = .ok (.iload_n 2, 1) := by decide +kernel
theorem d_MO_fillOne_114 : decode b_MO_fillOne 114 = .ok (.ifCond .ne 17, 3) := by decide +kernel
theorem d_MO_fillOne_117 : decode b_MO_fillOne 117 = .ok (.iload_n 1, 1) := by decide +kernel
theorem d_MO_fillOne_118 : decode b_MO_fillOne 118 = .ok (.iconst 1, 1) := by decide +kernel
theorem d_MO_fillOne_119 : decode b_MO_fillOne 119 = .ok (.isub, 1) := by decide +kernel
theorem d_MO_fillOne_120 : decode b_MO_fillOne 120 = .ok (.iconst 1, 1) := by decide +kernel
theorem d_MO_fillOne_121 : decode b_MO_fillOne 121 = .ok (.iload 7, 2) := by decide +kernel
theorem d_MO_fillOne_123 : decode b_MO_fillOne 123 = .ok (.iload 4, 2) := by decide +kernel
theorem d_MO_fillOne_125 : decode b_MO_fillOne 125 = .ok (.invokestatic 116, 3) := by decide +kernel
theorem d_MO_fillOne_128 : decode b_MO_fillOne 128 = .ok (.goto 13, 3) := by decide +kernel
theorem d_MO_fillOne_131 : decode b_MO_fillOne 131 = .ok (.iload_n 1, 1) := by decide +kernel
theorem d_MO_fillOne_132 : decode b_MO_fillOne 132 = .ok (.iconst 1, 1) := by decide +kernel
theorem d_MO_fillOne_133 : decode b_MO_fillOne 133 = .ok (.isub, 1) := by decide +kernel
theorem d_MO_fillOne_134 : decode b_MO_fillOne 134 = .ok (.iconst 0, 1) := by decide +kernel
theorem d_MO_fillOne_135 : decode b_MO_fillOne 135 = .ok (.iload_n 3, 1) := by decide +kernel
theorem d_MO_fillOne_136 : decode b_MO_fillOne 136 = .ok (.iload 7, 2) := by decide +kernel
theorem d_MO_fillOne_138 : decode b_MO_fillOne 138 = .ok (.invokestatic 116, 3) := by decide +kernel
theorem d_MO_fillOne_141 : decode b_MO_fillOne 141 = .ok (.istore 8, 2) := by decide +kernel
theorem d_MO_fillOne_143 : decode b_MO_fillOne 143 = .ok (.iload 6, 2) := by decide +kernel
theorem d_MO_fillOne_145 : decode b_MO_fillOne 145 = .ok (.iload 7, 2) := by decide +kernel
theorem d_MO_fillOne_147 : decode b_MO_fillOne 147 = .ok (.isub, 1) := by decide +kernel
theorem d_MO_fillOne_148 : decode b_MO_fillOne 148 = .ok (.aload_n 0, 1) := by decide +kernel
theorem d_MO_fillOne_149 : decode b_MO_fillOne 149 = .ok (.getfield 89, 3) := by decide +kernel
theorem d_MO_fillOne_152 : decode b_MO_fillOne 152 = .ok (.isub, 1) := by decide +kernel
theorem d_MO_fillOne_153 : decode b_MO_fillOne 153 = .ok (.istore 9, 2) := by decide +kernel
theorem d_MO_fillOne_155 : decode b_MO_fillOne 155 = .ok (.aload_n 0, 1) := by decide +kernel
theorem d_MO_fillOne_156 : decode b_MO_fillOne 156 = .ok (.getfield 44, 3) := by decide +kernel
theorem d_MO_fillOne_159 : decode b_MO_fillOne 159 = .ok (.iload 8, 2) := by decide +kernel
theorem d_MO_fillOne_161 : decode b_MO_fillOne 161 = .ok (.iaload, 1) := by decide +kernel
theorem d_MO_fillOne_162 : decode b_MO_fillOne 162 = .ok (.istore 10, 2) := by decide +kernel
theorem d_MO_fillOne_164 : decode b_MO_fillOne 164 = .ok (.iconst 1, 1) := by decide +kernel
theorem d_MO_fillOne_165 : decode b_MO_fillOne 165 = .ok (.aload_n 0, 1) := by decide +kernel
theorem d_MO_fillOne_166 : decode b_MO_fillOne 166 = .ok (.getfield 47, 3) := by decide +kernel
theorem d_MO_fillOne_169 : decode b_MO_fillOne 169 = .ok (.iload 8, 2) := by decide +kernel
theorem d_MO_fillOne_171 : decode b_MO_fillOne 171 = .ok (.iaload, 1) := by decide +kernel
theorem d_MO_fillOne_172 : decode b_MO_fillOne 172 = .ok (.iadd, 1) := by decide +kernel
theorem d_MO_fillOne_173 : decode b_MO_fillOne 173 = .ok (.istore 11, 2) := by decide +kernel
theorem d_MO_fillOne_175 : decode b_MO_fillOne 175 = .ok (.iload 9, 2) := by decide +kernel
theorem d_MO_fillOne_177 : decode b_MO_fillOne 177 = .ok (.ifCond .le 53, 3) := by decide +kernel
theorem d_MO_fillOne_180 : decode b_MO_fillOne 180 = .ok (.iload_n 2, 1) := by decide +kernel
theorem d_MO_fillOne_181 : decode b_MO_fillOne 181 = .ok (.ifCond .ne 15, 3) := by decide +kernel
theorem d_MO_fillOne_184 : decode b_MO_fillOne 184 = .ok (.iload_n 1, 1) := by decide +kernel
theorem d_MO_fillOne_185 : decode b_MO_fillOne 185 = .ok (.iconst 0, 1) := by decide +kernel
theorem d_MO_fillOne_186 : decode b_MO_fillOne 186 = .ok (.iload 9, 2) := by decide +kernel
theorem d_MO_fillOne_188 : decode b_MO_fillOne 188 = .ok (.iload 4, 2) := by decide +kernel
theorem d_MO_fillOne_190 : decode b_MO_fillOne 190 = .ok (.invokestatic 116, 3) := by decide +kernel
theorem d_MO_fillOne_193 : decode b_MO_fillOne 193 = .ok (.goto 11, 3) := by decide +kernel
theorem d_MO_fillOne_196 : decode b_MO_fillOne 196 = .ok (.iload_n 1, 1) := by decide +kernel
theorem d_MO_fillOne_197 : decode b_MO_fillOne 197 = .ok (.iconst 1, 1) := by decide +kernel
theorem d_MO_fillOne_198 : decode b_MO_fillOne 198 = .ok (.iload_n 3, 1) := by decide +kernel
theorem d_MO_fillOne_199 : decode b_MO_fillOne 199 = .ok (.iload 9, 2) := by decide +kernel
theorem d_MO_fillOne_201 : decode b_MO_fillOne 201 = .ok (.invokestatic 116, 3) := by decide +kernel
theorem d_MO_fillOne_204 : decode b_MO_fillOne 204 = .ok (.istore 12, 2) := by decide +kernel
theorem d_MO_fillOne_206 : decode b_MO_fillOne 206 = .ok (.iload 10, 2) := by decide +kernel
theorem d_MO_fillOne_208 : decode b_MO_fillOne 208 = .ok (.aload_n 0, 1) := by decide +kernel
theorem d_MO_fillOne_209 : decode b_MO_fillOne 209 = .ok (.getfield 44, 3) := by decide +kernel
theorem d_MO_fillOne_212 : decode b_MO_fillOne 212 = .ok (.iload 12, 2) := by decide +kernel
theorem d_MO_fillOne_214 : decode b_MO_fillOne 214 = .ok (.iaload, 1) := by decide +kernel
theorem d_MO_fillOne_215 : decode b_MO_fillOne 215 = .ok (.iadd, 1) := by decide +kernel
theorem d_MO_fillOne_216 : decode b_MO_fillOne 216 = .ok (.istore 10, 2) := by decide +kernel
theorem d_MO_fillOne_218 : decode b_MO_fillOne 218 = .ok (.iload 11, 2) := by decide +kernel
theorem d_MO_fillOne_220 : decode b_MO_fillOne 220 = .ok (.aload_n 0, 1) := by decide +kernel
theorem d_MO_fillOne_221 : decode b_MO_fillOne 221 = .ok (.getfield 47, 3) := by decide +kernel
theorem d_MO_fillOne_224 : decode b_MO_fillOne 224 = .ok (.iload 12, 2) := by decide +kernel
theorem d_MO_fillOne_226 : decode b_MO_fillOne 226 = .ok (.iaload, 1) := by decide +kernel
theorem d_MO_fillOne_227 : decode b_MO_fillOne 227 = .ok (.iadd, 1) := by decide +kernel
theorem d_MO_fillOne_228 : decode b_MO_fillOne 228 = .ok (.istore 11, 2) := by decide +kernel
theorem d_MO_fillOne_230 : decode b_MO_fillOne 230 = .ok (.aload_n 0, 1) := by decide +kernel
theorem d_MO_fillOne_231 : decode b_MO_fillOne 231 = .ok (.iload 5, 2) := by decide +kernel
theorem d_MO_fillOne_233 : decode b_MO_fillOne 233 = .ok (.iload 10, 2) := by decide +kernel
theorem d_MO_fillOne_235 : decode b_MO_fillOne 235 = .ok (.iload 11, 2) := by decide +kernel
theorem d_MO_fillOne_237 : decode b_MO_fillOne 237 = .ok (.bipush 16, 2) := by decide +kernel
theorem d_MO_fillOne_239 : decode b_MO_fillOne 239 = .ok (.iload 7, 2) := by decide +kernel
theorem d_MO_fillOne_241 : decode b_MO_fillOne 241 = .ok (.iadd, 1) := by decide +kernel
theorem d_MO_fillOne_242 : decode b_MO_fillOne 242 = .ok (.invokevirtual 123, 3) := by decide +kernel
theorem d_MO_fillOne_245 : decode b_MO_fillOne 245 = .ok (.iinc 7 1, 3) := by decide +kernel
theorem d_MO_fillOne_248 : decode b_MO_fillOne 248 = .ok (.goto (-146), 3) := by decide +kernel
theorem d_MO_fillOne_251 : decode b_MO_fillOne 251 = .ok (.return_, 1) := by decide +kernel
theorem d_MO_fill_0 : decode b_MO_fill 0 = .ok (.iconst 0, 1) := by decide +kernel
theorem d_MO_fill_1 : decode b_MO_fill 1 = .ok (.istore_n 1, 1) := by decide +kernel
theorem d_MO_fill_2 : decode b_MO_fill 2 = .ok (.iload_n 1, 1) := by decide +kernel
theorem d_MO_fill_3 : decode b_MO_fill 3 = .ok (.iconst 4, 1) := by decide +kernel
theorem d_MO_fill_4 : decode b_MO_fill 4 = .ok (.if_icmp .ge 61, 3) := by decide +kernel
theorem d_MO_fill_7 : decode b_MO_fill 7 = .ok (.iconst 0, 1) := by decide +kernel
theorem d_MO_fill_8 : decode b_MO_fill 8 = .ok (.istore_n 2, 1) := by decide +kernel
theorem d_MO_fill_9 : decode b_MO_fill 9 = .ok (.iload_n 2, 1) := by decide +kernel
theorem d_MO_fill_10 : decode b_MO_fill 10 = .ok (.iconst 2, 1) := by decide +kernel
theorem d_MO_fill_11 : decode b_MO_fill 11 = .ok (.if_icmp .ge 48, 3) := by decide +kernel
theorem d_MO_fill_14 : decode b_MO_fill 14 = .ok (.iconst 1, 1) := by decide +kernel
theorem d_MO_fill_15 : decode b_MO_fill 15 = .ok (.istore_n 3, 1) := by decide +kernel
theorem d_MO_fill_16 : decode b_MO_fill 16 = .ok (.iload_n 3, 1) := by decide +kernel
theorem d_MO_fill_17 : decode b_MO_fill 17 = .ok (.bipush 17, 2) := by decide +kernel
theorem d_MO_fill_19 : decode b_MO_fill 19 = .ok (.if_icmp .ge 34, 3) := by decide +kernel
theorem d_MO_fill_22 : decode b_MO_fill 22 = .ok (.iconst 1, 1) := by decide +kernel
theorem d_MO_fill_23 : decode b_MO_fill 23 = .ok (.istore 4, 2) := by decide +kernel
theorem d_MO_fill_25 : decode b_MO_fill 25 = .ok (.iload 4, 2) := by decide +kernel
theorem d_MO_fill_27 : decode b_MO_fill 27 = .ok (.bipush 17, 2) := by decide +kernel
theorem d_MO_fill_29 : decode b_MO_fill 29 = .ok (.if_icmp .ge 18, 3) := by decide +kernel
theorem d_MO_fill_32 : decode b_MO_fill 32 = .ok (.aload_n 0, 1) := by decide +kernel
theorem d_MO_fill_33 : decode b_MO_fill 33 = .ok (.iload_n 1, 1) := by decide +kernel
theorem d_MO_fill_34 : decode b_MO_fill 34 = .ok (.iload_n 2, 1) := by decide +kernel
theorem d_MO_fill_35 : decode b_MO_fill 35 = .ok (.iload 4, 2) := by decide +kernel
theorem d_MO_fill_37 : decode b_MO_fill 37 = .ok (.iload_n 3, 1) := by decide +kernel
theorem d_MO_fill_38 : decode b_MO_fill 38 = .ok (.invokevirtual 127, 3) := by decide +kernel
theorem d_MO_fill_41 : decode b_MO_fill 41 = .ok (.iinc 4 1, 3) := by decide +kernel
theorem d_MO_fill_44 : decode b_MO_fill 44 = .ok (.goto (-19), 3) := by decide +kernel
theorem d_MO_fill_47 : decode b_MO_fill 47 = .ok (.iinc 3 1, 3) := by decide +kernel
theorem d_MO_fill_50 : decode b_MO_fill 50 = .ok (.goto (-34), 3) := by decide +kernel
theorem d_MO_fill_53 : decode b_MO_fill 53 = .ok (.iinc 2 1, 3) := by decide +kernel
theorem d_MO_fill_56 : decode b_MO_fill 56 = .ok (.goto (-47), 3) := by decide +kernel
theorem d_MO_fill_59 : decode b_MO_fill 59 = .ok (.iinc 1 1, 3) := by decide +kernel
theorem d_MO_fill_62 : decode b_MO_fill 62 = .ok (.goto (-60), 3) := by decide +kernel
theorem d_MO_fill_65 : decode b_MO_fill 65 = .ok (.return_, 1) := by decide +kernel
theorem d_MO_wantAll_0 : decode b_MO_wantAll 0 = .ok (.iconst 0, 1) := by decide +kernel
theorem d_MO_wantAll_1 : decode b_MO_wantAll 1 = .ok (.istore_n 1, 1) := by decide +kernel
theorem d_MO_wantAll_2 : decode b_MO_wantAll 2 = .ok (.iload_n 1, 1) := by decide +kernel
theorem d_MO_wantAll_3 : decode b_MO_wantAll 3 = .ok (.bipush 8, 2) := by decide +kernel
theorem d_MO_wantAll_5 : decode b_MO_wantAll 5 = .ok (.if_icmp .ge 33, 3) := by decide +kernel
theorem d_MO_wantAll_8 : decode b_MO_wantAll 8 = .ok (.aload_n 0, 1) := by decide +kernel
theorem d_MO_wantAll_9 : decode b_MO_wantAll 9 = .ok (.getfield 35, 3) := by decide +kernel
theorem d_MO_wantAll_12 : decode b_MO_wantAll 12 = .ok (.iload_n 1, 1) := by decide +kernel
theorem d_MO_wantAll_13 : decode b_MO_wantAll 13 = .ok (.iload_n 1, 1) := by decide +kernel
theorem d_MO_wantAll_14 : decode b_MO_wantAll 14 = .ok (.aload_n 0, 1) := by decide +kernel
theorem d_MO_wantAll_15 : decode b_MO_wantAll 15 = .ok (.getfield 113, 3) := by decide +kernel
theorem d_MO_wantAll_18 : decode b_MO_wantAll 18 = .ok (.if_icmp .ge 12, 3) := by decide +kernel
theorem d_MO_wantAll_21 : decode b_MO_wantAll 21 = .ok (.aload_n 0, 1) := by decide +kernel
theorem d_MO_wantAll_22 : decode b_MO_wantAll 22 = .ok (.getfield 28, 3) := by decide +kernel
theorem d_MO_wantAll_25 : decode b_MO_wantAll 25 = .ok (.iload_n 1, 1) := by decide +kernel
theorem d_MO_wantAll_26 : decode b_MO_wantAll 26 = .ok (.iaload, 1) := by decide +kernel
theorem d_MO_wantAll_27 : decode b_MO_wantAll 27 = .ok (.goto 4, 3) := by decide +kernel
theorem d_MO_wantAll_30 : decode b_MO_wantAll 30 = .ok (.iconst 0, 1) := by decide +kernel
theorem d_MO_wantAll_31 : decode b_MO_wantAll 31 = .ok (.iastore, 1) := by decide +kernel
theorem d_MO_wantAll_32 : decode b_MO_wantAll 32 = .ok (.iinc 1 1, 3) := by decide +kernel
theorem d_MO_wantAll_35 : decode b_MO_wantAll 35 = .ok (.goto (-33), 3) := by decide +kernel
theorem d_MO_wantAll_38 : decode b_MO_wantAll 38 = .ok (.return_, 1) := by decide +kernel
theorem d_MO_worth_0 : decode b_MO_worth 0 = .ok (.aload_n 0, 1) := by decide +kernel
theorem d_MO_worth_1 : decode b_MO_worth 1 = .ok (.iload_n 1, 1) := by decide +kernel
theorem d_MO_worth_2 : decode b_MO_worth 2 = .ok (.iconst 1, 1) := by decide +kernel
theorem d_MO_worth_3 : decode b_MO_worth 3 = .ok (.bipush 16, 2) := by decide +kernel
theorem d_MO_worth_5 : decode b_MO_worth 5 = .ok (.invokestatic 102, 3) := by decide +kernel
theorem d_MO_worth_8 : decode b_MO_worth 8 = .ok (.ifCond .eq 36, 3) := by decide +kernel
theorem d_MO_worth_11 : decode b_MO_worth 11 = .ok (.iload_n 2, 1) := by decide +kernel
theorem d_MO_worth_12 : decode b_MO_worth 12 = .ok (.iconst 1, 1) := by decide +kernel
theorem d_MO_worth_13 : decode b_MO_worth 13 = .ok (.bipush 16, 2) := by decide +kernel
theorem d_MO_worth_15 : decode b_MO_worth 15 = .ok (.invokestatic 102, 3) := by decide +kernel
theorem d_MO_worth_18 : decode b_MO_worth 18 = .ok (.ifCond .eq 26, 3) := by decide +kernel
theorem d_MO_worth_21 : decode b_MO_worth 21 = .ok (.iload_n 3, 1) := by decide +kernel
theorem d_MO_worth_22 : decode b_MO_worth 22 = .ok (.iconst 0, 1) := by decide +kernel
theorem d_MO_worth_23 : decode b_MO_worth 23 = .ok (.iconst 1, 1) := by decide +kernel
theorem d_MO_worth_24 : decode b_MO_worth 24 = .ok (.invokestatic 102, 3) := by decide +kernel
theorem d_MO_worth_27 : decode b_MO_worth 27 = .ok (.ifCond .eq 17, 3) := by decide +kernel
theorem d_MO_worth_30 : decode b_MO_worth 30 = .ok (.iload 4, 2) := by decide +kernel
theorem d_MO_worth_32 : decode b_MO_worth 32 = .ok (.iconst 0, 1) := by decide +kernel
theorem d_MO_worth_33 : decode b_MO_worth 33 = .ok (.iconst 3, 1) := by decide +kernel
theorem d_MO_worth_34 : decode b_MO_worth 34 = .ok (.invokestatic 102, 3) := by decide +kernel
theorem d_MO_worth_37 : decode b_MO_worth 37 = .ok (.ifCond .eq 7, 3) := by decide +kernel
theorem d_MO_worth_40 : decode b_MO_worth 40 = .ok (.iconst 0, 1) := by decide +kernel
theorem d_MO_worth_41 : decode b_MO_worth 41 = .ok (.goto 4, 3) := by decide +kernel
theorem d_MO_worth_44 : decode b_MO_worth 44 = .ok (.iconst 1, 1) := by decide +kernel
theorem d_MO_worth_45 : decode b_MO_worth 45 = .ok (.putfield 99, 3) := by decide +kernel
theorem d_MO_worth_48 : decode b_MO_worth 48 = .ok (.aload_n 0, 1) := by decide +kernel
theorem d_MO_worth_49 : decode b_MO_worth 49 = .ok (.getfield 99, 3) := by decide +kernel
theorem d_MO_worth_52 : decode b_MO_worth 52 = .ok (.ifCond .le 5, 3) := by decide +kernel
theorem d_MO_worth_55 : decode b_MO_worth 55 = .ok (.iconst 0, 1) := by decide +kernel
theorem d_MO_worth_56 : decode b_MO_worth 56 = .ok (.ireturn, 1) := by decide +kernel
theorem d_MO_worth_57 : decode b_MO_worth 57 = .ok (.iconst 0, 1) := by decide +kernel
theorem d_MO_worth_58 : decode b_MO_worth 58 = .ok (.istore 5, 2) := by decide +kernel
theorem d_MO_worth_60 : decode b_MO_worth 60 = .ok (.iload 5, 2) := by decide +kernel
theorem d_MO_worth_62 : decode b_MO_worth 62 = .ok (.bipush 8, 2) := by decide +kernel
theorem d_MO_worth_64 : decode b_MO_worth 64 = .ok (.if_icmp .ge 23, 3) := by decide +kernel
theorem d_MO_worth_67 : decode b_MO_worth 67 = .ok (.aload_n 0, 1) := by decide +kernel
theorem d_MO_worth_68 : decode b_MO_worth 68 = .ok (.getfield 41, 3) := by decide +kernel
theorem d_MO_worth_71 : decode b_MO_worth 71 = .ok (.iload 5, 2) := by decide +kernel
theorem d_MO_worth_73 : decode b_MO_worth 73 = .ok (.aload_n 0, 1) := by decide +kernel
theorem d_MO_worth_74 : decode b_MO_worth 74 = .ok (.getfield 35, 3) := by decide +kernel
theorem d_MO_worth_77 : decode b_MO_worth 77 = .ok (.iload 5, 2) := by decide +kernel
theorem d_MO_worth_79 : decode b_MO_worth 79 = .ok (.iaload, 1) := by decide +kernel
theorem d_MO_worth_80 : decode b_MO_worth 80 = .ok (.iastore, 1) := by decide +kernel
theorem d_MO_worth_81 : decode b_MO_worth 81 = .ok (.iinc 5 1, 3) := by decide +kernel
theorem d_MO_worth_84 : decode b_MO_worth 84 = .ok (.goto (-24), 3) := by decide +kernel
theorem d_MO_worth_87 : decode b_MO_worth 87 = .ok (.aload_n 0, 1) := by decide +kernel
theorem d_MO_worth_88 : decode b_MO_worth 88 = .ok (.invokevirtual 130, 3) := by decide +kernel
theorem d_MO_worth_91 : decode b_MO_worth 91 = .ok (.aload_n 0, 1) := by decide +kernel
theorem d_MO_worth_92 : decode b_MO_worth 92 = .ok (.invokevirtual 133, 3) := by decide +kernel
theorem d_MO_worth_95 : decode b_MO_worth 95 = .ok (.iconst 0, 1) := by decide +kernel
theorem d_MO_worth_96 : decode b_MO_worth 96 = .ok (.istore 5, 2) := by decide +kernel
theorem d_MO_worth_98 : decode b_MO_worth 98 = .ok (.iload 5, 2) := by decide +kernel
theorem d_MO_worth_100 : decode b_MO_worth 100 = .ok (.bipush 8, 2) := by decide +kernel
theorem d_MO_worth_102 : decode b_MO_worth 102 = .ok (.if_icmp .ge 23, 3) := by decide +kernel
theorem d_MO_worth_105 : decode b_MO_worth 105 = .ok (.aload_n 0, 1) := by decide +kernel
theorem d_MO_worth_106 : decode b_MO_worth 106 = .ok (.getfield 35, 3) := by decide +kernel
theorem d_MO_worth_109 : decode b_MO_worth 109 = .ok (.iload 5, 2) := by decide +kernel
theorem d_MO_worth_111 : decode b_MO_worth 111 = .ok (.aload_n 0, 1) := by decide +kernel
theorem d_MO_worth_112 : decode b_MO_worth 112 = .ok (.getfield 41, 3) := by decide +kernel
theorem d_MO_worth_115 : decode b_MO_worth 115 = .ok (.iload 5, 2) := by decide +kernel
theorem d_MO_worth_117 : decode b_MO_worth 117 = .ok (.iaload, 1) := by decide +kernel
theorem d_MO_worth_118 : decode b_MO_worth 118 = .ok (.iastore, 1) := by decide +kernel
theorem d_MO_worth_119 : decode b_MO_worth 119 = .ok (.iinc 5 1, 3) := by decide +kernel
theorem d_MO_worth_122 : decode b_MO_worth 122 = .ok (.goto (-24), 3) := by decide +kernel
theorem d_MO_worth_125 : decode b_MO_worth 125 = .ok (.aload_n 0, 1) := by decide +kernel
theorem d_MO_worth_126 : decode b_MO_worth 126 = .ok (.getfield 44, 3) := by decide +kernel
theorem d_MO_worth_129 : decode b_MO_worth 129 = .ok (.iload 4, 2) := by decide +kernel
theorem d_MO_worth_131 : decode b_MO_worth 131 = .ok (.iload_n 3, 1) := by decide +kernel
theorem d_MO_worth_132 : decode b_MO_worth 132 = .ok (.iload_n 1, 1) := by decide +kernel
theorem d_MO_worth_133 : decode b_MO_worth 133 = .ok (.iload_n 2, 1) := by decide +kernel
theorem d_MO_worth_134 : decode b_MO_worth 134 = .ok (.invokestatic 116, 3) := by decide +kernel
theorem d_MO_worth_137 : decode b_MO_worth 137 = .ok (.iaload, 1) := by decide +kernel
theorem d_MO_worth_138 : decode b_MO_worth 138 = .ok (.ireturn, 1) := by decide +kernel
theorem d_MO_wayOf_0 : decode b_MO_wayOf 0 = .ok (.aload_n 0, 1) := by decide +kernel
theorem d_MO_wayOf_1 : decode b_MO_wayOf 1 = .ok (.getfield 93, 3) := by decide +kernel
theorem d_MO_wayOf_4 : decode b_MO_wayOf 4 = .ok (.iconst 0, 1) := by decide +kernel
theorem d_MO_wayOf_5 : decode b_MO_wayOf 5 = .ok (.aload_n 0, 1) := by decide +kernel
theorem d_MO_wayOf_6 : decode b_MO_wayOf 6 = .ok (.getfield 7, 3) := by decide +kernel
theorem d_MO_wayOf_9 : decode b_MO_wayOf 9 = .ok (.iload_n 1, 1) := by decide +kernel
theorem d_MO_wayOf_10 : decode b_MO_wayOf 10 = .ok (.iaload, 1) := by decide +kernel
theorem d_MO_wayOf_11 : decode b_MO_wayOf 11 = .ok (.aload_n 0, 1) := by decide +kernel
theorem d_MO_wayOf_12 : decode b_MO_wayOf 12 = .ok (.getfield 13, 3) := by decide +kernel
theorem d_MO_wayOf_15 : decode b_MO_wayOf 15 = .ok (.iload_n 1, 1) := by decide +kernel
theorem d_MO_wayOf_16 : decode b_MO_wayOf 16 = .ok (.iaload, 1) := by decide +kernel
theorem d_MO_wayOf_17 : decode b_MO_wayOf 17 = .ok (.invokestatic 116, 3) := by decide +kernel
theorem d_MO_wayOf_20 : decode b_MO_wayOf 20 = .ok (.istore_n 2, 1) := by decide +kernel
theorem d_MO_wayOf_21 : decode b_MO_wayOf 21 = .ok (.aload_n 0, 1) := by decide +kernel
theorem d_MO_wayOf_22 : decode b_MO_wayOf 22 = .ok (.getfield 93, 3) := by decide +kernel
theorem d_MO_wayOf_25 : decode b_MO_wayOf 25 = .ok (.iconst 1, 1) := by decide +kernel
theorem d_MO_wayOf_26 : decode b_MO_wayOf 26 = .ok (.aload_n 0, 1) := by decide +kernel
theorem d_MO_wayOf_27 : decode b_MO_wayOf 27 = .ok (.getfield 7, 3) := by decide +kernel
theorem d_MO_wayOf_30 : decode b_MO_wayOf 30 = .ok (.iload_n 1, 1) := by decide +kernel
theorem d_MO_wayOf_31 : decode b_MO_wayOf 31 = .ok (.iaload, 1) := by decide +kernel
theorem d_MO_wayOf_32 : decode b_MO_wayOf 32 = .ok (.aload_n 0, 1) := by decide +kernel
theorem d_MO_wayOf_33 : decode b_MO_wayOf 33 = .ok (.getfield 13, 3) := by decide +kernel
theorem d_MO_wayOf_36 : decode b_MO_wayOf 36 = .ok (.iload_n 1, 1) := by decide +kernel
theorem d_MO_wayOf_37 : decode b_MO_wayOf 37 = .ok (.iaload, 1) := by decide +kernel
theorem d_MO_wayOf_38 : decode b_MO_wayOf 38 = .ok (.invokestatic 116, 3) := by decide +kernel
theorem d_MO_wayOf_41 : decode b_MO_wayOf 41 = .ok (.istore_n 3, 1) := by decide +kernel
theorem d_MO_wayOf_42 : decode b_MO_wayOf 42 = .ok (.aload_n 0, 1) := by decide +kernel
theorem d_MO_wayOf_43 : decode b_MO_wayOf 43 = .ok (.getfield 44, 3) := by decide +kernel
theorem d_MO_wayOf_46 : decode b_MO_wayOf 46 = .ok (.iload_n 3, 1) := by decide +kernel
theorem d_MO_wayOf_47 : decode b_MO_wayOf 47 = .ok (.iaload, 1) := by decide +kernel
theorem d_MO_wayOf_48 : decode b_MO_wayOf 48 = .ok (.aload_n 0, 1) := by decide +kernel
theorem d_MO_wayOf_49 : decode b_MO_wayOf 49 = .ok (.getfield 44, 3) := by decide +kernel
theorem d_MO_wayOf_52 : decode b_MO_wayOf 52 = .ok (.iload_n 2, 1) := by decide +kernel
theorem d_MO_wayOf_53 : decode b_MO_wayOf 53 = .ok (.iaload, 1) := by decide +kernel
theorem d_MO_wayOf_54 : decode b_MO_wayOf 54 = .ok (.if_icmp .gt 33, 3) := by decide +kernel
theorem d_MO_wayOf_57 : decode b_MO_wayOf 57 = .ok (.aload_n 0, 1) := by decide +kernel
theorem d_MO_wayOf_58 : decode b_MO_wayOf 58 = .ok (.getfield 44, 3) := by decide +kernel
theorem d_MO_wayOf_61 : decode b_MO_wayOf 61 = .ok (.iload_n 3, 1) := by decide +kernel
theorem d_MO_wayOf_62 : decode b_MO_wayOf 62 = .ok (.iaload, 1) := by decide +kernel
theorem d_MO_wayOf_63 : decode b_MO_wayOf 63 = .ok (.aload_n 0, 1) := by decide +kernel
theorem d_MO_wayOf_64 : decode b_MO_wayOf 64 = .ok (.getfield 44, 3) := by decide +kernel
theorem d_MO_wayOf_67 : decode b_MO_wayOf 67 = .ok (.iload_n 2, 1) := by decide +kernel
theorem d_MO_wayOf_68 : decode b_MO_wayOf 68 = .ok (.iaload, 1) := by decide +kernel
theorem d_MO_wayOf_69 : decode b_MO_wayOf 69 = .ok (.if_icmp .ne 22, 3) := by decide +kernel
theorem d_MO_wayOf_72 : decode b_MO_wayOf 72 = .ok (.aload_n 0, 1) := by decide +kernel
theorem d_MO_wayOf_73 : decode b_MO_wayOf 73 = .ok (.getfield 47, 3) := by decide +kernel
theorem d_MO_wayOf_76 : decode b_MO_wayOf 76 = .ok (.iload_n 3, 1) := by decide +kernel
theorem d_MO_wayOf_77 : decode b_MO_wayOf 77 = .ok (.iaload, 1) := by decide +kernel
theorem d_MO_wayOf_78 : decode b_MO_wayOf 78 = .ok (.aload_n 0, 1) := by decide +kernel
theorem d_MO_wayOf_79 : decode b_MO_wayOf 79 = .ok (.getfield 47, 3) := by decide +kernel
theorem d_MO_wayOf_82 : decode b_MO_wayOf 82 = .ok (.iload_n 2, 1) := by decide +kernel
theorem d_MO_wayOf_83 : decode b_MO_wayOf 83 = .ok (.iaload, 1) := by decide +kernel
theorem d_MO_wayOf_84 : decode b_MO_wayOf 84 = .ok (.if_icmp .ge 7, 3) := by decide +kernel
theorem d_MO_wayOf_87 : decode b_MO_wayOf 87 = .ok (.iconst 1, 1) := by decide +kernel
theorem d_MO_wayOf_88 : decode b_MO_wayOf 88 = .ok (.goto 4, 3) := by decide +kernel
theorem d_MO_wayOf_91 : decode b_MO_wayOf 91 = .ok (.iconst 0, 1) := by decide +kernel
theorem d_MO_wayOf_92 : decode b_MO_wayOf 92 = .ok (.ireturn, 1) := by decide +kernel
theorem d_MO_push_0 : decode b_MO_push 0 = .ok (.aload_n 0, 1) := by decide +kernel
theorem d_MO_push_1 : decode b_MO_push 1 = .ok (.getfield 53, 3) := by decide +kernel
theorem d_MO_push_4 : decode b_MO_push 4 = .ok (.bipush 6, 2) := by decide +kernel
theorem d_MO_push_6 : decode b_MO_push 6 = .ok (.iload_n 1, 1) := by decide +kernel
theorem d_MO_push_7 : decode b_MO_push 7 = .ok (.imul, 1) := by decide +kernel
theorem d_MO_push_8 : decode b_MO_push 8 = .ok (.iload_n 2, 1) := by decide +kernel
theorem d_MO_push_9 : decode b_MO_push 9 = .ok (.iastore, 1) := by decide +kernel
theorem d_MO_push_10 : decode b_MO_push 10 = .ok (.aload_n 0, 1) := by decide +kernel
theorem d_MO_push_11 : decode b_MO_push 11 = .ok (.getfield 53, 3) := by decide +kernel
theorem d_MO_push_14 : decode b_MO_push 14 = .ok (.bipush 6, 2) := by decide +kernel
theorem d_MO_push_16 : decode b_MO_push 16 = .ok (.iload_n 1, 1) := by decide +kernel
theorem d_MO_push_17 : decode b_MO_push 17 = .ok (.imul, 1) := by decide +kernel
theorem d_MO_push_18 : decode b_MO_push 18 = .ok (.iconst 1, 1) := by decide +kernel
theorem d_MO_push_19 : decode b_MO_push 19 = .ok (.iadd, 1) := by decide +kernel
theorem d_MO_push_20 : decode b_MO_push 20 = .ok (.iload_n 3, 1) := by decide +kernel
theorem d_MO_push_21 : decode b_MO_push 21 = .ok (.iastore, 1) := by decide +kernel
theorem d_MO_push_22 : decode b_MO_push 22 = .ok (.aload_n 0, 1) := by decide +kernel
theorem d_MO_push_23 : decode b_MO_push 23 = .ok (.getfield 53, 3) := by decide +kernel
theorem d_MO_push_26 : decode b_MO_push 26 = .ok (.bipush 6, 2) := by decide +kernel
theorem d_MO_push_28 : decode b_MO_push 28 = .ok (.iload_n 1, 1) := by decide +kernel
theorem d_MO_push_29 : decode b_MO_push 29 = .ok (.imul, 1) := by decide +kernel
theorem d_MO_push_30 : decode b_MO_push 30 = .ok (.iconst 2, 1) := by decide +kernel
theorem d_MO_push_31 : decode b_MO_push 31 = .ok (.iadd, 1) := by decide +kernel
theorem d_MO_push_32 : decode b_MO_push 32 = .ok (.iload 4, 2) := by decide +kernel
theorem d_MO_push_34 : decode b_MO_push 34 = .ok (.iastore, 1) := by decide +kernel
theorem d_MO_push_35 : decode b_MO_push 35 = .ok (.aload_n 0, 1) := by decide +kernel
theorem d_MO_push_36 : decode b_MO_push 36 = .ok (.getfield 53, 3) := by decide +kernel
theorem d_MO_push_39 : decode b_MO_push 39 = .ok (.bipush 6, 2) := by decide +kernel
theorem d_MO_push_41 : decode b_MO_push 41 = .ok (.iload_n 1, 1) := by decide +kernel
theorem d_MO_push_42 : decode b_MO_push 42 = .ok (.imul, 1) := by decide +kernel
theorem d_MO_push_43 : decode b_MO_push 43 = .ok (.iconst 3, 1) := by decide +kernel
theorem d_MO_push_44 : decode b_MO_push 44 = .ok (.iadd, 1) := by decide +kernel
theorem d_MO_push_45 : decode b_MO_push 45 = .ok (.iload 5, 2) := by decide +kernel
theorem d_MO_push_47 : decode b_MO_push 47 = .ok (.iastore, 1) := by decide +kernel
theorem d_MO_push_48 : decode b_MO_push 48 = .ok (.aload_n 0, 1) := by decide +kernel
theorem d_MO_push_49 : decode b_MO_push 49 = .ok (.getfield 53, 3) := by decide +kernel
theorem d_MO_push_52 : decode b_MO_push 52 = .ok (.bipush 6, 2) := by decide +kernel
theorem d_MO_push_54 : decode b_MO_push 54 = .ok (.iload_n 1, 1) := by decide +kernel
theorem d_MO_push_55 : decode b_MO_push 55 = .ok (.imul, 1) := by decide +kernel
theorem d_MO_push_56 : decode b_MO_push 56 = .ok (.iconst 4, 1) := by decide +kernel
theorem d_MO_push_57 : decode b_MO_push 57 = .ok (.iadd, 1) := by decide +kernel
theorem d_MO_push_58 : decode b_MO_push 58 = .ok (.iload 6, 2) := by decide +kernel
theorem d_MO_push_60 : decode b_MO_push 60 = .ok (.iastore, 1) := by decide +kernel
theorem d_MO_push_61 : decode b_MO_push 61 = .ok (.aload_n 0, 1) := by decide +kernel
theorem d_MO_push_62 : decode b_MO_push 62 = .ok (.getfield 53, 3) := by decide +kernel
theorem d_MO_push_65 : decode b_MO_push 65 = .ok (.bipush 6, 2) := by decide +kernel
theorem d_MO_push_67 : decode b_MO_push 67 = .ok (.iload_n 1, 1) := by decide +kernel
theorem d_MO_push_68 : decode b_MO_push 68 = .ok (.imul, 1) := by decide +kernel
theorem d_MO_push_69 : decode b_MO_push 69 = .ok (.iconst 5, 1) := by decide +kernel
theorem d_MO_push_70 : decode b_MO_push 70 = .ok (.iadd, 1) := by decide +kernel
theorem d_MO_push_71 : decode b_MO_push 71 = .ok (.iload 7, 2) := by decide +kernel
theorem d_MO_push_73 : decode b_MO_push 73 = .ok (.iastore, 1) := by decide +kernel
theorem d_MO_push_74 : decode b_MO_push 74 = .ok (.return_, 1) := by decide +kernel
theorem d_MO_walk_0 : decode b_MO_walk 0 = .ok (.iconst 0, 1) := by decide +kernel
theorem d_MO_walk_1 : decode b_MO_walk 1 = .ok (.istore_n 3, 1) := by decide +kernel
theorem d_MO_walk_2 : decode b_MO_walk 2 = .ok (.iload_n 3, 1) := by decide +kernel
theorem d_MO_walk_3 : decode b_MO_walk 3 = .ok (.bipush 8, 2) := by decide +kernel
theorem d_MO_walk_5 : decode b_MO_walk 5 = .ok (.if_icmp .ge 21, 3) := by decide +kernel
theorem d_MO_walk_8 : decode b_MO_walk 8 = .ok (.aload_n 0, 1) := by decide +kernel
theorem d_MO_walk_9 : decode b_MO_walk 9 = .ok (.getfield 41, 3) := by decide +kernel
theorem d_MO_walk_12 : decode b_MO_walk 12 = .ok (.iload_n 3, 1) := by decide +kernel
theorem d_MO_walk_13 : decode b_MO_walk 13 = .ok (.aload_n 0, 1) := by decide +kernel
theorem d_MO_walk_14 : decode b_MO_walk 14 = .ok (.getfield 35, 3) := by decide +kernel
theorem d_MO_walk_17 : decode b_MO_walk 17 = .ok (.iload_n 3, 1) := by decide +kernel
theorem d_MO_walk_18 : decode b_MO_walk 18 = .ok (.iaload, 1) := by decide +kernel
theorem d_MO_walk_19 : decode b_MO_walk 19 = .ok (.iastore, 1) := by decide +kernel
theorem d_MO_walk_20 : decode b_MO_walk 20 = .ok (.iinc 3 1, 3) := by decide +kernel
theorem d_MO_walk_23 : decode b_MO_walk 23 = .ok (.goto (-21), 3) := by decide +kernel
theorem d_MO_walk_26 : decode b_MO_walk 26 = .ok (.aload_n 0, 1) := by decide +kernel
theorem d_MO_walk_27 : decode b_MO_walk 27 = .ok (.getfield 56, 3) := by decide +kernel
theorem d_MO_walk_30 : decode b_MO_walk 30 = .ok (.iload_n 2, 1) := by decide +kernel
theorem d_MO_walk_31 : decode b_MO_walk 31 = .ok (.iload_n 1, 1) := by decide +kernel
theorem d_MO_walk_32 : decode b_MO_walk 32 = .ok (.iastore, 1) := by decide +kernel
theorem d_MO_walk_33 : decode b_MO_walk 33 = .ok (.aload_n 0, 1) := by decide +kernel
theorem d_MO_walk_34 : decode b_MO_walk 34 = .ok (.getfield 59, 3) := by decide +kernel
theorem d_MO_walk_37 : decode b_MO_walk 37 = .ok (.iload_n 2, 1) := by decide +kernel
theorem d_MO_walk_38 : decode b_MO_walk 38 = .ok (.aload_n 0, 1) := by decide +kernel
theorem d_MO_walk_39 : decode b_MO_walk 39 = .ok (.iload_n 1, 1) := by decide +kernel
theorem d_MO_walk_40 : decode b_MO_walk 40 = .ok (.invokevirtual 136, 3) := by decide +kernel
theorem d_MO_walk_43 : decode b_MO_walk 43 = .ok (.iastore, 1) := by decide +kernel
theorem d_MO_walk_44 : decode b_MO_walk 44 = .ok (.aload_n 0, 1) := by decide +kernel
theorem d_MO_walk_45 : decode b_MO_walk 45 = .ok (.getfield 62, 3) := by decide +kernel
theorem d_MO_walk_48 : decode b_MO_walk 48 = .ok (.iload_n 2, 1) := by decide +kernel
theorem d_MO_walk_49 : decode b_MO_walk 49 = .ok (.iconst 0, 1) := by decide +kernel
theorem d_MO_walk_50 : decode b_MO_walk 50 = .ok (.iastore, 1) := by decide +kernel
theorem d_MO_walk_51 : decode b_MO_walk 51 = .ok (.aload_n 0, 1) := by decide +kernel
theorem d_MO_walk_52 : decode b_MO_walk 52 = .ok (.getfield 65, 3) := by decide +kernel
theorem d_MO_walk_55 : decode b_MO_walk 55 = .ok (.iload_n 2, 1) := by decide +kernel
theorem d_MO_walk_56 : decode b_MO_walk 56 = .ok (.iconst 0, 1) := by decide +kernel
theorem d_MO_walk_57 : decode b_MO_walk 57 = .ok (.iastore, 1) := by decide +kernel
theorem d_MO_walk_58 : decode b_MO_walk 58 = .ok (.aload_n 0, 1) := by decide +kernel
theorem d_MO_walk_59 : decode b_MO_walk 59 = .ok (.getfield 68, 3) := by decide +kernel
theorem d_MO_walk_62 : decode b_MO_walk 62 = .ok (.iload_n 2, 1) := by decide +kernel
theorem d_MO_walk_63 : decode b_MO_walk 63 = .ok (.iconst 0, 1) := by decide +kernel
theorem d_MO_walk_64 : decode b_MO_walk 64 = .ok (.iastore, 1) := by decide +kernel
theorem d_MO_walk_65 : decode b_MO_walk 65 = .ok (.aload_n 0, 1) := by decide +kernel
theorem d_MO_walk_66 : decode b_MO_walk 66 = .ok (.getfield 71, 3) := by decide +kernel
theorem d_MO_walk_69 : decode b_MO_walk 69 = .ok (.iload_n 2, 1) := by decide +kernel
theorem d_MO_walk_70 : decode b_MO_walk 70 = .ok (.iconst 0, 1) := by decide +kernel
theorem d_MO_walk_71 : decode b_MO_walk 71 = .ok (.iastore, 1) := by decide +kernel
theorem d_MO_walk_72 : decode b_MO_walk 72 = .ok (.aload_n 0, 1) := by decide +kernel
theorem d_MO_walk_73 : decode b_MO_walk 73 = .ok (.getfield 74, 3) := by decide +kernel
theorem d_MO_walk_76 : decode b_MO_walk 76 = .ok (.iload_n 2, 1) := by decide +kernel
theorem d_MO_walk_77 : decode b_MO_walk 77 = .ok (.iconst 0, 1) := by decide +kernel
theorem d_MO_walk_78 : decode b_MO_walk 78 = .ok (.iastore, 1) := by decide +kernel
theorem d_MO_walk_79 : decode b_MO_walk 79 = .ok (.aload_n 0, 1) := by decide +kernel
theorem d_MO_walk_80 : decode b_MO_walk 80 = .ok (.getfield 77, 3) := by decide +kernel
theorem d_MO_walk_83 : decode b_MO_walk 83 = .ok (.iload_n 2, 1) := by decide +kernel
theorem d_MO_walk_84 : decode b_MO_walk 84 = .ok (.iconst 0, 1) := by decide +kernel
theorem d_MO_walk_85 : decode b_MO_walk 85 = .ok (.iastore, 1) := by decide +kernel
theorem d_MO_walk_86 : decode b_MO_walk 86 = .ok (.aload_n 0, 1) := by decide +kernel
theorem d_MO_walk_87 : decode b_MO_walk 87 = .ok (.iconst 0, 1) := by decide +kernel
theorem d_MO_walk_88 : decode b_MO_walk 88 = .ok (.iconst 0, 1) := by decide +kernel
theorem d_MO_walk_89 : decode b_MO_walk 89 = .ok (.iconst 0, 1) := by decide +kernel
theorem d_MO_walk_90 : decode b_MO_walk 90 = .ok (.aload_n 0, 1) := by decide +kernel
theorem d_MO_walk_91 : decode b_MO_walk 91 = .ok (.getfield 7, 3) := by decide +kernel
theorem d_MO_walk_94 : decode b_MO_walk 94 = .ok (.iload_n 1, 1) := by decide +kernel
theorem d_MO_walk_95 : decode b_MO_walk 95 = .ok (.iaload, 1) := by decide +kernel
theorem d_MO_walk_96 : decode b_MO_walk 96 = .ok (.aload_n 0, 1) := by decide +kernel
theorem d_MO_walk_97 : decode b_MO_walk 97 = .ok (.getfield 13, 3) := by decide +kernel
theorem d_MO_walk_100 : decode b_MO_walk 100 = .ok (.iload_n 1, 1) := by decide +kernel
theorem d_MO_walk_101 : decode b_MO_walk 101 = .ok (.iaload, 1) := by decide +kernel
theorem d_MO_walk_102 : decode b_MO_walk 102 = .ok (.aload_n 0, 1) := by decide +kernel
theorem d_MO_walk_103 : decode b_MO_walk 103 = .ok (.getfield 59, 3) := by decide +kernel
theorem d_MO_walk_106 : decode b_MO_walk 106 = .ok (.iload_n 2, 1) := by decide +kernel
theorem d_MO_walk_107 : decode b_MO_walk 107 = .ok (.iaload, 1) := by decide +kernel
theorem d_MO_walk_108 : decode b_MO_walk 108 = .ok (.aload_n 0, 1) := by decide +kernel
theorem d_MO_walk_109 : decode b_MO_walk 109 = .ok (.getfield 93, 3) := by decide +kernel
theorem d_MO_walk_112 : decode b_MO_walk 112 = .ok (.invokevirtual 140, 3) := by decide +kernel
theorem d_MO_walk_115 : decode b_MO_walk 115 = .ok (.iconst 1, 1) := by decide +kernel
theorem d_MO_walk_116 : decode b_MO_walk 116 = .ok (.istore_n 3, 1) := by decide +kernel
theorem d_MO_walk_117 : decode b_MO_walk 117 = .ok (.iload_n 3, 1) := by decide +kernel
theorem d_MO_walk_118 : decode b_MO_walk 118 = .ok (.ifCond .le 364, 3) := by decide +kernel
theorem d_MO_walk_121 : decode b_MO_walk 121 = .ok (.iinc 3 (-1), 3) := by decide +kernel
theorem d_MO_walk_124 : decode b_MO_walk 124 = .ok (.aload_n 0, 1) := by decide +kernel
theorem d_MO_walk_125 : decode b_MO_walk 125 = .ok (.getfield 53, 3) := by decide +kernel
theorem d_MO_walk_128 : decode b_MO_walk 128 = .ok (.bipush 6, 2) := by decide +kernel
theorem d_MO_walk_130 : decode b_MO_walk 130 = .ok (.iload_n 3, 1) := by decide +kernel
theorem d_MO_walk_131 : decode b_MO_walk 131 = .ok (.imul, 1) := by decide +kernel
theorem d_MO_walk_132 : decode b_MO_walk 132 = .ok (.iaload, 1) := by decide +kernel
theorem d_MO_walk_133 : decode b_MO_walk 133 = .ok (.istore 4, 2) := by decide +kernel
theorem d_MO_walk_135 : decode b_MO_walk 135 = .ok (.aload_n 0, 1) := by decide +kernel
theorem d_MO_walk_136 : decode b_MO_walk 136 = .ok (.getfield 53, 3) := by decide +kernel
theorem d_MO_walk_139 : decode b_MO_walk 139 = .ok (.bipush 6, 2) := by decide +kernel
theorem d_MO_walk_141 : decode b_MO_walk 141 = .ok (.iload_n 3, 1) := by decide +kernel
theorem d_MO_walk_142 : decode b_MO_walk 142 = .ok (.imul, 1) := by decide +kernel
theorem d_MO_walk_143 : decode b_MO_walk 143 = .ok (.iconst 1, 1) := by decide +kernel
theorem d_MO_walk_144 : decode b_MO_walk 144 = .ok (.iadd, 1) := by decide +kernel
theorem d_MO_walk_145 : decode b_MO_walk 145 = .ok (.iaload, 1) := by decide +kernel
theorem d_MO_walk_146 : decode b_MO_walk 146 = .ok (.istore 5, 2) := by decide +kernel
theorem d_MO_walk_148 : decode b_MO_walk 148 = .ok (.aload_n 0, 1) := by decide +kernel
theorem d_MO_walk_149 : decode b_MO_walk 149 = .ok (.getfield 53, 3) := by decide +kernel
theorem d_MO_walk_152 : decode b_MO_walk 152 = .ok (.bipush 6, 2) := by decide +kernel
theorem d_MO_walk_154 : decode b_MO_walk 154 = .ok (.iload_n 3, 1) := by decide +kernel
theorem d_MO_walk_155 : decode b_MO_walk 155 = .ok (.imul, 1) := by decide +kernel
theorem d_MO_walk_156 : decode b_MO_walk 156 = .ok (.iconst 2, 1) := by decide +kernel
theorem d_MO_walk_157 : decode b_MO_walk 157 = .ok (.iadd, 1) := by decide +kernel
theorem d_MO_walk_158 : decode b_MO_walk 158 = .ok (.iaload, 1) := by decide +kernel
theorem d_MO_walk_159 : decode b_MO_walk 159 = .ok (.istore 6, 2) := by decide +kernel
theorem d_MO_walk_161 : decode b_MO_walk 161 = .ok (.aload_n 0, 1) := by decide +kernel
theorem d_MO_walk_162 : decode b_MO_walk 162 = .ok (.getfield 53, 3) := by decide +kernel
theorem d_MO_walk_165 : decode b_MO_walk 165 = .ok (.bipush 6, 2) := by decide +kernel
theorem d_MO_walk_167 : decode b_MO_walk 167 = .ok (.iload_n 3, 1) := by decide +kernel
theorem d_MO_walk_168 : decode b_MO_walk 168 = .ok (.imul, 1) := by decide +kernel
theorem d_MO_walk_169 : decode b_MO_walk 169 = .ok (.iconst 3, 1) := by decide +kernel
theorem d_MO_walk_170 : decode b_MO_walk 170 = .ok (.iadd, 1) := by decide +kernel
theorem d_MO_walk_171 : decode b_MO_walk 171 = .ok (.iaload, 1) := by decide +kernel
theorem d_MO_walk_172 : decode b_MO_walk 172 = .ok (.istore 7, 2) := by decide +kernel
theorem d_MO_walk_174 : decode b_MO_walk 174 = .ok (.aload_n 0, 1) := by decide +kernel
theorem d_MO_walk_175 : decode b_MO_walk 175 = .ok (.getfield 53, 3) := by decide +kernel
theorem d_MO_walk_178 : decode b_MO_walk 178 = .ok (.bipush 6, 2) := by decide +kernel
theorem d_MO_walk_180 : decode b_MO_walk 180 = .ok (.iload_n 3, 1) := by decide +kernel
theorem d_MO_walk_181 : decode b_MO_walk 181 = .ok (.imul, 1) := by decide +kernel
theorem d_MO_walk_182 : decode b_MO_walk 182 = .ok (.iconst 4, 1) := by decide +kernel
theorem d_MO_walk_183 : decode b_MO_walk 183 = .ok (.iadd, 1) := by decide +kernel
theorem d_MO_walk_184 : decode b_MO_walk 184 = .ok (.iaload, 1) := by decide +kernel
theorem d_MO_walk_185 : decode b_MO_walk 185 = .ok (.istore 8, 2) := by decide +kernel
theorem d_MO_walk_187 : decode b_MO_walk 187 = .ok (.aload_n 0, 1) := by decide +kernel
theorem d_MO_walk_188 : decode b_MO_walk 188 = .ok (.getfield 53, 3) := by decide +kernel
theorem d_MO_walk_191 : decode b_MO_walk 191 = .ok (.bipush 6, 2) := by decide +kernel
theorem d_MO_walk_193 : decode b_MO_walk 193 = .ok (.iload_n 3, 1) := by decide +kernel
theorem d_MO_walk_194 : decode b_MO_walk 194 = .ok (.imul, 1) := by decide +kernel
theorem d_MO_walk_195 : decode b_MO_walk 195 = .ok (.iconst 5, 1) := by decide +kernel
theorem d_MO_walk_196 : decode b_MO_walk 196 = .ok (.iadd, 1) := by decide +kernel
theorem d_MO_walk_197 : decode b_MO_walk 197 = .ok (.iaload, 1) := by decide +kernel
theorem d_MO_walk_198 : decode b_MO_walk 198 = .ok (.istore 9, 2) := by decide +kernel
theorem d_MO_walk_200 : decode b_MO_walk 200 = .ok (.aload_n 0, 1) := by decide +kernel
theorem d_MO_walk_201 : decode b_MO_walk 201 = .ok (.getfield 50, 3) := by decide +kernel
theorem d_MO_walk_204 : decode b_MO_walk 204 = .ok (.iload 9, 2) := by decide +kernel
theorem d_MO_walk_206 : decode b_MO_walk 206 = .ok (.iload 8, 2) := by decide +kernel
theorem d_MO_walk_208 : decode b_MO_walk 208 = .ok (.iload 6, 2) := by decide +kernel
theorem d_MO_walk_210 : decode b_MO_walk 210 = .ok (.iload 7, 2) := by decide +kernel
theorem d_MO_walk_212 : decode b_MO_walk 212 = .ok (.invokestatic 116, 3) := by decide +kernel
theorem d_MO_walk_215 : decode b_MO_walk 215 = .ok (.iaload, 1) := by decide +kernel
theorem d_MO_walk_216 : decode b_MO_walk 216 = .ok (.istore 10, 2) := by decide +kernel
theorem d_MO_walk_218 : decode b_MO_walk 218 = .ok (.aload_n 0, 1) := by decide +kernel
theorem d_MO_walk_219 : decode b_MO_walk 219 = .ok (.getfield 80, 3) := by decide +kernel
theorem d_MO_walk_222 : decode b_MO_walk 222 = .ok (.sipush 600, 3) := by decide +kernel
theorem d_MO_walk_225 : decode b_MO_walk 225 = .ok (.iload_n 2, 1) := by decide +kernel
theorem d_MO_walk_226 : decode b_MO_walk 226 = .ok (.imul, 1) := by decide +kernel
theorem d_MO_walk_227 : decode b_MO_walk 227 = .ok (.aload_n 0, 1) := by decide +kernel
theorem d_MO_walk_228 : decode b_MO_walk 228 = .ok (.getfield 77, 3) := by decide +kernel
theorem d_MO_walk_231 : decode b_MO_walk 231 = .ok (.iload_n 2, 1) := by decide +kernel
theorem d_MO_walk_232 : decode b_MO_walk 232 = .ok (.iaload, 1) := by decide +kernel
theorem d_MO_walk_233 : decode b_MO_walk 233 = .ok (.iadd, 1) := by decide +kernel
theorem d_MO_walk_234 : decode b_MO_walk 234 = .ok (.iload 10, 2) := by decide +kernel
theorem d_MO_walk_236 : decode b_MO_walk 236 = .ok (.iastore, 1) := by decide +kernel
theorem d_MO_walk_237 : decode b_MO_walk 237 = .ok (.aload_n 0, 1) := by decide +kernel
theorem d_MO_walk_238 : decode b_MO_walk 238 = .ok (.getfield 77, 3) := by decide +kernel
theorem d_MO_walk_241 : decode b_MO_walk 241 = .ok (.iload_n 2, 1) := by decide +kernel
theorem d_MO_walk_242 : decode b_MO_walk 242 = .ok (.dup2, 1) := by decide +kernel
theorem d_MO_walk_243 : decode b_MO_walk 243 = .ok (.iaload, 1) := by decide +kernel
theorem d_MO_walk_244 : decode b_MO_walk 244 = .ok (.iconst 1, 1) := by decide +kernel
theorem d_MO_walk_245 : decode b_MO_walk 245 = .ok (.iadd, 1) := by decide +kernel
theorem d_MO_walk_246 : decode b_MO_walk 246 = .ok (.iastore, 1) := by decide +kernel
theorem d_MO_walk_247 : decode b_MO_walk 247 = .ok (.iload 10, 2) := by decide +kernel
theorem d_MO_walk_249 : decode b_MO_walk 249 = .ok (.bipush 16, 2) := by decide +kernel
theorem d_MO_walk_251 : decode b_MO_walk 251 = .ok (.if_icmp .le 191, 3) := by decide +kernel
theorem d_MO_walk_254 : decode b_MO_walk 254 = .ok (.iload 10, 2) := by decide +kernel
theorem d_MO_walk_256 : decode b_MO_walk 256 = .ok (.bipush 16, 2) := by decide +kernel
theorem d_MO_walk_258 : decode b_MO_walk 258 = .ok (.isub, 1) := by decide +kernel
theorem d_MO_walk_259 : decode b_MO_walk 259 = .ok (.istore 11, 2) := by decide +kernel
theorem d_MO_walk_261 : decode b_MO_walk 261 = .ok (.iload 8, 2) := by decide +kernel
theorem d_MO_walk_263 : decode b_MO_walk 263 = .ok (.ifCond .ne 8, 3) := by decide +kernel
theorem d_MO_walk_266 : decode b_MO_walk 266 = .ok (.iload 6, 2) := by decide +kernel
theorem d_MO_walk_268 : decode b_MO_walk 268 = .ok (.goto 5, 3) := by decide +kernel
theorem d_MO_walk_271 : decode b_MO_walk 271 = .ok (.iload 7, 2) := by decide +kernel
theorem d_MO_walk_273 : decode b_MO_walk 273 = .ok (.iload 11, 2) := by decide +kernel
theorem d_MO_walk_275 : decode b_MO_walk 275 = .ok (.isub, 1) := by decide +kernel
theorem d_MO_walk_276 : decode b_MO_walk 276 = .ok (.aload_n 0, 1) := by decide +kernel
theorem d_MO_walk_277 : decode b_MO_walk 277 = .ok (.getfield 89, 3) := by decide +kernel
theorem d_MO_walk_280 : decode b_MO_walk 280 = .ok (.isub, 1) := by decide +kernel
theorem d_MO_walk_281 : decode b_MO_walk 281 = .ok (.istore 12, 2) := by decide +kernel
theorem d_MO_walk_283 : decode b_MO_walk 283 = .ok (.aload_n 0, 1) := by decide +kernel
theorem d_MO_walk_284 : decode b_MO_walk 284 = .ok (.getfield 62, 3) := by decide +kernel
theorem d_MO_walk_287 : decode b_MO_walk 287 = .ok (.iload_n 2, 1) := by decide +kernel
theorem d_MO_walk_288 : decode b_MO_walk 288 = .ok (.dup2, 1) := by decide +kernel
theorem d_MO_walk_289 : decode b_MO_walk 289 = .ok (.iaload, 1) := by decide +kernel
theorem d_MO_walk_290 : decode b_MO_walk 290 = .ok (.iconst 1, 1) := by decide +kernel
theorem d_MO_walk_291 : decode b_MO_walk 291 = .ok (.iadd, 1) := by decide +kernel
theorem d_MO_walk_292 : decode b_MO_walk 292 = .ok (.iastore, 1) := by decide +kernel
theorem d_MO_walk_293 : decode b_MO_walk 293 = .ok (.aload_n 0, 1) := by decide +kernel
theorem d_MO_walk_294 : decode b_MO_walk 294 = .ok (.getfield 65, 3) := by decide +kernel
theorem d_MO_walk_297 : decode b_MO_walk 297 = .ok (.iload_n 2, 1) := by decide +kernel
theorem d_MO_walk_298 : decode b_MO_walk 298 = .ok (.dup2, 1) := by decide +kernel
theorem d_MO_walk_299 : decode b_MO_walk 299 = .ok (.iaload, 1) := by decide +kernel
theorem d_MO_walk_300 : decode b_MO_walk 300 = .ok (.iload 8, 2) := by decide +kernel
theorem d_MO_walk_302 : decode b_MO_walk 302 = .ok (.ifCond .ne 8, 3) := by decide +kernel
theorem d_MO_walk_305 : decode b_MO_walk 305 = .ok (.iload 7, 2) := by decide +kernel
theorem d_MO_walk_307 : decode b_MO_walk 307 = .ok (.goto 5, 3) := by decide +kernel
theorem d_MO_walk_310 : decode b_MO_walk 310 = .ok (.iload 6, 2) := by decide +kernel
theorem d_MO_walk_312 : decode b_MO_walk 312 = .ok (.iadd, 1) := by decide +kernel
theorem d_MO_walk_313 : decode b_MO_walk 313 = .ok (.iastore, 1) := by decide +kernel
theorem d_MO_walk_314 : decode b_MO_walk 314 = .ok (.iload 12, 2) := by decide +kernel
theorem d_MO_walk_316 : decode b_MO_walk 316 = .ok (.ifCond .le 79, 3) := by decide +kernel
theorem d_MO_walk_319 : decode b_MO_walk 319 = .ok (.aload_n 0, 1) := by decide +kernel
theorem d_MO_walk_320 : decode b_MO_walk 320 = .ok (.iload_n 3, 1) := by decide +kernel
theorem d_MO_walk_321 : decode b_MO_walk 321 = .ok (.iload 8, 2) := by decide +kernel
theorem d_MO_walk_323 : decode b_MO_walk 323 = .ok (.ifCond .ne 16, 3) := by decide +kernel
theorem d_MO_walk_326 : decode b_MO_walk 326 = .ok (.iload 4, 2) := by decide +kernel
theorem d_MO_walk_328 : decode b_MO_walk 328 = .ok (.iload 11, 2) := by decide +kernel
theorem d_MO_walk_330 : decode b_MO_walk 330 = .ok (.iadd, 1) := by decide +kernel
theorem d_MO_walk_331 : decode b_MO_walk 331 = .ok (.aload_n 0, 1) := by decide +kernel
theorem d_MO_walk_332 : decode b_MO_walk 332 = .ok (.getfield 89, 3) := by decide +kernel
theorem d_MO_walk_335 : decode b_MO_walk 335 = .ok (.iadd, 1) := by decide +kernel
theorem d_MO_walk_336 : decode b_MO_walk 336 = .ok (.goto 5, 3) := by decide +kernel
theorem d_MO_walk_339 : decode b_MO_walk 339 = .ok (.iload 4, 2) := by decide +kernel
theorem d_MO_walk_341 : decode b_MO_walk 341 = .ok (.iload 8, 2) := by decide +kernel
theorem d_MO_walk_343 : decode b_MO_walk 343 = .ok (.ifCond .ne 8, 3) := by decide +kernel
theorem d_MO_walk_346 : decode b_MO_walk 346 = .ok (.iload 5, 2) := by decide +kernel
theorem d_MO_walk_348 : decode b_MO_walk 348 = .ok (.goto 13, 3) := by decide +kernel
theorem d_MO_walk_351 : decode b_MO_walk 351 = .ok (.iload 5, 2) := by decide +kernel
theorem d_MO_walk_353 : decode b_MO_walk 353 = .ok (.iload 11, 2) := by decide +kernel
theorem d_MO_walk_355 : decode b_MO_walk 355 = .ok (.iadd, 1) := by decide +kernel
theorem d_MO_walk_356 : decode b_MO_walk 356 = .ok (.aload_n 0, 1) := by decide +kernel
theorem d_MO_walk_357 : decode b_MO_walk 357 = .ok (.getfield 89, 3) := by decide +kernel
theorem d_MO_walk_360 : decode b_MO_walk 360 = .ok (.iadd, 1) := by decide +kernel
theorem d_MO_walk_361 : decode b_MO_walk 361 = .ok (.iload 8, 2) := by decide +kernel
theorem d_MO_walk_363 : decode b_MO_walk 363 = .ok (.ifCond .ne 8, 3) := by decide +kernel
theorem d_MO_walk_366 : decode b_MO_walk 366 = .ok (.iload 12, 2) := by decide +kernel
theorem d_MO_walk_368 : decode b_MO_walk 368 = .ok (.goto 5, 3) := by decide +kernel
theorem d_MO_walk_371 : decode b_MO_walk 371 = .ok (.iload 6, 2) := by decide +kernel
theorem d_MO_walk_373 : decode b_MO_walk 373 = .ok (.iload 8, 2) := by decide +kernel
theorem d_MO_walk_375 : decode b_MO_walk 375 = .ok (.ifCond .ne 8, 3) := by decide +kernel
theorem d_MO_walk_378 : decode b_MO_walk 378 = .ok (.iload 7, 2) := by decide +kernel
theorem d_MO_walk_380 : decode b_MO_walk 380 = .ok (.goto 5, 3) := by decide +kernel
theorem d_MO_walk_383 : decode b_MO_walk 383 = .ok (.iload 12, 2) := by decide +kernel
theorem d_MO_walk_385 : decode b_MO_walk 385 = .ok (.iload 8, 2) := by decide +kernel
theorem d_MO_walk_387 : decode b_MO_walk 387 = .ok (.iload 9, 2) := by decide +kernel
theorem d_MO_walk_389 : decode b_MO_walk 389 = .ok (.invokevirtual 140, 3) := by decide +kernel
theorem d_MO_walk_392 : decode b_MO_walk 392 = .ok (.iinc 3 1, 3) := by decide +kernel
theorem d_MO_walk_395 : decode b_MO_walk 395 = .ok (.aload_n 0, 1) := by decide +kernel
theorem d_MO_walk_396 : decode b_MO_walk 396 = .ok (.iload_n 3, 1) := by decide +kernel
theorem d_MO_walk_397 : decode b_MO_walk 397 = .ok (.iload 4, 2) := by decide +kernel
theorem d_MO_walk_399 : decode b_MO_walk 399 = .ok (.iload 5, 2) := by decide +kernel
theorem d_MO_walk_401 : decode b_MO_walk 401 = .ok (.iload 8, 2) := by decide +kernel
theorem d_MO_walk_403 : decode b_MO_walk 403 = .ok (.ifCond .ne 8, 3) := by decide +kernel
theorem d_MO_walk_406 : decode b_MO_walk 406 = .ok (.iload 11, 2) := by decide +kernel
theorem d_MO_walk_408 : decode b_MO_walk 408 = .ok (.goto 5, 3) := by decide +kernel
theorem d_MO_walk_411 : decode b_MO_walk 411 = .ok (.iload 6, 2) := by decide +kernel
theorem d_MO_walk_413 : decode b_MO_walk 413 = .ok (.iload 8, 2) := by decide +kernel
theorem d_MO_walk_415 : decode b_MO_walk 415 = .ok (.ifCond .ne 8, 3) := by decide +kernel
theorem d_MO_walk_418 : decode b_MO_walk 418 = .ok (.iload 7, 2) := by decide +kernel
theorem d_MO_walk_420 : decode b_MO_walk 420 = .ok (.goto 5, 3) := by decide +kernel
theorem d_MO_walk_423 : decode b_MO_walk 423 = .ok (.iload 11, 2) := by decide +kernel
theorem d_MO_walk_425 : decode b_MO_walk 425 = .ok (.iconst 1, 1) := by decide +kernel
theorem d_MO_walk_426 : decode b_MO_walk 426 = .ok (.iload 8, 2) := by decide +kernel
theorem d_MO_walk_428 : decode b_MO_walk 428 = .ok (.isub, 1) := by decide +kernel
theorem d_MO_walk_429 : decode b_MO_walk 429 = .ok (.iload 9, 2) := by decide +kernel
theorem d_MO_walk_431 : decode b_MO_walk 431 = .ok (.iconst 1, 1) := by decide +kernel
theorem d_MO_walk_432 : decode b_MO_walk 432 = .ok (.isub, 1) := by decide +kernel
theorem d_MO_walk_433 : decode b_MO_walk 433 = .ok (.invokevirtual 140, 3) := by decide +kernel
theorem d_MO_walk_436 : decode b_MO_walk 436 = .ok (.iinc 3 1, 3) := by decide +kernel
theorem d_MO_walk_439 : decode b_MO_walk 439 = .ok (.goto 40, 3) := by decide +kernel
theorem d_MO_walk_442 : decode b_MO_walk 442 = .ok (.iload 10, 2) := by decide +kernel
theorem d_MO_walk_444 : decode b_MO_walk 444 = .ok (.iconst (-1), 1) := by decide +kernel
theorem d_MO_walk_445 : decode b_MO_walk 445 = .ok (.if_icmp .ne 19, 3) := by decide +kernel
theorem d_MO_walk_448 : decode b_MO_walk 448 = .ok (.aload_n 0, 1) := by decide +kernel
theorem d_MO_walk_449 : decode b_MO_walk 449 = .ok (.iload_n 2, 1) := by decide +kernel
theorem d_MO_walk_450 : decode b_MO_walk 450 = .ok (.iload 4, 2) := by decide +kernel
theorem d_MO_walk_452 : decode b_MO_walk 452 = .ok (.iload 5, 2) := by decide +kernel
theorem d_MO_walk_454 : decode b_MO_walk 454 = .ok (.iload 6, 2) := by decide +kernel
theorem d_MO_walk_456 : decode b_MO_walk 456 = .ok (.iload 7, 2) := by decide +kernel
theorem d_MO_walk_458 : decode b_MO_walk 458 = .ok (.invokevirtual 144, 3) := by decide +kernel
theorem d_MO_walk_461 : decode b_MO_walk 461 = .ok (.goto 18, 3) := by decide +kernel
theorem d_MO_walk_464 : decode b_MO_walk 464 = .ok (.aload_n 0, 1) := by decide +kernel
theorem d_MO_walk_465 : decode b_MO_walk 465 = .ok (.iload_n 2, 1) := by decide +kernel
theorem d_MO_walk_466 : decode b_MO_walk 466 = .ok (.iload 10, 2) := by decide +kernel
theorem d_MO_walk_468 : decode b_MO_walk 468 = .ok (.iload 4, 2) := by decide +kernel
theorem d_MO_walk_470 : decode b_MO_walk 470 = .ok (.iload 5, 2) := by decide +kernel
theorem d_MO_walk_472 : decode b_MO_walk 472 = .ok (.iload 6, 2) := by decide +kernel
theorem d_MO_walk_474 : decode b_MO_walk 474 = .ok (.iload 7, 2) := by decide +kernel
theorem d_MO_walk_476 : decode b_MO_walk 476 = .ok (.invokevirtual 148, 3) := by decide +kernel
theorem d_MO_walk_479 : decode b_MO_walk 479 = .ok (.goto (-362), 3) := by decide +kernel
theorem d_MO_walk_482 : decode b_MO_walk 482 = .ok (.return_, 1) := by decide +kernel
theorem d_MO_keepRest_0 : decode b_MO_keepRest 0 = .ok (.iload 4, 2) := by decide +kernel
theorem d_MO_keepRest_2 : decode b_MO_keepRest 2 = .ok (.aload_n 0, 1) := by decide +kernel
theorem d_MO_keepRest_3 : decode b_MO_keepRest 3 = .ok (.getfield 96, 3) := by decide +kernel
theorem d_MO_keepRest_6 : decode b_MO_keepRest 6 = .ok (.if_icmp .lt 12, 3) := by decide +kernel
theorem d_MO_keepRest_9 : decode b_MO_keepRest 9 = .ok (.iload 5, 2) := by decide +kernel
theorem d_MO_keepRest_11 : decode b_MO_keepRest 11 = .ok (.aload_n 0, 1) := by decide +kernel
theorem d_MO_keepRest_12 : decode b_MO_keepRest 12 = .ok (.getfield 96, 3) := by decide +kernel
theorem d_MO_keepRest_15 : decode b_MO_keepRest 15 = .ok (.if_icmp .ge 4, 3) := by decide +kernel
theorem d_MO_keepRest_18 : decode b_MO_keepRest 18 = .ok (.return_, 1) := by decide +kernel
theorem d_MO_keepRest_19 : decode b_MO_keepRest 19 = .ok (.iconst 4, 1) := by decide +kernel
theorem d_MO_keepRest_20 : decode b_MO_keepRest 20 = .ok (.sipush 256, 3) := by decide +kernel
theorem d_MO_keepRest_23 : decode b_MO_keepRest 23 = .ok (.iload_n 1, 1) := by decide +kernel
theorem d_MO_keepRest_24 : decode b_MO_keepRest 24 = .ok (.imul, 1) := by decide +kernel
theorem d_MO_keepRest_25 : decode b_MO_keepRest 25 = .ok (.aload_n 0, 1) := by decide +kernel
theorem d_MO_keepRest_26 : decode b_MO_keepRest 26 = .ok (.getfield 74, 3) := by decide +kernel
theorem d_MO_keepRest_29 : decode b_MO_keepRest 29 = .ok (.iload_n 1, 1) := by decide +kernel
theorem d_MO_keepRest_30 : decode b_MO_keepRest 30 = .ok (.iaload, 1) := by decide +kernel
theorem d_MO_keepRest_31 : decode b_MO_keepRest 31 = .ok (.iadd, 1) := by decide +kernel
theorem d_MO_keepRest_32 : decode b_MO_keepRest 32 = .ok (.imul, 1) := by decide +kernel
theorem d_MO_keepRest_33 : decode b_MO_keepRest 33 = .ok (.istore 6, 2) := by decide +kernel
theorem d_MO_keepRest_35 : decode b_MO_keepRest 35 = .ok (.aload_n 0, 1) := by decide +kernel
theorem d_MO_keepRest_36 : decode b_MO_keepRest 36 = .ok (.getfield 86, 3) := by decide +kernel
theorem d_MO_keepRest_39 : decode b_MO_keepRest 39 = .ok (.iload 6, 2) := by decide +kernel
theorem d_MO_keepRest_41 : decode b_MO_keepRest 41 = .ok (.iload_n 2, 1) := by decide +kernel
theorem d_MO_keepRest_42 : decode b_MO_keepRest 42 = .ok (.iastore, 1) := by decide +kernel
theorem d_MO_keepRest_43 : decode b_MO_keepRest 43 = .ok (.aload_n 0, 1) := by decide +kernel
theorem d_MO_keepRest_44 : decode b_MO_keepRest 44 = .ok (.getfield 86, 3) := by decide +kernel
theorem d_MO_keepRest_47 : decode b_MO_keepRest 47 = .ok (.iload 6, 2) := by decide +kernel
theorem d_MO_keepRest_49 : decode b_MO_keepRest 49 = .ok (.iconst 1, 1) := by decide +kernel
theorem d_MO_keepRest_50 : decode b_MO_keepRest 50 = .ok (.iadd, 1) := by decide +kernel
theorem d_MO_keepRest_51 : decode b_MO_keepRest 51 = .ok (.iload_n 3, 1) := by decide +kernel
theorem d_MO_keepRest_52 : decode b_MO_keepRest 52 = .ok (.iastore, 1) := by decide +kernel
theorem d_MO_keepRest_53 : decode b_MO_keepRest 53 = .ok (.aload_n 0, 1) := by decide +kernel
theorem d_MO_keepRest_54 : decode b_MO_keepRest 54 = .ok (.getfield 86, 3) := by decide +kernel
theorem d_MO_keepRest_57 : decode b_MO_keepRest 57 = .ok (.iload 6, 2) := by decide +kernel
theorem d_MO_keepRest_59 : decode b_MO_keepRest 59 = .ok (.iconst 2, 1) := by decide +kernel
theorem d_MO_keepRest_60 : decode b_MO_keepRest 60 = .ok (.iadd, 1) := by decide +kernel
theorem d_MO_keepRest_61 : decode b_MO_keepRest 61 = .ok (.iload 4, 2) := by decide +kernel
theorem d_MO_keepRest_63 : decode b_MO_keepRest 63 = .ok (.iastore, 1) := by decide +kernel
theorem d_MO_keepRest_64 : decode b_MO_keepRest 64 = .ok (.aload_n 0, 1) := by decide +kernel
theorem d_MO_keepRest_65 : decode b_MO_keepRest 65 = .ok (.getfield 86, 3) := by decide +kernel
theorem d_MO_keepRest_68 : decode b_MO_keepRest 68 = .ok (.iload 6, 2) := by decide +kernel
theorem d_MO_keepRest_70 : decode b_MO_keepRest 70 = .ok (.iconst 3, 1) := by decide +kernel
theorem d_MO_keepRest_71 : decode b_MO_keepRest 71 = .ok (.iadd, 1) := by decide +kernel
theorem d_MO_keepRest_72 : decode b_MO_keepRest 72 = .ok (.iload 5, 2) := by decide +kernel
theorem d_MO_keepRest_74 : decode b_MO_keepRest 74 = .ok (.iastore, 1) := by decide +kernel
theorem d_MO_keepRest_75 : decode b_MO_keepRest 75 = .ok (.aload_n 0, 1) := by decide +kernel
theorem d_MO_keepRest_76 : decode b_MO_keepRest 76 = .ok (.getfield 74, 3) := by decide +kernel
theorem d_MO_keepRest_79 : decode b_MO_keepRest 79 = .ok (.iload_n 1, 1) := by decide +kernel
theorem d_MO_keepRest_80 : decode b_MO_keepRest 80 = .ok (.dup2, 1) := by decide +kernel
theorem d_MO_keepRest_81 : decode b_MO_keepRest 81 = .ok (.iaload, 1) := by decide +kernel
theorem d_MO_keepRest_82 : decode b_MO_keepRest 82 = .ok (.iconst 1, 1) := by decide +kernel
theorem d_MO_keepRest_83 : decode b_MO_keepRest 83 = .ok (.iadd, 1) := by decide +kernel
theorem d_MO_keepRest_84 : decode b_MO_keepRest 84 = .ok (.iastore, 1) := by decide +kernel
theorem d_MO_keepRest_85 : decode b_MO_keepRest 85 = .ok (.return_, 1) := by decide +kernel
theorem d_MO_take_0 : decode b_MO_take 0 = .ok (.aload_n 0, 1) := by decide +kernel
theorem d_MO_take_1 : decode b_MO_take 1 = .ok (.getfield 41, 3) := by decide +kernel
theorem d_MO_take_4 : decode b_MO_take 4 = .ok (.iload_n 2, 1) := by decide +kernel
theorem d_MO_take_5 : decode b_MO_take 5 = .ok (.iaload, 1) := by decide +kernel
theorem d_MO_take_6 : decode b_MO_take 6 = .ok (.ifCond .ne 4, 3) := by decide +kernel
theorem d_MO_take_9 : decode b_MO_take 9 = .ok (.return_, 1) := by decide +kernel
theorem d_MO_take_10 : decode b_MO_take 10 = .ok (.aload_n 0, 1) := by decide +kernel
theorem d_MO_take_11 : decode b_MO_take 11 = .ok (.getfield 41, 3) := by decide +kernel
theorem d_MO_take_14 : decode b_MO_take 14 = .ok (.iload_n 2, 1) := by decide +kernel
theorem d_MO_take_15 : decode b_MO_take 15 = .ok (.dup2, 1) := by decide +kernel
theorem d_MO_take_16 : decode b_MO_take 16 = .ok (.iaload, 1) := by decide +kernel
theorem d_MO_take_17 : decode b_MO_take 17 = .ok (.iconst 1, 1) := by decide +kernel
theorem d_MO_take_18 : decode b_MO_take 18 = .ok (.isub, 1) := by decide +kernel
theorem d_MO_take_19 : decode b_MO_take 19 = .ok (.iastore, 1) := by decide +kernel
theorem d_MO_take_20 : decode b_MO_take 20 = .ok (.iconst 5, 1) := by decide +kernel
theorem d_MO_take_21 : decode b_MO_take 21 = .ok (.sipush 256, 3) := by decide +kernel
theorem d_MO_take_24 : decode b_MO_take 24 = .ok (.iload_n 1, 1) := by decide +kernel
theorem d_MO_take_25 : decode b_MO_take 25 = .ok (.imul, 1) := by decide +kernel
theorem d_MO_take_26 : decode b_MO_take 26 = .ok (.aload_n 0, 1) := by decide +kernel
theorem d_MO_take_27 : decode b_MO_take 27 = .ok (.getfield 68, 3) := by decide +kernel
theorem d_MO_take_30 : decode b_MO_take 30 = .ok (.iload_n 1, 1) := by decide +kernel
theorem d_MO_take_31 : decode b_MO_take 31 = .ok (.iaload, 1) := by decide +kernel
theorem d_MO_take_32 : decode b_MO_take 32 = .ok (.iadd, 1) := by decide +kernel
theorem d_MO_take_33 : decode b_MO_take 33 = .ok (.imul, 1) := by decide +kernel
theorem d_MO_take_34 : decode b_MO_take 34 = .ok (.istore 7, 2) := by decide +kernel
theorem d_MO_take_36 : decode b_MO_take 36 = .ok (.aload_n 0, 1) := by decide +kernel
theorem d_MO_take_37 : decode b_MO_take 37 = .ok (.getfield 83, 3) := by decide +kernel
theorem d_MO_take_40 : decode b_MO_take 40 = .ok (.iload 7, 2) := by decide +kernel
theorem d_MO_take_42 : decode b_MO_take 42 = .ok (.iload_n 2, 1) := by decide +kernel
theorem d_MO_take_43 : decode b_MO_take 43 = .ok (.iastore, 1) := by decide +kernel
theorem d_MO_take_44 : decode b_MO_take 44 = .ok (.aload_n 0, 1) := by decide +kernel
theorem d_MO_take_45 : decode b_MO_take 45 = .ok (.getfield 83, 3) := by decide +kernel
theorem d_MO_take_48 : decode b_MO_take 48 = .ok (.iload 7, 2) := by decide +kernel
theorem d_MO_take_50 : decode b_MO_take 50 = .ok (.iconst 1, 1) := by decide +kernel
theorem d_MO_take_51 : decode b_MO_take 51 = .ok (.iadd, 1) := by decide +kernel
theorem d_MO_take_52 : decode b_MO_take 52 = .ok (.iload_n 3, 1) := by decide +kernel
theorem d_MO_take_53 : decode b_MO_take 53 = .ok (.iastore, 1) := by decide +kernel
theorem d_MO_take_54 : decode b_MO_take 54 = .ok (.aload_n 0, 1) := by decide +kernel
theorem d_MO_take_55 : decode b_MO_take 55 = .ok (.getfield 83, 3) := by decide +kernel
theorem d_MO_take_58 : decode b_MO_take 58 = .ok (.iload 7, 2) := by decide +kernel
theorem d_MO_take_60 : decode b_MO_take 60 = .ok (.iconst 2, 1) := by decide +kernel
theorem d_MO_take_61 : decode b_MO_take 61 = .ok (.iadd, 1) := by decide +kernel
theorem d_MO_take_62 : decode b_MO_take 62 = .ok (.iload 4, 2) := by decide +kernel
theorem d_MO_take_64 : decode b_MO_take 64 = .ok (.iastore, 1) := by decide +kernel
theorem d_MO_take_65 : decode b_MO_take 65 = .ok (.aload_n 0, 1) := by decide +kernel
theorem d_MO_take_66 : decode b_MO_take 66 = .ok (.getfield 83, 3) := by decide +kernel
theorem d_MO_take_69 : decode b_MO_take 69 = .ok (.iload 7, 2) := by decide +kernel
theorem d_MO_take_71 : decode b_MO_take 71 = .ok (.iconst 3, 1) := by decide +kernel
theorem d_MO_take_72 : decode b_MO_take 72 = .ok (.iadd, 1) := by decide +kernel
theorem d_MO_take_73 : decode b_MO_take 73 = .ok (.iload 5, 2) := by decide +kernel
theorem d_MO_take_75 : decode b_MO_take 75 = .ok (.iastore, 1) := by decide +kernel
theorem d_MO_take_76 : decode b_MO_take 76 = .ok (.aload_n 0, 1) := by decide +kernel
theorem d_MO_take_77 : decode b_MO_take 77 = .ok (.getfield 83, 3) := by decide +kernel
theorem d_MO_take_80 : decode b_MO_take 80 = .ok (.iload 7, 2) := by decide +kernel
theorem d_MO_take_82 : decode b_MO_take 82 = .ok (.iconst 4, 1) := by decide +kernel
theorem d_MO_take_83 : decode b_MO_take 83 = .ok (.iadd, 1) := by decide +kernel
theorem d_MO_take_84 : decode b_MO_take 84 = .ok (.iload 6, 2) := by decide +kernel
theorem d_MO_take_86 : decode b_MO_take 86 = .ok (.iastore, 1) := by decide +kernel
theorem d_MO_take_87 : decode b_MO_take 87 = .ok (.aload_n 0, 1) := by decide +kernel
theorem d_MO_take_88 : decode b_MO_take 88 = .ok (.getfield 68, 3) := by decide +kernel
theorem d_MO_take_91 : decode b_MO_take 91 = .ok (.iload_n 1, 1) := by decide +kernel
theorem d_MO_take_92 : decode b_MO_take 92 = .ok (.dup2, 1) := by decide +kernel
theorem d_MO_take_93 : decode b_MO_take 93 = .ok (.iaload, 1) := by decide +kernel
theorem d_MO_take_94 : decode b_MO_take 94 = .ok (.iconst 1, 1) := by decide +kernel
theorem d_MO_take_95 : decode b_MO_take 95 = .ok (.iadd, 1) := by decide +kernel
theorem d_MO_take_96 : decode b_MO_take 96 = .ok (.iastore, 1) := by decide +kernel
theorem d_MO_take_97 : decode b_MO_take 97 = .ok (.aload_n 0, 1) := by decide +kernel
theorem d_MO_take_98 : decode b_MO_take 98 = .ok (.getfield 71, 3) := by decide +kernel
theorem d_MO_take_101 : decode b_MO_take 101 = .ok (.iload_n 1, 1) := by decide +kernel
theorem d_MO_take_102 : decode b_MO_take 102 = .ok (.dup2, 1) := by decide +kernel
theorem d_MO_take_103 : decode b_MO_take 103 = .ok (.iaload, 1) := by decide +kernel
theorem d_MO_take_104 : decode b_MO_take 104 = .ok (.iload 5, 2) := by decide +kernel
theorem d_MO_take_106 : decode b_MO_take 106 = .ok (.iload 6, 2) := by decide +kernel
theorem d_MO_take_108 : decode b_MO_take 108 = .ok (.imul, 1) := by decide +kernel
theorem d_MO_take_109 : decode b_MO_take 109 = .ok (.iadd, 1) := by decide +kernel
theorem d_MO_take_110 : decode b_MO_take 110 = .ok (.iastore, 1) := by decide +kernel
theorem d_MO_take_111 : decode b_MO_take 111 = .ok (.return_, 1) := by decide +kernel
theorem d_MO_run_0 : decode b_MO_run 0 = .ok (.aload_n 0, 1) := by decide +kernel
theorem d_MO_run_1 : decode b_MO_run 1 = .ok (.iconst 0, 1) := by decide +kernel
theorem d_MO_run_2 : decode b_MO_run 2 = .ok (.putfield 99, 3) := by decide +kernel
theorem d_MO_run_5 : decode b_MO_run 5 = .ok (.aload_n 0, 1) := by decide +kernel
theorem d_MO_run_6 : decode b_MO_run 6 = .ok (.invokevirtual 130, 3) := by decide +kernel
theorem d_MO_run_9 : decode b_MO_run 9 = .ok (.iconst 0, 1) := by decide +kernel
theorem d_MO_run_10 : decode b_MO_run 10 = .ok (.istore_n 1, 1) := by decide +kernel
theorem d_MO_run_11 : decode b_MO_run 11 = .ok (.iload_n 1, 1) := by decide +kernel
theorem d_MO_run_12 : decode b_MO_run 12 = .ok (.iconst 4, 1) := by decide +kernel
theorem d_MO_run_13 : decode b_MO_run 13 = .ok (.if_icmp .ge 21, 3) := by decide +kernel
theorem d_MO_run_16 : decode b_MO_run 16 = .ok (.aload_n 0, 1) := by decide +kernel
theorem d_MO_run_17 : decode b_MO_run 17 = .ok (.getfield 38, 3) := by decide +kernel
theorem d_MO_run_20 : decode b_MO_run 20 = .ok (.iload_n 1, 1) := by decide +kernel
theorem d_MO_run_21 : decode b_MO_run 21 = .ok (.aload_n 0, 1) := by decide +kernel
theorem d_MO_run_22 : decode b_MO_run 22 = .ok (.getfield 19, 3) := by decide +kernel
theorem d_MO_run_25 : decode b_MO_run 25 = .ok (.iload_n 1, 1) := by decide +kernel
theorem d_MO_run_26 : decode b_MO_run 26 = .ok (.iaload, 1) := by decide +kernel
theorem d_MO_run_27 : decode b_MO_run 27 = .ok (.iastore, 1) := by decide +kernel
theorem d_MO_run_28 : decode b_MO_run 28 = .ok (.iinc 1 1, 3) := by decide +kernel
theorem d_MO_run_31 : decode b_MO_run 31 = .ok (.goto (-20), 3) := by decide +kernel
theorem d_MO_run_34 : decode b_MO_run 34 = .ok (.aload_n 0, 1) := by decide +kernel
theorem d_MO_run_35 : decode b_MO_run 35 = .ok (.iconst 0, 1) := by decide +kernel
theorem d_MO_run_36 : decode b_MO_run 36 = .ok (.putfield 152, 3) := by decide +kernel
theorem d_MO_run_39 : decode b_MO_run 39 = .ok (.aload_n 0, 1) := by decide +kernel
theorem d_MO_run_40 : decode b_MO_run 40 = .ok (.iconst 1, 1) := by decide +kernel
theorem d_MO_run_41 : decode b_MO_run 41 = .ok (.putfield 109, 3) := by decide +kernel
theorem d_MO_run_44 : decode b_MO_run 44 = .ok (.iconst 1, 1) := by decide +kernel
theorem d_MO_run_45 : decode b_MO_run 45 = .ok (.istore_n 1, 1) := by decide +kernel
theorem d_MO_run_46 : decode b_MO_run 46 = .ok (.iload_n 1, 1) := by decide +kernel
theorem d_MO_run_47 : decode b_MO_run 47 = .ok (.ifCond .eq 187, 3) := by decide +kernel
theorem d_MO_run_50 : decode b_MO_run 50 = .ok (.aload_n 0, 1) := by decide +kernel
theorem d_MO_run_51 : decode b_MO_run 51 = .ok (.getfield 152, 3) := by decide +kernel
theorem d_MO_run_54 : decode b_MO_run 54 = .ok (.bipush 20, 2) := by decide +kernel
theorem d_MO_run_56 : decode b_MO_run 56 = .ok (.if_icmp .ge 178, 3) := by decide +kernel
theorem d_MO_run_59 : decode b_MO_run 59 = .ok (.aload_n 0, 1) := by decide +kernel
theorem d_MO_run_60 : decode b_MO_run 60 = .ok (.invokevirtual 133, 3) := by decide +kernel
theorem d_MO_run_63 : decode b_MO_run 63 = .ok (.iconst (-1), 1) := by decide +kernel
theorem d_MO_run_64 : decode b_MO_run 64 = .ok (.istore_n 2, 1) := by decide +kernel
theorem d_MO_run_65 : decode b_MO_run 65 = .ok (.lconst 0, 1) := by decide +kernel
theorem d_MO_run_66 : decode b_MO_run 66 = .ok (.lstore_n 3, 1) := by decide +kernel
theorem d_MO_run_67 : decode b_MO_run 67 = .ok (.iconst 0, 1) := by decide +kernel
theorem d_MO_run_68 : decode b_MO_run 68 = .ok (.istore 5, 2) := by decide +kernel
theorem d_MO_run_70 : decode b_MO_run 70 = .ok (.iload 5, 2) := by decide +kernel
theorem d_MO_run_72 : decode b_MO_run 72 = .ok (.aload_n 0, 1) := by decide +kernel
theorem d_MO_run_73 : decode b_MO_run 73 = .ok (.getfield 106, 3) := by decide +kernel
theorem d_MO_run_76 : decode b_MO_run 76 = .ok (.if_icmp .ge 82, 3) := by decide +kernel
theorem d_MO_run_79 : decode b_MO_run 79 = .ok (.aload_n 0, 1) := by decide +kernel
theorem d_MO_run_80 : decode b_MO_run 80 = .ok (.getfield 38, 3) := by decide +kernel
theorem d_MO_run_83 : decode b_MO_run 83 = .ok (.iload 5, 2) := by decide +kernel
theorem d_MO_run_85 : decode b_MO_run 85 = .ok (.iaload, 1) := by decide +kernel
theorem d_MO_run_86 : decode b_MO_run 86 = .ok (.ifCond .le 66, 3) := by decide +kernel
theorem d_MO_run_89 : decode b_MO_run 89 = .ok (.aload_n 0, 1) := by decide +kernel
theorem d_MO_run_90 : decode b_MO_run 90 = .ok (.iload 5, 2) := by decide +kernel
theorem d_MO_run_92 : decode b_MO_run 92 = .ok (.aload_n 0, 1) := by decide +kernel
theorem d_MO_run_93 : decode b_MO_run 93 = .ok (.getfield 152, 3) := by decide +kernel
theorem d_MO_run_96 : decode b_MO_run 96 = .ok (.invokevirtual 155, 3) := by decide +kernel
theorem d_MO_run_99 : decode b_MO_run 99 = .ok (.aload_n 0, 1) := by decide +kernel
theorem d_MO_run_100 : decode b_MO_run 100 = .ok (.getfield 71, 3) := by decide +kernel
theorem d_MO_run_103 : decode b_MO_run 103 = .ok (.aload_n 0, 1) := by decide +kernel
theorem d_MO_run_104 : decode b_MO_run 104 = .ok (.getfield 152, 3) := by decide +kernel
theorem d_MO_run_107 : decode b_MO_run 107 = .ok (.iaload, 1) := by decide +kernel
theorem d_MO_run_108 : decode b_MO_run 108 = .ok (.i2l, 1) := by decide +kernel
theorem d_MO_run_109 : decode b_MO_run 109 = .ok (.lstore 6, 2) := by decide +kernel
theorem d_MO_run_111 : decode b_MO_run 111 = .ok (.lload 6, 2) := by decide +kernel
theorem d_MO_run_113 : decode b_MO_run 113 = .ok (.lconst 0, 1) := by decide +kernel
theorem d_MO_run_114 : decode b_MO_run 114 = .ok (.lcmp, 1) := by decide +kernel
theorem d_MO_run_115 : decode b_MO_run 115 = .ok (.ifCond .le 37, 3) := by decide +kernel
theorem d_MO_run_118 : decode b_MO_run 118 = .ok (.iload_n 2, 1) := by decide +kernel
theorem d_MO_run_119 : decode b_MO_run 119 = .ok (.ifCond .lt 27, 3) := by decide +kernel
theorem d_MO_run_122 : decode b_MO_run 122 = .ok (.lload 6, 2) := by decide +kernel
theorem d_MO_run_124 : decode b_MO_run 124 = .ok (.aload_n 0, 1) := by decide +kernel
theorem d_MO_run_125 : decode b_MO_run 125 = .ok (.getfield 16, 3) := by decide +kernel
theorem d_MO_run_128 : decode b_MO_run 128 = .ok (.iload_n 2, 1) := by decide +kernel
theorem d_MO_run_129 : decode b_MO_run 129 = .ok (.iaload, 1) := by decide +kernel
theorem d_MO_run_130 : decode b_MO_run 130 = .ok (.i2l, 1) := by decide +kernel
theorem d_MO_run_131 : decode b_MO_run 131 = .ok (.lmul, 1) := by decide +kernel
theorem d_MO_run_132 : decode b_MO_run 132 = .ok (.lload_n 3, 1) := by decide +kernel
theorem d_MO_run_133 : decode b_MO_run 133 = .ok (.aload_n 0, 1) := by decide +kernel
theorem d_MO_run_134 : decode b_MO_run 134 = .ok (.getfield 16, 3) := by decide +kernel
theorem d_MO_run_137 : decode b_MO_run 137 = .ok (.iload 5, 2) := by decide +kernel
theorem d_MO_run_139 : decode b_MO_run 139 = .ok (.iaload, 1) := by decide +kernel
theorem d_MO_run_140 : decode b_MO_run 140 = .ok (.i2l, 1) := by decide +kernel
theorem d_MO_run_141 : decode b_MO_run 141 = .ok (.lmul, 1) := by decide +kernel
theorem d_MO_run_142 : decode b_MO_run 142 = .ok (.lcmp, 1) := by decide +kernel
theorem d_MO_run_143 : decode b_MO_run 143 = .ok (.ifCond .le 9, 3) := by decide +kernel
theorem d_MO_run_146 : decode b_MO_run 146 = .ok (.iload 5, 2) := by decide +kernel
theorem d_MO_run_148 : decode b_MO_run 148 = .ok (.istore_n 2, 1) := by decide +kernel
theorem d_MO_run_149 : decode b_MO_run 149 = .ok (.lload 6, 2) := by decide +kernel
theorem d_MO_run_151 : decode b_MO_run 151 = .ok (.lstore_n 3, 1) := by decide +kernel
theorem d_MO_run_152 : decode b_MO_run 152 = .ok (.iinc 5 1, 3) := by decide +kernel
theorem d_MO_run_155 : decode b_MO_run 155 = .ok (.goto (-85), 3) := by decide +kernel
theorem d_MO_run_158 : decode b_MO_run 158 = .ok (.iload_n 2, 1) := by decide +kernel
theorem d_MO_run_159 : decode b_MO_run 159 = .ok (.ifCond .lt 7, 3) := by decide +kernel
theorem d_MO_run_162 : decode b_MO_run 162 = .ok (.iconst 1, 1) := by decide +kernel
theorem d_MO_run_163 : decode b_MO_run 163 = .ok (.goto 4, 3) := by decide +kernel
theorem d_MO_run_166 : decode b_MO_run 166 = .ok (.iconst 0, 1) := by decide +kernel
theorem d_MO_run_167 : decode b_MO_run 167 = .ok (.istore_n 1, 1) := by decide +kernel
theorem d_MO_run_168 : decode b_MO_run 168 = .ok (.iload_n 1, 1) := by decide +kernel
theorem d_MO_run_169 : decode b_MO_run 169 = .ok (.ifCond .eq 62, 3) := by decide +kernel
theorem d_MO_run_172 : decode b_MO_run 172 = .ok (.aload_n 0, 1) := by decide +kernel
theorem d_MO_run_173 : decode b_MO_run 173 = .ok (.iload_n 2, 1) := by decide +kernel
theorem d_MO_run_174 : decode b_MO_run 174 = .ok (.aload_n 0, 1) := by decide +kernel
theorem d_MO_run_175 : decode b_MO_run 175 = .ok (.getfield 152, 3) := by decide +kernel
theorem d_MO_run_178 : decode b_MO_run 178 = .ok (.invokevirtual 155, 3) := by decide +kernel
theorem d_MO_run_181 : decode b_MO_run 181 = .ok (.aload_n 0, 1) := by decide +kernel
theorem d_MO_run_182 : decode b_MO_run 182 = .ok (.getfield 38, 3) := by decide +kernel
theorem d_MO_run_185 : decode b_MO_run 185 = .ok (.iload_n 2, 1) := by decide +kernel
theorem d_MO_run_186 : decode b_MO_run 186 = .ok (.dup2, 1) := by decide +kernel
theorem d_MO_run_187 : decode b_MO_run 187 = .ok (.iaload, 1) := by decide +kernel
theorem d_MO_run_188 : decode b_MO_run 188 = .ok (.iconst 1, 1) := by decide +kernel
theorem d_MO_run_189 : decode b_MO_run 189 = .ok (.isub, 1) := by decide +kernel
theorem d_MO_run_190 : decode b_MO_run 190 = .ok (.iastore, 1) := by decide +kernel
theorem d_MO_run_191 : decode b_MO_run 191 = .ok (.iconst 0, 1) := by decide +kernel
theorem d_MO_run_192 : decode b_MO_run 192 = .ok (.istore 5, 2) := by decide +kernel
theorem d_MO_run_194 : decode b_MO_run 194 = .ok (.iload 5, 2) := by decide +kernel
theorem d_MO_run_196 : decode b_MO_run 196 = .ok (.bipush 8, 2) := by decide +kernel
theorem d_MO_run_198 : decode b_MO_run 198 = .ok (.if_icmp .ge 23, 3) := by decide +kernel
theorem d_MO_run_201 : decode b_MO_run 201 = .ok (.aload_n 0, 1) := by decide +kernel
theorem d_MO_run_202 : decode b_MO_run 202 = .ok (.getfield 35, 3) := by decide +kernel
theorem d_MO_run_205 : decode b_MO_run 205 = .ok (.iload 5, 2) := by decide +kernel
theorem d_MO_run_207 : decode b_MO_run 207 = .ok (.aload_n 0, 1) := by decide +kernel
theorem d_MO_run_208 : decode b_MO_run 208 = .ok (.getfield 41, 3) := by decide +kernel
theorem d_MO_run_211 : decode b_MO_run 211 = .ok (.iload 5, 2) := by decide +kernel
theorem d_MO_run_213 : decode b_MO_run 213 = .ok (.iaload, 1) := by decide +kernel
theorem d_MO_run_214 : decode b_MO_run 214 = .ok (.iastore, 1) := by decide +kernel
theorem d_MO_run_215 : decode b_MO_run 215 = .ok (.iinc 5 1, 3) := by decide +kernel
theorem d_MO_run_218 : decode b_MO_run 218 = .ok (.goto (-24), 3) := by decide +kernel
theorem d_MO_run_221 : decode b_MO_run 221 = .ok (.aload_n 0, 1) := by decide +kernel
theorem d_MO_run_222 : decode b_MO_run 222 = .ok (.dup, 1) := by decide +kernel
theorem d_MO_run_223 : decode b_MO_run 223 = .ok (.getfield 152, 3) := by decide +kernel
theorem d_MO_run_226 : decode b_MO_run 226 = .ok (.iconst 1, 1) := by decide +kernel
theorem d_MO_run_227 : decode b_MO_run 227 = .ok (.iadd, 1) := by decide +kernel
theorem d_MO_run_228 : decode b_MO_run 228 = .ok (.putfield 152, 3) := by decide +kernel
theorem d_MO_run_231 : decode b_MO_run 231 = .ok (.goto (-185), 3) := by decide +kernel
theorem d_MO_run_234 : decode b_MO_run 234 = .ok (.aload_n 0, 1) := by decide +kernel
theorem d_MO_run_235 : decode b_MO_run 235 = .ok (.getfield 152, 3) := by decide +kernel
theorem d_MO_run_238 : decode b_MO_run 238 = .ok (.ireturn, 1) := by decide +kernel
theorem d_MO_look_0 : decode b_MO_look 0 = .ok (.aload_n 0, 1) := by decide +kernel
theorem d_MO_look_1 : decode b_MO_look 1 = .ok (.aload_n 0, 1) := by decide +kernel
theorem d_MO_look_2 : decode b_MO_look 2 = .ok (.getfield 109, 3) := by decide +kernel
theorem d_MO_look_5 : decode b_MO_look 5 = .ok (.ifCond .ne 7, 3) := by decide +kernel
theorem d_MO_look_8 : decode b_MO_look 8 = .ok (.iconst 1, 1) := by decide +kernel
theorem d_MO_look_9 : decode b_MO_look 9 = .ok (.goto 31, 3) := by decide +kernel
theorem d_MO_look_12 : decode b_MO_look 12 = .ok (.iload_n 1, 1) := by decide +kernel
theorem d_MO_look_13 : decode b_MO_look 13 = .ok (.iconst 0, 1) := by decide +kernel
theorem d_MO_look_14 : decode b_MO_look 14 = .ok (.aload_n 0, 1) := by decide +kernel
theorem d_MO_look_15 : decode b_MO_look 15 = .ok (.getfield 152, 3) := by decide +kernel
theorem d_MO_look_18 : decode b_MO_look 18 = .ok (.iconst 1, 1) := by decide +kernel
theorem d_MO_look_19 : decode b_MO_look 19 = .ok (.isub, 1) := by decide +kernel
theorem d_MO_look_20 : decode b_MO_look 20 = .ok (.invokestatic 102, 3) := by decide +kernel
theorem d_MO_look_23 : decode b_MO_look 23 = .ok (.ifCond .eq 12, 3) := by decide +kernel
theorem d_MO_look_26 : decode b_MO_look 26 = .ok (.iload_n 2, 1) := by decide +kernel
theorem d_MO_look_27 : decode b_MO_look 27 = .ok (.iconst 0, 1) := by decide +kernel
theorem d_MO_look_28 : decode b_MO_look 28 = .ok (.iload_n 3, 1) := by decide +kernel
theorem d_MO_look_29 : decode b_MO_look 29 = .ok (.invokestatic 102, 3) := by decide +kernel
theorem d_MO_look_32 : decode b_MO_look 32 = .ok (.ifCond .ne 7, 3) := by decide +kernel
theorem d_MO_look_35 : decode b_MO_look 35 = .ok (.iconst 2, 1) := by decide +kernel
theorem d_MO_look_36 : decode b_MO_look 36 = .ok (.goto 4, 3) := by decide +kernel
theorem d_MO_look_39 : decode b_MO_look 39 = .ok (.iconst 0, 1) := by decide +kernel
theorem d_MO_look_40 : decode b_MO_look 40 = .ok (.putfield 99, 3) := by decide +kernel
theorem d_MO_look_43 : decode b_MO_look 43 = .ok (.return_, 1) := by decide +kernel
theorem d_MO_isAlike_0 : decode b_MO_isAlike 0 = .ok (.aload_n 0, 1) := by decide +kernel
theorem d_MO_isAlike_1 : decode b_MO_isAlike 1 = .ok (.getfield 56, 3) := by decide +kernel
theorem d_MO_isAlike_4 : decode b_MO_isAlike 4 = .ok (.iload_n 1, 1) := by decide +kernel
theorem d_MO_isAlike_5 : decode b_MO_isAlike 5 = .ok (.iaload, 1) := by decide +kernel
theorem d_MO_isAlike_6 : decode b_MO_isAlike 6 = .ok (.aload_n 0, 1) := by decide +kernel
theorem d_MO_isAlike_7 : decode b_MO_isAlike 7 = .ok (.getfield 56, 3) := by decide +kernel
theorem d_MO_isAlike_10 : decode b_MO_isAlike 10 = .ok (.iload_n 2, 1) := by decide +kernel
theorem d_MO_isAlike_11 : decode b_MO_isAlike 11 = .ok (.iaload, 1) := by decide +kernel
theorem d_MO_isAlike_12 : decode b_MO_isAlike 12 = .ok (.if_icmp .ne 37, 3) := by decide +kernel
theorem d_MO_isAlike_15 : decode b_MO_isAlike 15 = .ok (.aload_n 0, 1) := by decide +kernel
theorem d_MO_isAlike_16 : decode b_MO_isAlike 16 = .ok (.getfield 77, 3) := by decide +kernel
theorem d_MO_isAlike_19 : decode b_MO_isAlike 19 = .ok (.iload_n 1, 1) := by decide +kernel
theorem d_MO_isAlike_20 : decode b_MO_isAlike 20 = .ok (.iaload, 1) := by decide +kernel
theorem d_MO_isAlike_21 : decode b_MO_isAlike 21 = .ok (.aload_n 0, 1) := by decide +kernel
theorem d_MO_isAlike_22 : decode b_MO_isAlike 22 = .ok (.getfield 77, 3) := by decide +kernel
theorem d_MO_isAlike_25 : decode b_MO_isAlike 25 = .ok (.iload_n 2, 1) := by decide +kernel
theorem d_MO_isAlike_26 : decode b_MO_isAlike 26 = .ok (.iaload, 1) := by decide +kernel
theorem d_MO_isAlike_27 : decode b_MO_isAlike 27 = .ok (.if_icmp .ne 22, 3) := by decide +kernel
theorem d_MO_isAlike_30 : decode b_MO_isAlike 30 = .ok (.aload_n 0, 1) := by decide +kernel
theorem d_MO_isAlike_31 : decode b_MO_isAlike 31 = .ok (.getfield 59, 3) := by decide +kernel
theorem d_MO_isAlike_34 : decode b_MO_isAlike 34 = .ok (.iload_n 1, 1) := by decide +kernel
theorem d_MO_isAlike_35 : decode b_MO_isAlike 35 = .ok (.iaload, 1) := by decide +kernel
theorem d_MO_isAlike_36 : decode b_MO_isAlike 36 = .ok (.aload_n 0, 1) := by decide +kernel
theorem d_MO_isAlike_37 : decode b_MO_isAlike 37 = .ok (.getfield 59, 3) := by decide +kernel
theorem d_MO_isAlike_40 : decode b_MO_isAlike 40 = .ok (.iload_n 2, 1) := by decide +kernel
theorem d_MO_isAlike_41 : decode b_MO_isAlike 41 = .ok (.iaload, 1) := by decide +kernel
theorem d_MO_isAlike_42 : decode b_MO_isAlike 42 = .ok (.if_icmp .ne 7, 3) := by decide +kernel
theorem d_MO_isAlike_45 : decode b_MO_isAlike 45 = .ok (.iconst 1, 1) := by decide +kernel
theorem d_MO_isAlike_46 : decode b_MO_isAlike 46 = .ok (.goto 4, 3) := by decide +kernel
theorem d_MO_isAlike_49 : decode b_MO_isAlike 49 = .ok (.iconst 0, 1) := by decide +kernel
theorem d_MO_isAlike_50 : decode b_MO_isAlike 50 = .ok (.istore_n 3, 1) := by decide +kernel
theorem d_MO_isAlike_51 : decode b_MO_isAlike 51 = .ok (.iconst 0, 1) := by decide +kernel
theorem d_MO_isAlike_52 : decode b_MO_isAlike 52 = .ok (.istore 4, 2) := by decide +kernel
theorem d_MO_isAlike_54 : decode b_MO_isAlike 54 = .ok (.iload_n 3, 1) := by decide +kernel
theorem d_MO_isAlike_55 : decode b_MO_isAlike 55 = .ok (.ifCond .eq 55, 3) := by decide +kernel
theorem d_MO_isAlike_58 : decode b_MO_isAlike 58 = .ok (.iload 4, 2) := by decide +kernel
theorem d_MO_isAlike_60 : decode b_MO_isAlike 60 = .ok (.aload_n 0, 1) := by decide +kernel
theorem d_MO_isAlike_61 : decode b_MO_isAlike 61 = .ok (.getfield 77, 3) := by decide +kernel
theorem d_MO_isAlike_64 : decode b_MO_isAlike 64 = .ok (.iload_n 1, 1) := by decide +kernel
theorem d_MO_isAlike_65 : decode b_MO_isAlike 65 = .ok (.iaload, 1) := by decide +kernel
theorem d_MO_isAlike_66 : decode b_MO_isAlike 66 = .ok (.if_icmp .ge 44, 3) := by decide +kernel
theorem d_MO_isAlike_69 : decode b_MO_isAlike 69 = .ok (.aload_n 0, 1) := by decide +kernel
theorem d_MO_isAlike_70 : decode b_MO_isAlike 70 = .ok (.getfield 80, 3) := by decide +kernel
theorem d_MO_isAlike_73 : decode b_MO_isAlike 73 = .ok (.sipush 600, 3) := by decide +kernel
theorem d_MO_isAlike_76 : decode b_MO_isAlike 76 = .ok (.iload_n 1, 1) := by decide +kernel
theorem d_MO_isAlike_77 : decode b_MO_isAlike 77 = .ok (.imul, 1) := by decide +kernel
theorem d_MO_isAlike_78 : decode b_MO_isAlike 78 = .ok (.iload 4, 2) := by decide +kernel
theorem d_MO_isAlike_80 : decode b_MO_isAlike 80 = .ok (.iadd, 1) := by decide +kernel
theorem d_MO_isAlike_81 : decode b_MO_isAlike 81 = .ok (.iaload, 1) := by decide +kernel
theorem d_MO_isAlike_82 : decode b_MO_isAlike 82 = .ok (.aload_n 0, 1) := by decide +kernel
theorem d_MO_isAlike_83 : decode b_MO_isAlike 83 = .ok (.getfield 80, 3) := by decide +kernel
theorem d_MO_isAlike_86 : decode b_MO_isAlike 86 = .ok (.sipush 600, 3) := by decide +kernel
theorem d_MO_isAlike_89 : decode b_MO_isAlike 89 = .ok (.iload_n 2, 1) := by decide +kernel
theorem d_MO_isAlike_90 : decode b_MO_isAlike 90 = .ok (.imul, 1) := by decide +kernel
theorem d_MO_isAlike_91 : decode b_MO_isAlike 91 = .ok (.iload 4, 2) := by decide +kernel
theorem d_MO_isAlike_93 : decode b_MO_isAlike 93 = .ok (.iadd, 1) := by decide +kernel
theorem d_MO_isAlike_94 : decode b_MO_isAlike 94 = .ok (.iaload, 1) := by decide +kernel
theorem d_MO_isAlike_95 : decode b_MO_isAlike 95 = .ok (.if_icmp .ne 7, 3) := by decide +kernel
theorem d_MO_isAlike_98 : decode b_MO_isAlike 98 = .ok (.iconst 1, 1) := by decide +kernel
theorem d_MO_isAlike_99 : decode b_MO_isAlike 99 = .ok (.goto 4, 3) := by decide +kernel
theorem d_MO_isAlike_102 : decode b_MO_isAlike 102 = .ok (.iconst 0, 1) := by decide +kernel
theorem d_MO_isAlike_103 : decode b_MO_isAlike 103 = .ok (.istore_n 3, 1) := by decide +kernel
theorem d_MO_isAlike_104 : decode b_MO_isAlike 104 = .ok (.iinc 4 1, 3) := by decide +kernel
theorem d_MO_isAlike_107 : decode b_MO_isAlike 107 = .ok (.goto (-53), 3) := by decide +kernel
theorem d_MO_isAlike_110 : decode b_MO_isAlike 110 = .ok (.iload_n 3, 1) := by decide +kernel
theorem d_MO_isAlike_111 : decode b_MO_isAlike 111 = .ok (.ireturn, 1) := by decide +kernel
theorem d_MO_cut_0 : decode b_MO_cut 0 = .ok (.aload_n 0, 1) := by decide +kernel
theorem d_MO_cut_1 : decode b_MO_cut 1 = .ok (.iload_n 1, 1) := by decide +kernel
theorem d_MO_cut_2 : decode b_MO_cut 2 = .ok (.iload_n 2, 1) := by decide +kernel
theorem d_MO_cut_3 : decode b_MO_cut 3 = .ok (.bipush 7, 2) := by decide +kernel
theorem d_MO_cut_5 : decode b_MO_cut 5 = .ok (.invokevirtual 159, 3) := by decide +kernel
theorem d_MO_cut_8 : decode b_MO_cut 8 = .ok (.aload_n 0, 1) := by decide +kernel
theorem d_MO_cut_9 : decode b_MO_cut 9 = .ok (.getfield 99, 3) := by decide +kernel
theorem d_MO_cut_12 : decode b_MO_cut 12 = .ok (.ifCond .le 5, 3) := by decide +kernel
theorem d_MO_cut_15 : decode b_MO_cut 15 = .ok (.iconst 0, 1) := by decide +kernel
theorem d_MO_cut_16 : decode b_MO_cut 16 = .ok (.ireturn, 1) := by decide +kernel
theorem d_MO_cut_17 : decode b_MO_cut 17 = .ok (.iload_n 2, 1) := by decide +kernel
theorem d_MO_cut_18 : decode b_MO_cut 18 = .ok (.tableswitch 91 0 6 #[42, 49, 56, 63, 70, 77, 84], 42) := by decide +kernel
theorem d_MO_cut_60 : decode b_MO_cut 60 = .ok (.aload_n 0, 1) := by decide +kernel
theorem d_MO_cut_61 : decode b_MO_cut 61 = .ok (.getfield 56, 3) := by decide +kernel
theorem d_MO_cut_64 : decode b_MO_cut 64 = .ok (.iload_n 1, 1) := by decide +kernel
theorem d_MO_cut_65 : decode b_MO_cut 65 = .ok (.iaload, 1) := by decide +kernel
theorem d_MO_cut_66 : decode b_MO_cut 66 = .ok (.ireturn, 1) := by decide +kernel
theorem d_MO_cut_67 : decode b_MO_cut 67 = .ok (.aload_n 0, 1) := by decide +kernel
theorem d_MO_cut_68 : decode b_MO_cut 68 = .ok (.getfield 68, 3) := by decide +kernel
theorem d_MO_cut_71 : decode b_MO_cut 71 = .ok (.iload_n 1, 1) := by decide +kernel
theorem d_MO_cut_72 : decode b_MO_cut 72 = .ok (.iaload, 1) := by decide +kernel
theorem d_MO_cut_73 : decode b_MO_cut 73 = .ok (.ireturn, 1) := by decide +kernel
theorem d_MO_cut_74 : decode b_MO_cut 74 = .ok (.aload_n 0, 1) := by decide +kernel
theorem d_MO_cut_75 : decode b_MO_cut 75 = .ok (.getfield 71, 3) := by decide +kernel
theorem d_MO_cut_78 : decode b_MO_cut 78 = .ok (.iload_n 1, 1) := by decide +kernel
theorem d_MO_cut_79 : decode b_MO_cut 79 = .ok (.iaload, 1) := by decide +kernel
theorem d_MO_cut_80 : decode b_MO_cut 80 = .ok (.ireturn, 1) := by decide +kernel
theorem d_MO_cut_81 : decode b_MO_cut 81 = .ok (.aload_n 0, 1) := by decide +kernel
theorem d_MO_cut_82 : decode b_MO_cut 82 = .ok (.getfield 62, 3) := by decide +kernel
theorem d_MO_cut_85 : decode b_MO_cut 85 = .ok (.iload_n 1, 1) := by decide +kernel
theorem d_MO_cut_86 : decode b_MO_cut 86 = .ok (.iaload, 1) := by decide +kernel
theorem d_MO_cut_87 : decode b_MO_cut 87 = .ok (.ireturn, 1) := by decide +kernel
theorem d_MO_cut_88 : decode b_MO_cut 88 = .ok (.aload_n 0, 1) := by decide +kernel
theorem d_MO_cut_89 : decode b_MO_cut 89 = .ok (.getfield 59, 3) := by decide +kernel
theorem d_MO_cut_92 : decode b_MO_cut 92 = .ok (.iload_n 1, 1) := by decide +kernel
theorem d_MO_cut_93 : decode b_MO_cut 93 = .ok (.iaload, 1) := by decide +kernel
theorem d_MO_cut_94 : decode b_MO_cut 94 = .ok (.ireturn, 1) := by decide +kernel
theorem d_MO_cut_95 : decode b_MO_cut 95 = .ok (.aload_n 0, 1) := by decide +kernel
theorem d_MO_cut_96 : decode b_MO_cut 96 = .ok (.getfield 65, 3) := by decide +kernel
theorem d_MO_cut_99 : decode b_MO_cut 99 = .ok (.iload_n 1, 1) := by decide +kernel
theorem d_MO_cut_100 : decode b_MO_cut 100 = .ok (.iaload, 1) := by decide +kernel
theorem d_MO_cut_101 : decode b_MO_cut 101 = .ok (.ireturn, 1) := by decide +kernel
theorem d_MO_cut_102 : decode b_MO_cut 102 = .ok (.aload_n 0, 1) := by decide +kernel
theorem d_MO_cut_103 : decode b_MO_cut 103 = .ok (.getfield 74, 3) := by decide +kernel
theorem d_MO_cut_106 : decode b_MO_cut 106 = .ok (.iload_n 1, 1) := by decide +kernel
theorem d_MO_cut_107 : decode b_MO_cut 107 = .ok (.iaload, 1) := by decide +kernel
theorem d_MO_cut_108 : decode b_MO_cut 108 = .ok (.ireturn, 1) := by decide +kernel
theorem d_MO_cut_109 : decode b_MO_cut 109 = .ok (.iconst 0, 1) := by decide +kernel
theorem d_MO_cut_110 : decode b_MO_cut 110 = .ok (.istore_n 3, 1) := by decide +kernel
theorem d_MO_cut_111 : decode b_MO_cut 111 = .ok (.aload_n 0, 1) := by decide +kernel
theorem d_MO_cut_112 : decode b_MO_cut 112 = .ok (.iload_n 3, 1) := by decide +kernel
theorem d_MO_cut_113 : decode b_MO_cut 113 = .ok (.iload_n 1, 1) := by decide +kernel
theorem d_MO_cut_114 : decode b_MO_cut 114 = .ok (.invokevirtual 163, 3) := by decide +kernel
theorem d_MO_cut_117 : decode b_MO_cut 117 = .ok (.ifCond .ne 9, 3) := by decide +kernel
theorem d_MO_cut_120 : decode b_MO_cut 120 = .ok (.iinc 3 1, 3) := by decide +kernel
theorem d_MO_cut_123 : decode b_MO_cut 123 = .ok (.goto (-12), 3) := by decide +kernel
theorem d_MO_cut_126 : decode b_MO_cut 126 = .ok (.iload_n 3, 1) := by decide +kernel
theorem d_MO_cut_127 : decode b_MO_cut 127 = .ok (.ireturn, 1) := by decide +kernel
theorem d_MO_taken_0 : decode b_MO_taken 0 = .ok (.aload_n 0, 1) := by decide +kernel
theorem d_MO_taken_1 : decode b_MO_taken 1 = .ok (.iload_n 1, 1) := by decide +kernel
theorem d_MO_taken_2 : decode b_MO_taken 2 = .ok (.iload_n 3, 1) := by decide +kernel
theorem d_MO_taken_3 : decode b_MO_taken 3 = .ok (.iconst 4, 1) := by decide +kernel
theorem d_MO_taken_4 : decode b_MO_taken 4 = .ok (.invokevirtual 159, 3) := by decide +kernel
theorem d_MO_taken_7 : decode b_MO_taken 7 = .ok (.aload_n 0, 1) := by decide +kernel
theorem d_MO_taken_8 : decode b_MO_taken 8 = .ok (.aload_n 0, 1) := by decide +kernel
theorem d_MO_taken_9 : decode b_MO_taken 9 = .ok (.getfield 99, 3) := by decide +kernel
theorem d_MO_taken_12 : decode b_MO_taken 12 = .ok (.ifCond .ne 23, 3) := by decide +kernel
theorem d_MO_taken_15 : decode b_MO_taken 15 = .ok (.iload_n 2, 1) := by decide +kernel
theorem d_MO_taken_16 : decode b_MO_taken 16 = .ok (.iconst 0, 1) := by decide +kernel
theorem d_MO_taken_17 : decode b_MO_taken 17 = .ok (.aload_n 0, 1) := by decide +kernel
theorem d_MO_taken_18 : decode b_MO_taken 18 = .ok (.getfield 68, 3) := by decide +kernel
theorem d_MO_taken_21 : decode b_MO_taken 21 = .ok (.iload_n 1, 1) := by decide +kernel
theorem d_MO_taken_22 : decode b_MO_taken 22 = .ok (.iaload, 1) := by decide +kernel
theorem d_MO_taken_23 : decode b_MO_taken 23 = .ok (.iconst 1, 1) := by decide +kernel
theorem d_MO_taken_24 : decode b_MO_taken 24 = .ok (.isub, 1) := by decide +kernel
theorem d_MO_taken_25 : decode b_MO_taken 25 = .ok (.invokestatic 102, 3) := by decide +kernel
theorem d_MO_taken_28 : decode b_MO_taken 28 = .ok (.ifCond .ne 7, 3) := by decide +kernel
theorem d_MO_taken_31 : decode b_MO_taken 31 = .ok (.iconst 2, 1) := by decide +kernel
theorem d_MO_taken_32 : decode b_MO_taken 32 = .ok (.goto 7, 3) := by decide +kernel
theorem d_MO_taken_35 : decode b_MO_taken 35 = .ok (.aload_n 0, 1) := by decide +kernel
theorem d_MO_taken_36 : decode b_MO_taken 36 = .ok (.getfield 99, 3) := by decide +kernel
theorem d_MO_taken_39 : decode b_MO_taken 39 = .ok (.putfield 99, 3) := by decide +kernel
theorem d_MO_taken_42 : decode b_MO_taken 42 = .ok (.aload_n 0, 1) := by decide +kernel
theorem d_MO_taken_43 : decode b_MO_taken 43 = .ok (.getfield 99, 3) := by decide +kernel
theorem d_MO_taken_46 : decode b_MO_taken 46 = .ok (.ifCond .le 7, 3) := by decide +kernel
theorem d_MO_taken_49 : decode b_MO_taken 49 = .ok (.iconst 0, 1) := by decide +kernel
theorem d_MO_taken_50 : decode b_MO_taken 50 = .ok (.goto 19, 3) := by decide +kernel
theorem d_MO_taken_53 : decode b_MO_taken 53 = .ok (.aload_n 0, 1) := by decide +kernel
theorem d_MO_taken_54 : decode b_MO_taken 54 = .ok (.getfield 83, 3) := by decide +kernel
theorem d_MO_taken_57 : decode b_MO_taken 57 = .ok (.iconst 5, 1) := by decide +kernel
theorem d_MO_taken_58 : decode b_MO_taken 58 = .ok (.sipush 256, 3) := by decide +kernel
theorem d_MO_taken_61 : decode b_MO_taken 61 = .ok (.iload_n 1, 1) := by decide +kernel
theorem d_MO_taken_62 : decode b_MO_taken 62 = .ok (.imul, 1) := by decide +kernel
theorem d_MO_taken_63 : decode b_MO_taken 63 = .ok (.iload_n 2, 1) := by decide +kernel
theorem d_MO_taken_64 : decode b_MO_taken 64 = .ok (.iadd, 1) := by decide +kernel
theorem d_MO_taken_65 : decode b_MO_taken 65 = .ok (.imul, 1) := by decide +kernel
theorem d_MO_taken_66 : decode b_MO_taken 66 = .ok (.iload_n 3, 1) := by decide +kernel
theorem d_MO_taken_67 : decode b_MO_taken 67 = .ok (.iadd, 1) := by decide +kernel
theorem d_MO_taken_68 : decode b_MO_taken 68 = .ok (.iaload, 1) := by decide +kernel
theorem d_MO_taken_69 : decode b_MO_taken 69 = .ok (.ireturn, 1) := by decide +kernel
theorem d_MO_rest_0 : decode b_MO_rest 0 = .ok (.aload_n 0, 1) := by decide +kernel
theorem d_MO_rest_1 : decode b_MO_rest 1 = .ok (.iload_n 1, 1) := by decide +kernel
theorem d_MO_rest_2 : decode b_MO_rest 2 = .ok (.iload_n 3, 1) := by decide +kernel
theorem d_MO_rest_3 : decode b_MO_rest 3 = .ok (.iconst 3, 1) := by decide +kernel
theorem d_MO_rest_4 : decode b_MO_rest 4 = .ok (.invokevirtual 159, 3) := by decide +kernel
theorem d_MO_rest_7 : decode b_MO_rest 7 = .ok (.aload_n 0, 1) := by decide +kernel
theorem d_MO_rest_8 : decode b_MO_rest 8 = .ok (.aload_n 0, 1) := by decide +kernel
theorem d_MO_rest_9 : decode b_MO_rest 9 = .ok (.getfield 99, 3) := by decide +kernel
theorem d_MO_rest_12 : decode b_MO_rest 12 = .ok (.ifCond .ne 23, 3) := by decide +kernel
theorem d_MO_rest_15 : decode b_MO_rest 15 = .ok (.iload_n 2, 1) := by decide +kernel
theorem d_MO_rest_16 : decode b_MO_rest 16 = .ok (.iconst 0, 1) := by decide +kernel
theorem d_MO_rest_17 : decode b_MO_rest 17 = .ok (.aload_n 0, 1) := by decide +kernel
theorem d_MO_rest_18 : decode b_MO_rest 18 = .ok (.getfield 74, 3) := by decide +kernel
theorem d_MO_rest_21 : decode b_MO_rest 21 = .ok (.iload_n 1, 1) := by decide +kernel
theorem d_MO_rest_22 : decode b_MO_rest 22 = .ok (.iaload, 1) := by decide +kernel
theorem d_MO_rest_23 : decode b_MO_rest 23 = .ok (.iconst 1, 1) := by decide +kernel
theorem d_MO_rest_24 : decode b_MO_rest 24 = .ok (.isub, 1) := by decide +kernel
theorem d_MO_rest_25 : decode b_MO_rest 25 = .ok (.invokestatic 102, 3) := by decide +kernel
theorem d_MO_rest_28 : decode b_MO_rest 28 = .ok (.ifCond .ne 7, 3) := by decide +kernel
theorem d_MO_rest_31 : decode b_MO_rest 31 = .ok (.iconst 2, 1) := by decide +kernel
theorem d_MO_rest_32 : decode b_MO_rest 32 = .ok (.goto 7, 3) := by decide +kernel
theorem d_MO_rest_35 : decode b_MO_rest 35 = .ok (.aload_n 0, 1) := by decide +kernel
theorem d_MO_rest_36 : decode b_MO_rest 36 = .ok (.getfield 99, 3) := by decide +kernel
theorem d_MO_rest_39 : decode b_MO_rest 39 = .ok (.putfield 99, 3) := by decide +kernel
theorem d_MO_rest_42 : decode b_MO_rest 42 = .ok (.aload_n 0, 1) := by decide +kernel
theorem d_MO_rest_43 : decode b_MO_rest 43 = .ok (.getfield 99, 3) := by decide +kernel
theorem d_MO_rest_46 : decode b_MO_rest 46 = .ok (.ifCond .le 7, 3) := by decide +kernel
theorem d_MO_rest_49 : decode b_MO_rest 49 = .ok (.iconst 0, 1) := by decide +kernel
theorem d_MO_rest_50 : decode b_MO_rest 50 = .ok (.goto 19, 3) := by decide +kernel
theorem d_MO_rest_53 : decode b_MO_rest 53 = .ok (.aload_n 0, 1) := by decide +kernel
theorem d_MO_rest_54 : decode b_MO_rest 54 = .ok (.getfield 86, 3) := by decide +kernel
theorem d_MO_rest_57 : decode b_MO_rest 57 = .ok (.iconst 4, 1) := by decide +kernel
theorem d_MO_rest_58 : decode b_MO_rest 58 = .ok (.sipush 256, 3) := by decide +kernel
theorem d_MO_rest_61 : decode b_MO_rest 61 = .ok (.iload_n 1, 1) := by decide +kernel
theorem d_MO_rest_62 : decode b_MO_rest 62 = .ok (.imul, 1) := by decide +kernel
theorem d_MO_rest_63 : decode b_MO_rest 63 = .ok (.iload_n 2, 1) := by decide +kernel
theorem d_MO_rest_64 : decode b_MO_rest 64 = .ok (.iadd, 1) := by decide +kernel
theorem d_MO_rest_65 : decode b_MO_rest 65 = .ok (.imul, 1) := by decide +kernel
theorem d_MO_rest_66 : decode b_MO_rest 66 = .ok (.iload_n 3, 1) := by decide +kernel
theorem d_MO_rest_67 : decode b_MO_rest 67 = .ok (.iadd, 1) := by decide +kernel
theorem d_MO_rest_68 : decode b_MO_rest 68 = .ok (.iaload, 1) := by decide +kernel
theorem d_MO_rest_69 : decode b_MO_rest 69 = .ok (.ireturn, 1) := by decide +kernel
theorem d_MO_left_0 : decode b_MO_left 0 = .ok (.aload_n 0, 1) := by decide +kernel
theorem d_MO_left_1 : decode b_MO_left 1 = .ok (.aload_n 0, 1) := by decide +kernel
theorem d_MO_left_2 : decode b_MO_left 2 = .ok (.getfield 109, 3) := by decide +kernel
theorem d_MO_left_5 : decode b_MO_left 5 = .ok (.ifCond .ne 7, 3) := by decide +kernel
theorem d_MO_left_8 : decode b_MO_left 8 = .ok (.iconst 1, 1) := by decide +kernel
theorem d_MO_left_9 : decode b_MO_left 9 = .ok (.goto 22, 3) := by decide +kernel
theorem d_MO_left_12 : decode b_MO_left 12 = .ok (.iload_n 1, 1) := by decide +kernel
theorem d_MO_left_13 : decode b_MO_left 13 = .ok (.iconst 0, 1) := by decide +kernel
theorem d_MO_left_14 : decode b_MO_left 14 = .ok (.aload_n 0, 1) := by decide +kernel
theorem d_MO_left_15 : decode b_MO_left 15 = .ok (.getfield 113, 3) := by decide +kernel
theorem d_MO_left_18 : decode b_MO_left 18 = .ok (.iconst 1, 1) := by decide +kernel
theorem d_MO_left_19 : decode b_MO_left 19 = .ok (.isub, 1) := by decide +kernel
theorem d_MO_left_20 : decode b_MO_left 20 = .ok (.invokestatic 102, 3) := by decide +kernel
theorem d_MO_left_23 : decode b_MO_left 23 = .ok (.ifCond .ne 7, 3) := by decide +kernel
theorem d_MO_left_26 : decode b_MO_left 26 = .ok (.iconst 2, 1) := by decide +kernel
theorem d_MO_left_27 : decode b_MO_left 27 = .ok (.goto 4, 3) := by decide +kernel
theorem d_MO_left_30 : decode b_MO_left 30 = .ok (.iconst 0, 1) := by decide +kernel
theorem d_MO_left_31 : decode b_MO_left 31 = .ok (.putfield 99, 3) := by decide +kernel
theorem d_MO_left_34 : decode b_MO_left 34 = .ok (.aload_n 0, 1) := by decide +kernel
theorem d_MO_left_35 : decode b_MO_left 35 = .ok (.getfield 99, 3) := by decide +kernel
theorem d_MO_left_38 : decode b_MO_left 38 = .ok (.ifCond .le 7, 3) := by decide +kernel
theorem d_MO_left_41 : decode b_MO_left 41 = .ok (.iconst 0, 1) := by decide +kernel
theorem d_MO_left_42 : decode b_MO_left 42 = .ok (.goto 9, 3) := by decide +kernel
theorem d_MO_left_45 : decode b_MO_left 45 = .ok (.aload_n 0, 1) := by decide +kernel
theorem d_MO_left_46 : decode b_MO_left 46 = .ok (.getfield 35, 3) := by decide +kernel
theorem d_MO_left_49 : decode b_MO_left 49 = .ok (.iload_n 1, 1) := by decide +kernel
theorem d_MO_left_50 : decode b_MO_left 50 = .ok (.iaload, 1) := by decide +kernel
theorem d_MO_left_51 : decode b_MO_left 51 = .ok (.ireturn, 1) := by decide +kernel
theorem d_MO_all_0 : decode b_MO_all 0 = .ok (.aload_n 0, 1) := by decide +kernel
theorem d_MO_all_1 : decode b_MO_all 1 = .ok (.aload_n 0, 1) := by decide +kernel
theorem d_MO_all_2 : decode b_MO_all 2 = .ok (.getfield 109, 3) := by decide +kernel
theorem d_MO_all_5 : decode b_MO_all 5 = .ok (.ifCond .ne 7, 3) := by decide +kernel
theorem d_MO_all_8 : decode b_MO_all 8 = .ok (.iconst 1, 1) := by decide +kernel
theorem d_MO_all_9 : decode b_MO_all 9 = .ok (.goto 17, 3) := by decide +kernel
theorem d_MO_all_12 : decode b_MO_all 12 = .ok (.iload_n 1, 1) := by decide +kernel
theorem d_MO_all_13 : decode b_MO_all 13 = .ok (.iconst 0, 1) := by decide +kernel
theorem d_MO_all_14 : decode b_MO_all 14 = .ok (.iconst 2, 1) := by decide +kernel
theorem d_MO_all_15 : decode b_MO_all 15 = .ok (.invokestatic 102, 3) := by decide +kernel
theorem d_MO_all_18 : decode b_MO_all 18 = .ok (.ifCond .ne 7, 3) := by decide +kernel
theorem d_MO_all_21 : decode b_MO_all 21 = .ok (.iconst 2, 1) := by decide +kernel
theorem d_MO_all_22 : decode b_MO_all 22 = .ok (.goto 4, 3) := by decide +kernel
theorem d_MO_all_25 : decode b_MO_all 25 = .ok (.iconst 0, 1) := by decide +kernel
theorem d_MO_all_26 : decode b_MO_all 26 = .ok (.putfield 99, 3) := by decide +kernel
theorem d_MO_all_29 : decode b_MO_all 29 = .ok (.lconst 0, 1) := by decide +kernel
theorem d_MO_all_30 : decode b_MO_all 30 = .ok (.lstore_n 2, 1) := by decide +kernel
theorem d_MO_all_31 : decode b_MO_all 31 = .ok (.iconst 0, 1) := by decide +kernel
theorem d_MO_all_32 : decode b_MO_all 32 = .ok (.istore 4, 2) := by decide +kernel
theorem d_MO_all_34 : decode b_MO_all 34 = .ok (.iload 4, 2) := by decide +kernel
theorem d_MO_all_36 : decode b_MO_all 36 = .ok (.aload_n 0, 1) := by decide +kernel
theorem d_MO_all_37 : decode b_MO_all 37 = .ok (.getfield 152, 3) := by decide +kernel
theorem d_MO_all_40 : decode b_MO_all 40 = .ok (.if_icmp .ge 75, 3) := by decide +kernel
theorem d_MO_all_43 : decode b_MO_all 43 = .ok (.aload_n 0, 1) := by decide +kernel
theorem d_MO_all_44 : decode b_MO_all 44 = .ok (.getfield 99, 3) := by decide +kernel
theorem d_MO_all_47 : decode b_MO_all 47 = .ok (.ifCond .ne 68, 3) := by decide +kernel
theorem d_MO_all_50 : decode b_MO_all 50 = .ok (.aload_n 0, 1) := by decide +kernel
theorem d_MO_all_51 : decode b_MO_all 51 = .ok (.getfield 56, 3) := by decide +kernel
theorem d_MO_all_54 : decode b_MO_all 54 = .ok (.iload 4, 2) := by decide +kernel
theorem d_MO_all_56 : decode b_MO_all 56 = .ok (.iaload, 1) := by decide +kernel
theorem d_MO_all_57 : decode b_MO_all 57 = .ok (.istore 5, 2) := by decide +kernel
theorem d_MO_all_59 : decode b_MO_all 59 = .ok (.lload_n 2, 1) := by decide +kernel
theorem d_MO_all_60 : decode b_MO_all 60 = .ok (.iload_n 1, 1) := by decide +kernel
theorem d_MO_all_61 : decode b_MO_all 61 = .ok (.ifCond .ne 14, 3) := by decide +kernel
theorem d_MO_all_64 : decode b_MO_all 64 = .ok (.aload_n 0, 1) := by decide +kernel
theorem d_MO_all_65 : decode b_MO_all 65 = .ok (.getfield 16, 3) := by decide +kernel
theorem d_MO_all_68 : decode b_MO_all 68 = .ok (.iload 5, 2) := by decide +kernel
theorem d_MO_all_70 : decode b_MO_all 70 = .ok (.iaload, 1) := by decide +kernel
theorem d_MO_all_71 : decode b_MO_all 71 = .ok (.i2l, 1) := by decide +kernel
theorem d_MO_all_72 : decode b_MO_all 72 = .ok (.goto 35, 3) := by decide +kernel
theorem d_MO_all_75 : decode b_MO_all 75 = .ok (.iload_n 1, 1) := by decide +kernel
theorem d_MO_all_76 : decode b_MO_all 76 = .ok (.iconst 1, 1) := by decide +kernel
theorem d_MO_all_77 : decode b_MO_all 77 = .ok (.if_icmp .ne 22, 3) := by decide +kernel
theorem d_MO_all_80 : decode b_MO_all 80 = .ok (.aload_n 0, 1) := by decide +kernel
theorem d_MO_all_81 : decode b_MO_all 81 = .ok (.getfield 7, 3) := by decide +kernel
theorem d_MO_all_84 : decode b_MO_all 84 = .ok (.iload 5, 2) := by decide +kernel
theorem d_MO_all_86 : decode b_MO_all 86 = .ok (.iaload, 1) := by decide +kernel
theorem d_MO_all_87 : decode b_MO_all 87 = .ok (.aload_n 0, 1) := by decide +kernel
theorem d_MO_all_88 : decode b_MO_all 88 = .ok (.getfield 13, 3) := by decide +kernel
theorem d_MO_all_91 : decode b_MO_all 91 = .ok (.iload 5, 2) := by decide +kernel
theorem d_MO_all_93 : decode b_MO_all 93 = .ok (.iaload, 1) := by decide +kernel
theorem d_MO_all_94 : decode b_MO_all 94 = .ok (.imul, 1) := by decide +kernel
theorem d_MO_all_95 : decode b_MO_all 95 = .ok (.i2l, 1) := by decide +kernel
theorem d_MO_all_96 : decode b_MO_all 96 = .ok (.goto 11, 3) := by decide +kernel
theorem d_MO_all_99 : decode b_MO_all 99 = .ok (.aload_n 0, 1) := by decide +kernel
theorem d_MO_all_100 : decode b_MO_all 100 = .ok (.getfield 71, 3) := by decide +kernel
theorem d_MO_all_103 : decode b_MO_all 103 = .ok (.iload 4, 2) := by decide +kernel
theorem d_MO_all_105 : decode b_MO_all 105 = .ok (.iaload, 1) := by decide +kernel
theorem d_MO_all_106 : decode b_MO_all 106 = .ok (.i2l, 1) := by decide +kernel
theorem d_MO_all_107 : decode b_MO_all 107 = .ok (.ladd, 1) := by decide +kernel
theorem d_MO_all_108 : decode b_MO_all 108 = .ok (.lstore_n 2, 1) := by decide +kernel
theorem d_MO_all_109 : decode b_MO_all 109 = .ok (.iinc 4 1, 3) := by decide +kernel
theorem d_MO_all_112 : decode b_MO_all 112 = .ok (.goto (-78), 3) := by decide +kernel
theorem d_MO_all_115 : decode b_MO_all 115 = .ok (.lload_n 2, 1) := by decide +kernel
theorem d_MO_all_116 : decode b_MO_all 116 = .ok (.lreturn, 1) := by decide +kernel
theorem d_MO_bound_0 : decode b_MO_bound 0 = .ok (.aload_n 0, 1) := by decide +kernel
theorem d_MO_bound_1 : decode b_MO_bound 1 = .ok (.iconst 0, 1) := by decide +kernel
theorem d_MO_bound_2 : decode b_MO_bound 2 = .ok (.putfield 99, 3) := by decide +kernel
theorem d_MO_bound_5 : decode b_MO_bound 5 = .ok (.iconst 0, 1) := by decide +kernel
theorem d_MO_bound_6 : decode b_MO_bound 6 = .ok (.istore_n 1, 1) := by decide +kernel
theorem d_MO_bound_7 : decode b_MO_bound 7 = .ok (.iconst 0, 1) := by decide +kernel
theorem d_MO_bound_8 : decode b_MO_bound 8 = .ok (.istore_n 2, 1) := by decide +kernel
theorem d_MO_bound_9 : decode b_MO_bound 9 = .ok (.iload_n 2, 1) := by decide +kernel
theorem d_MO_bound_10 : decode b_MO_bound 10 = .ok (.aload_n 0, 1) := by decide +kernel
theorem d_MO_bound_11 : decode b_MO_bound 11 = .ok (.getfield 113, 3) := by decide +kernel
theorem d_MO_bound_14 : decode b_MO_bound 14 = .ok (.if_icmp .ge 32, 3) := by decide +kernel
theorem d_MO_bound_17 : decode b_MO_bound 17 = .ok (.iload_n 1, 1) := by decide +kernel
theorem d_MO_bound_18 : decode b_MO_bound 18 = .ok (.aload_n 0, 1) := by decide +kernel
theorem d_MO_bound_19 : decode b_MO_bound 19 = .ok (.getfield 28, 3) := by decide +kernel
theorem d_MO_bound_22 : decode b_MO_bound 22 = .ok (.iload_n 2, 1) := by decide +kernel
theorem d_MO_bound_23 : decode b_MO_bound 23 = .ok (.iaload, 1) := by decide +kernel
theorem d_MO_bound_24 : decode b_MO_bound 24 = .ok (.aload_n 0, 1) := by decide +kernel
theorem d_MO_bound_25 : decode b_MO_bound 25 = .ok (.getfield 22, 3) := by decide +kernel
theorem d_MO_bound_28 : decode b_MO_bound 28 = .ok (.iload_n 2, 1) := by decide +kernel
theorem d_MO_bound_29 : decode b_MO_bound 29 = .ok (.iaload, 1) := by decide +kernel
theorem d_MO_bound_30 : decode b_MO_bound 30 = .ok (.imul, 1) := by decide +kernel
theorem d_MO_bound_31 : decode b_MO_bound 31 = .ok (.aload_n 0, 1) := by decide +kernel
theorem d_MO_bound_32 : decode b_MO_bound 32 = .ok (.getfield 25, 3) := by decide +kernel
theorem d_MO_bound_35 : decode b_MO_bound 35 = .ok (.iload_n 2, 1) := by decide +kernel
theorem d_MO_bound_36 : decode b_MO_bound 36 = .ok (.iaload, 1) := by decide +kernel
theorem d_MO_bound_37 : decode b_MO_bound 37 = .ok (.imul, 1) := by decide +kernel
theorem d_MO_bound_38 : decode b_MO_bound 38 = .ok (.iadd, 1) := by decide +kernel
theorem d_MO_bound_39 : decode b_MO_bound 39 = .ok (.istore_n 1, 1) := by decide +kernel
theorem d_MO_bound_40 : decode b_MO_bound 40 = .ok (.iinc 2 1, 3) := by decide +kernel
theorem d_MO_bound_43 : decode b_MO_bound 43 = .ok (.goto (-34), 3) := by decide +kernel
theorem d_MO_bound_46 : decode b_MO_bound 46 = .ok (.iconst 0, 1) := by decide +kernel
theorem d_MO_bound_47 : decode b_MO_bound 47 = .ok (.istore_n 2, 1) := by decide +kernel
theorem d_MO_bound_48 : decode b_MO_bound 48 = .ok (.iconst 0, 1) := by decide +kernel
theorem d_MO_bound_49 : decode b_MO_bound 49 = .ok (.istore_n 3, 1) := by decide +kernel
theorem d_MO_bound_50 : decode b_MO_bound 50 = .ok (.iload_n 3, 1) := by decide +kernel
theorem d_MO_bound_51 : decode b_MO_bound 51 = .ok (.aload_n 0, 1) := by decide +kernel
theorem d_MO_bound_52 : decode b_MO_bound 52 = .ok (.getfield 106, 3) := by decide +kernel
theorem d_MO_bound_55 : decode b_MO_bound 55 = .ok (.if_icmp .ge 44, 3) := by decide +kernel
theorem d_MO_bound_58 : decode b_MO_bound 58 = .ok (.aload_n 0, 1) := by decide +kernel
theorem d_MO_bound_59 : decode b_MO_bound 59 = .ok (.getfield 7, 3) := by decide +kernel
theorem d_MO_bound_62 : decode b_MO_bound 62 = .ok (.iload_n 3, 1) := by decide +kernel
theorem d_MO_bound_63 : decode b_MO_bound 63 = .ok (.iaload, 1) := by decide +kernel
theorem d_MO_bound_64 : decode b_MO_bound 64 = .ok (.aload_n 0, 1) := by decide +kernel
theorem d_MO_bound_65 : decode b_MO_bound 65 = .ok (.getfield 13, 3) := by decide +kernel
theorem d_MO_bound_68 : decode b_MO_bound 68 = .ok (.iload_n 3, 1) := by decide +kernel
theorem d_MO_bound_69 : decode b_MO_bound 69 = .ok (.iaload, 1) := by decide +kernel
theorem d_MO_bound_70 : decode b_MO_bound 70 = .ok (.imul, 1) := by decide +kernel
theorem d_MO_bound_71 : decode b_MO_bound 71 = .ok (.iload_n 2, 1) := by decide +kernel
theorem d_MO_bound_72 : decode b_MO_bound 72 = .ok (.if_icmp .le 19, 3) := by decide +kernel
theorem d_MO_bound_75 : decode b_MO_bound 75 = .ok (.aload_n 0, 1) := by decide +kernel
theorem d_MO_bound_76 : decode b_MO_bound 76 = .ok (.getfield 7, 3) := by decide +kernel
theorem d_MO_bound_79 : decode b_MO_bound 79 = .ok (.iload_n 3, 1) := by decide +kernel
theorem d_MO_bound_80 : decode b_MO_bound 80 = .ok (.iaload, 1) := by decide +kernel
theorem d_MO_bound_81 : decode b_MO_bound 81 = .ok (.aload_n 0, 1) := by decide +kernel
theorem d_MO_bound_82 : decode b_MO_bound 82 = .ok (.getfield 13, 3) := by decide +kernel
theorem d_MO_bound_85 : decode b_MO_bound 85 = .ok (.iload_n 3, 1) := by decide +kernel
theorem d_MO_bound_86 : decode b_MO_bound 86 = .ok (.iaload, 1) := by decide +kernel
theorem d_MO_bound_87 : decode b_MO_bound 87 = .ok (.imul, 1) := by decide +kernel
theorem d_MO_bound_88 : decode b_MO_bound 88 = .ok (.goto 4, 3) := by decide +kernel
theorem d_MO_bound_91 : decode b_MO_bound 91 = .ok (.iload_n 2, 1) := by decide +kernel
theorem d_MO_bound_92 : decode b_MO_bound 92 = .ok (.istore_n 2, 1) := by decide +kernel
theorem d_MO_bound_93 : decode b_MO_bound 93 = .ok (.iinc 3 1, 3) := by decide +kernel
theorem d_MO_bound_96 : decode b_MO_bound 96 = .ok (.goto (-46), 3) := by decide +kernel
theorem d_MO_bound_99 : decode b_MO_bound 99 = .ok (.iload_n 2, 1) := by decide +kernel
theorem d_MO_bound_100 : decode b_MO_bound 100 = .ok (.ifCond .ne 7, 3) := by decide +kernel
theorem d_MO_bound_103 : decode b_MO_bound 103 = .ok (.iconst 0, 1) := by decide +kernel
theorem d_MO_bound_104 : decode b_MO_bound 104 = .ok (.goto 10, 3) := by decide +kernel
theorem d_MO_bound_107 : decode b_MO_bound 107 = .ok (.iload_n 1, 1) := by decide +kernel
theorem d_MO_bound_108 : decode b_MO_bound 108 = .ok (.iload_n 2, 1) := by decide +kernel
theorem d_MO_bound_109 : decode b_MO_bound 109 = .ok (.iadd, 1) := by decide +kernel
theorem d_MO_bound_110 : decode b_MO_bound 110 = .ok (.iconst 1, 1) := by decide +kernel
theorem d_MO_bound_111 : decode b_MO_bound 111 = .ok (.isub, 1) := by decide +kernel
theorem d_MO_bound_112 : decode b_MO_bound 112 = .ok (.iload_n 2, 1) := by decide +kernel
theorem d_MO_bound_113 : decode b_MO_bound 113 = .ok (.idiv, 1) := by decide +kernel
theorem d_MO_bound_114 : decode b_MO_bound 114 = .ok (.ireturn, 1) := by decide +kernel
