theorem d_ST_init_0 : decode b_ST_init 0 = .ok (.aload_n 0, 1) := by decide +kernel
theorem d_ST_init_1 : decode b_ST_init 1 = .ok (.invokespecial 3, 3) := by decide +kernel
theorem d_ST_init_4 : decode b_ST_init 4 = .ok (.aload_n 0, 1) := by decide +kernel
theorem d_ST_init_5 : decode b_ST_init 5 = .ok (.iconst 4, 1) := by decide +kernel
theorem d_ST_init_6 : decode b_ST_init 6 = .ok (.anewarray 9, 3) := by decide +kernel
theorem d_ST_init_9 : decode b_ST_init 9 = .ok (.putfield 11, 3) := by decide +kernel
theorem d_ST_init_12 : decode b_ST_init 12 = .ok (.aload_n 0, 1) := by decide +kernel
theorem d_ST_init_13 : decode b_ST_init 13 = .ok (.bipush 8, 2) := by decide +kernel
theorem d_ST_init_15 : decode b_ST_init 15 = .ok (.anewarray 15, 3) := by decide +kernel
theorem d_ST_init_18 : decode b_ST_init 18 = .ok (.putfield 17, 3) := by decide +kernel
theorem d_ST_init_21 : decode b_ST_init 21 = .ok (.aload_n 0, 1) := by decide +kernel
theorem d_ST_init_22 : decode b_ST_init 22 = .ok (.bipush 20, 2) := by decide +kernel
theorem d_ST_init_24 : decode b_ST_init 24 = .ok (.anewarray 21, 3) := by decide +kernel
theorem d_ST_init_27 : decode b_ST_init 27 = .ok (.putfield 23, 3) := by decide +kernel
theorem d_ST_init_30 : decode b_ST_init 30 = .ok (.aload_n 0, 1) := by decide +kernel
theorem d_ST_init_31 : decode b_ST_init 31 = .ok (.sipush 400, 3) := by decide +kernel
theorem d_ST_init_34 : decode b_ST_init 34 = .ok (.newarray .int, 2) := by decide +kernel
theorem d_ST_init_36 : decode b_ST_init 36 = .ok (.putfield 27, 3) := by decide +kernel
theorem d_ST_init_39 : decode b_ST_init 39 = .ok (.aload_n 0, 1) := by decide +kernel
theorem d_ST_init_40 : decode b_ST_init 40 = .ok (.sipush 5120, 3) := by decide +kernel
theorem d_ST_init_43 : decode b_ST_init 43 = .ok (.newarray .int, 2) := by decide +kernel
theorem d_ST_init_45 : decode b_ST_init 45 = .ok (.putfield 31, 3) := by decide +kernel
theorem d_ST_init_48 : decode b_ST_init 48 = .ok (.aload_n 0, 1) := by decide +kernel
theorem d_ST_init_49 : decode b_ST_init 49 = .ok (.iconst 0, 1) := by decide +kernel
theorem d_ST_init_50 : decode b_ST_init 50 = .ok (.putfield 34, 3) := by decide +kernel
theorem d_ST_init_53 : decode b_ST_init 53 = .ok (.aload_n 0, 1) := by decide +kernel
theorem d_ST_init_54 : decode b_ST_init 54 = .ok (.iconst 0, 1) := by decide +kernel
theorem d_ST_init_55 : decode b_ST_init 55 = .ok (.putfield 38, 3) := by decide +kernel
theorem d_ST_init_58 : decode b_ST_init 58 = .ok (.aload_n 0, 1) := by decide +kernel
theorem d_ST_init_59 : decode b_ST_init 59 = .ok (.iconst 0, 1) := by decide +kernel
theorem d_ST_init_60 : decode b_ST_init 60 = .ok (.putfield 41, 3) := by decide +kernel
theorem d_ST_init_63 : decode b_ST_init 63 = .ok (.aload_n 0, 1) := by decide +kernel
theorem d_ST_init_64 : decode b_ST_init 64 = .ok (.iconst 0, 1) := by decide +kernel
theorem d_ST_init_65 : decode b_ST_init 65 = .ok (.putfield 44, 3) := by decide +kernel
theorem d_ST_init_68 : decode b_ST_init 68 = .ok (.aload_n 0, 1) := by decide +kernel
theorem d_ST_init_69 : decode b_ST_init 69 = .ok (.iconst 0, 1) := by decide +kernel
theorem d_ST_init_70 : decode b_ST_init 70 = .ok (.putfield 47, 3) := by decide +kernel
theorem d_ST_init_73 : decode b_ST_init 73 = .ok (.aload_n 0, 1) := by decide +kernel
theorem d_ST_init_74 : decode b_ST_init 74 = .ok (.iconst 0, 1) := by decide +kernel
theorem d_ST_init_75 : decode b_ST_init 75 = .ok (.putfield 50, 3) := by decide +kernel
theorem d_ST_init_78 : decode b_ST_init 78 = .ok (.aload_n 0, 1) := by decide +kernel
theorem d_ST_init_79 : decode b_ST_init 79 = .ok (.iload_n 2, 1) := by decide +kernel
theorem d_ST_init_80 : decode b_ST_init 80 = .ok (.iconst 1, 1) := by decide +kernel
theorem d_ST_init_81 : decode b_ST_init 81 = .ok (.iconst 3, 1) := by decide +kernel
theorem d_ST_init_82 : decode b_ST_init 82 = .ok (.invokestatic 54, 3) := by decide +kernel
theorem d_ST_init_85 : decode b_ST_init 85 = .ok (.putfield 58, 3) := by decide +kernel
theorem d_ST_init_88 : decode b_ST_init 88 = .ok (.aload_n 0, 1) := by decide +kernel
theorem d_ST_init_89 : decode b_ST_init 89 = .ok (.iload_n 3, 1) := by decide +kernel
theorem d_ST_init_90 : decode b_ST_init 90 = .ok (.iconst 1, 1) := by decide +kernel
theorem d_ST_init_91 : decode b_ST_init 91 = .ok (.bipush 16, 2) := by decide +kernel
theorem d_ST_init_93 : decode b_ST_init 93 = .ok (.invokestatic 54, 3) := by decide +kernel
theorem d_ST_init_96 : decode b_ST_init 96 = .ok (.putfield 61, 3) := by decide +kernel
theorem d_ST_init_99 : decode b_ST_init 99 = .ok (.aload_n 0, 1) := by decide +kernel
theorem d_ST_init_100 : decode b_ST_init 100 = .ok (.new 64, 3) := by decide +kernel
theorem d_ST_init_103 : decode b_ST_init 103 = .ok (.dup, 1) := by decide +kernel
theorem d_ST_init_104 : decode b_ST_init 104 = .ok (.iload_n 1, 1) := by decide +kernel
theorem d_ST_init_105 : decode b_ST_init 105 = .ok (.iconst 0, 1) := by decide +kernel
theorem d_ST_init_106 : decode b_ST_init 106 = .ok (.iconst 3, 1) := by decide +kernel
theorem d_ST_init_107 : decode b_ST_init 107 = .ok (.invokestatic 54, 3) := by decide +kernel
theorem d_ST_init_110 : decode b_ST_init 110 = .ok (.invokespecial 66, 3) := by decide +kernel
theorem d_ST_init_113 : decode b_ST_init 113 = .ok (.putfield 69, 3) := by decide +kernel
theorem d_ST_init_116 : decode b_ST_init 116 = .ok (.aload_n 0, 1) := by decide +kernel
theorem d_ST_init_117 : decode b_ST_init 117 = .ok (.new 73, 3) := by decide +kernel
theorem d_ST_init_120 : decode b_ST_init 120 = .ok (.dup, 1) := by decide +kernel
theorem d_ST_init_121 : decode b_ST_init 121 = .ok (.aload_n 0, 1) := by decide +kernel
theorem d_ST_init_122 : decode b_ST_init 122 = .ok (.getfield 69, 3) := by decide +kernel
theorem d_ST_init_125 : decode b_ST_init 125 = .ok (.invokespecial 75, 3) := by decide +kernel
theorem d_ST_init_128 : decode b_ST_init 128 = .ok (.putfield 78, 3) := by decide +kernel
theorem d_ST_init_131 : decode b_ST_init 131 = .ok (.iconst 0, 1) := by decide +kernel
theorem d_ST_init_132 : decode b_ST_init 132 = .ok (.istore 4, 2) := by decide +kernel
theorem d_ST_init_134 : decode b_ST_init 134 = .ok (.iload 4, 2) := by decide +kernel
theorem d_ST_init_136 : decode b_ST_init 136 = .ok (.aload_n 0, 1) := by decide +kernel
theorem d_ST_init_137 : decode b_ST_init 137 = .ok (.getfield 11, 3) := by decide +kernel
theorem d_ST_init_140 : decode b_ST_init 140 = .ok (.arraylength, 1) := by decide +kernel
theorem d_ST_init_141 : decode b_ST_init 141 = .ok (.if_icmp .ge 23, 3) := by decide +kernel
theorem d_ST_init_144 : decode b_ST_init 144 = .ok (.aload_n 0, 1) := by decide +kernel
theorem d_ST_init_145 : decode b_ST_init 145 = .ok (.getfield 11, 3) := by decide +kernel
theorem d_ST_init_148 : decode b_ST_init 148 = .ok (.iload 4, 2) := by decide +kernel
theorem d_ST_init_150 : decode b_ST_init 150 = .ok (.new 9, 3) := by decide +kernel
theorem d_ST_init_153 : decode b_ST_init 153 = .ok (.dup, 1) := by decide +kernel
theorem d_ST_init_154 : decode b_ST_init 154 = .ok (.invokespecial 82, 3) := by decide +kernel
theorem d_ST_init_157 : decode b_ST_init 157 = .ok (.aastore, 1) := by decide +kernel
theorem d_ST_init_158 : decode b_ST_init 158 = .ok (.iinc 4 1, 3) := by decide +kernel
theorem d_ST_init_161 : decode b_ST_init 161 = .ok (.goto (-27), 3) := by decide +kernel
theorem d_ST_init_164 : decode b_ST_init 164 = .ok (.iconst 0, 1) := by decide +kernel
theorem d_ST_init_165 : decode b_ST_init 165 = .ok (.istore 4, 2) := by decide +kernel
theorem d_ST_init_167 : decode b_ST_init 167 = .ok (.iload 4, 2) := by decide +kernel
theorem d_ST_init_169 : decode b_ST_init 169 = .ok (.aload_n 0, 1) := by decide +kernel
theorem d_ST_init_170 : decode b_ST_init 170 = .ok (.getfield 17, 3) := by decide +kernel
theorem d_ST_init_173 : decode b_ST_init 173 = .ok (.arraylength, 1) := by decide +kernel
theorem d_ST_init_174 : decode b_ST_init 174 = .ok (.if_icmp .ge 23, 3) := by decide +kernel
theorem d_ST_init_177 : decode b_ST_init 177 = .ok (.aload_n 0, 1) := by decide +kernel
theorem d_ST_init_178 : decode b_ST_init 178 = .ok (.getfield 17, 3) := by decide +kernel
theorem d_ST_init_181 : decode b_ST_init 181 = .ok (.iload 4, 2) := by decide +kernel
theorem d_ST_init_183 : decode b_ST_init 183 = .ok (.new 15, 3) := by decide +kernel
theorem d_ST_init_186 : decode b_ST_init 186 = .ok (.dup, 1) := by decide +kernel
theorem d_ST_init_187 : decode b_ST_init 187 = .ok (.invokespecial 83, 3) := by decide +kernel
theorem d_ST_init_190 : decode b_ST_init 190 = .ok (.aastore, 1) := by decide +kernel
theorem d_ST_init_191 : decode b_ST_init 191 = .ok (.iinc 4 1, 3) := by decide +kernel
theorem d_ST_init_194 : decode b_ST_init 194 = .ok (.goto (-27), 3) := by decide +kernel
theorem d_ST_init_197 : decode b_ST_init 197 = .ok (.iconst 0, 1) := by decide +kernel
theorem d_ST_init_198 : decode b_ST_init 198 = .ok (.istore 4, 2) := by decide +kernel
theorem d_ST_init_200 : decode b_ST_init 200 = .ok (.iload 4, 2) := by decide +kernel
theorem d_ST_init_202 : decode b_ST_init 202 = .ok (.aload_n 0, 1) := by decide +kernel
theorem d_ST_init_203 : decode b_ST_init 203 = .ok (.getfield 23, 3) := by decide +kernel
theorem d_ST_init_206 : decode b_ST_init 206 = .ok (.arraylength, 1) := by decide +kernel
theorem d_ST_init_207 : decode b_ST_init 207 = .ok (.if_icmp .ge 23, 3) := by decide +kernel
theorem d_ST_init_210 : decode b_ST_init 210 = .ok (.aload_n 0, 1) := by decide +kernel
theorem d_ST_init_211 : decode b_ST_init 211 = .ok (.getfield 23, 3) := by decide +kernel
theorem d_ST_init_214 : decode b_ST_init 214 = .ok (.iload 4, 2) := by decide +kernel
theorem d_ST_init_216 : decode b_ST_init 216 = .ok (.new 21, 3) := by decide +kernel
theorem d_ST_init_219 : decode b_ST_init 219 = .ok (.dup, 1) := by decide +kernel
theorem d_ST_init_220 : decode b_ST_init 220 = .ok (.invokespecial 84, 3) := by decide +kernel
theorem d_ST_init_223 : decode b_ST_init 223 = .ok (.aastore, 1) := by decide +kernel
theorem d_ST_init_224 : decode b_ST_init 224 = .ok (.iinc 4 1, 3) := by decide +kernel
theorem d_ST_init_227 : decode b_ST_init 227 = .ok (.goto (-27), 3) := by decide +kernel
theorem d_ST_init_230 : decode b_ST_init 230 = .ok (.return_, 1) := by decide +kernel
theorem d_ST_sheet_0 : decode b_ST_sheet 0 = .ok (.iload_n 1, 1) := by decide +kernel
theorem d_ST_sheet_1 : decode b_ST_sheet 1 = .ok (.invokestatic 85, 3) := by decide +kernel
theorem d_ST_sheet_4 : decode b_ST_sheet 4 = .ok (.ifCond .eq 10, 3) := by decide +kernel
theorem d_ST_sheet_7 : decode b_ST_sheet 7 = .ok (.iload_n 2, 1) := by decide +kernel
theorem d_ST_sheet_8 : decode b_ST_sheet 8 = .ok (.invokestatic 85, 3) := by decide +kernel
theorem d_ST_sheet_11 : decode b_ST_sheet 11 = .ok (.ifCond .ne 13, 3) := by decide +kernel
theorem d_ST_sheet_14 : decode b_ST_sheet 14 = .ok (.new 89, 3) := by decide +kernel
theorem d_ST_sheet_17 : decode b_ST_sheet 17 = .ok (.dup, 1) := by decide +kernel
theorem d_ST_sheet_18 : decode b_ST_sheet 18 = .ok (.ldc 91, 2) := by decide +kernel
theorem d_ST_sheet_20 : decode b_ST_sheet 20 = .ok (.invokespecial 93, 3) := by decide +kernel
theorem d_ST_sheet_23 : decode b_ST_sheet 23 = .ok (.athrow, 1) := by decide +kernel
theorem d_ST_sheet_24 : decode b_ST_sheet 24 = .ok (.iload_n 3, 1) := by decide +kernel
theorem d_ST_sheet_25 : decode b_ST_sheet 25 = .ok (.iconst 1, 1) := by decide +kernel
theorem d_ST_sheet_26 : decode b_ST_sheet 26 = .ok (.sipush 10000, 3) := by decide +kernel
theorem d_ST_sheet_29 : decode b_ST_sheet 29 = .ok (.invokestatic 96, 3) := by decide +kernel
theorem d_ST_sheet_32 : decode b_ST_sheet 32 = .ok (.ifCond .ne 13, 3) := by decide +kernel
theorem d_ST_sheet_35 : decode b_ST_sheet 35 = .ok (.new 89, 3) := by decide +kernel
theorem d_ST_sheet_38 : decode b_ST_sheet 38 = .ok (.dup, 1) := by decide +kernel
theorem d_ST_sheet_39 : decode b_ST_sheet 39 = .ok (.ldc 100, 2) := by decide +kernel
theorem d_ST_sheet_41 : decode b_ST_sheet 41 = .ok (.invokespecial 93, 3) := by decide +kernel
theorem d_ST_sheet_44 : decode b_ST_sheet 44 = .ok (.athrow, 1) := by decide +kernel
theorem d_ST_sheet_45 : decode b_ST_sheet 45 = .ok (.iload 4, 2) := by decide +kernel
theorem d_ST_sheet_47 : decode b_ST_sheet 47 = .ok (.iconst 0, 1) := by decide +kernel
theorem d_ST_sheet_48 : decode b_ST_sheet 48 = .ok (.bipush 20, 2) := by decide +kernel
theorem d_ST_sheet_50 : decode b_ST_sheet 50 = .ok (.invokestatic 96, 3) := by decide +kernel
theorem d_ST_sheet_53 : decode b_ST_sheet 53 = .ok (.ifCond .ne 13, 3) := by decide +kernel
theorem d_ST_sheet_56 : decode b_ST_sheet 56 = .ok (.new 89, 3) := by decide +kernel
theorem d_ST_sheet_59 : decode b_ST_sheet 59 = .ok (.dup, 1) := by decide +kernel
theorem d_ST_sheet_60 : decode b_ST_sheet 60 = .ok (.ldc 102, 2) := by decide +kernel
theorem d_ST_sheet_62 : decode b_ST_sheet 62 = .ok (.invokespecial 93, 3) := by decide +kernel
theorem d_ST_sheet_65 : decode b_ST_sheet 65 = .ok (.athrow, 1) := by decide +kernel
theorem d_ST_sheet_66 : decode b_ST_sheet 66 = .ok (.aload_n 0, 1) := by decide +kernel
theorem d_ST_sheet_67 : decode b_ST_sheet 67 = .ok (.getfield 34, 3) := by decide +kernel
theorem d_ST_sheet_70 : decode b_ST_sheet 70 = .ok (.aload_n 0, 1) := by decide +kernel
theorem d_ST_sheet_71 : decode b_ST_sheet 71 = .ok (.getfield 11, 3) := by decide +kernel
theorem d_ST_sheet_74 : decode b_ST_sheet 74 = .ok (.arraylength, 1) := by decide +kernel
theorem d_ST_sheet_75 : decode b_ST_sheet 75 = .ok (.if_icmp .lt 13, 3) := by decide +kernel
theorem d_ST_sheet_78 : decode b_ST_sheet 78 = .ok (.new 104, 3) := by decide +kernel
theorem d_ST_sheet_81 : decode b_ST_sheet 81 = .ok (.dup, 1) := by decide +kernel
theorem d_ST_sheet_82 : decode b_ST_sheet 82 = .ok (.ldc 106, 2) := by decide +kernel
theorem d_ST_sheet_84 : decode b_ST_sheet 84 = .ok (.invokespecial 108, 3) := by decide +kernel
theorem d_ST_sheet_87 : decode b_ST_sheet 87 = .ok (.athrow, 1) := by decide +kernel
theorem d_ST_sheet_88 : decode b_ST_sheet 88 = .ok (.aload_n 0, 1) := by decide +kernel
theorem d_ST_sheet_89 : decode b_ST_sheet 89 = .ok (.getfield 11, 3) := by decide +kernel
theorem d_ST_sheet_92 : decode b_ST_sheet 92 = .ok (.aload_n 0, 1) := by decide +kernel
theorem d_ST_sheet_93 : decode b_ST_sheet 93 = .ok (.getfield 34, 3) := by decide +kernel
theorem d_ST_sheet_96 : decode b_ST_sheet 96 = .ok (.aaload, 1) := by decide +kernel
theorem d_ST_sheet_97 : decode b_ST_sheet 97 = .ok (.astore 5, 2) := by decide +kernel
theorem d_ST_sheet_99 : decode b_ST_sheet 99 = .ok (.aload 5, 2) := by decide +kernel
theorem d_ST_sheet_101 : decode b_ST_sheet 101 = .ok (.iload_n 1, 1) := by decide +kernel
theorem d_ST_sheet_102 : decode b_ST_sheet 102 = .ok (.putfield 109, 3) := by decide +kernel
theorem d_ST_sheet_105 : decode b_ST_sheet 105 = .ok (.aload 5, 2) := by decide +kernel
theorem d_ST_sheet_107 : decode b_ST_sheet 107 = .ok (.iload_n 2, 1) := by decide +kernel
theorem d_ST_sheet_108 : decode b_ST_sheet 108 = .ok (.putfield 112, 3) := by decide +kernel
theorem d_ST_sheet_111 : decode b_ST_sheet 111 = .ok (.aload 5, 2) := by decide +kernel
theorem d_ST_sheet_113 : decode b_ST_sheet 113 = .ok (.iload_n 3, 1) := by decide +kernel
theorem d_ST_sheet_114 : decode b_ST_sheet 114 = .ok (.putfield 115, 3) := by decide +kernel
theorem d_ST_sheet_117 : decode b_ST_sheet 117 = .ok (.aload 5, 2) := by decide +kernel
theorem d_ST_sheet_119 : decode b_ST_sheet 119 = .ok (.iload 4, 2) := by decide +kernel
theorem d_ST_sheet_121 : decode b_ST_sheet 121 = .ok (.putfield 118, 3) := by decide +kernel
theorem d_ST_sheet_124 : decode b_ST_sheet 124 = .ok (.aload_n 0, 1) := by decide +kernel
theorem d_ST_sheet_125 : decode b_ST_sheet 125 = .ok (.iconst 0, 1) := by decide +kernel
theorem d_ST_sheet_126 : decode b_ST_sheet 126 = .ok (.putfield 50, 3) := by decide +kernel
theorem d_ST_sheet_129 : decode b_ST_sheet 129 = .ok (.aload_n 0, 1) := by decide +kernel
theorem d_ST_sheet_130 : decode b_ST_sheet 130 = .ok (.dup, 1) := by decide +kernel
theorem d_ST_sheet_131 : decode b_ST_sheet 131 = .ok (.getfield 34, 3) := by decide +kernel
theorem d_ST_sheet_134 : decode b_ST_sheet 134 = .ok (.dup_x1, 1) := by decide +kernel
theorem d_ST_sheet_135 : decode b_ST_sheet 135 = .ok (.iconst 1, 1) := by decide +kernel
theorem d_ST_sheet_136 : decode b_ST_sheet 136 = .ok (.iadd, 1) := by decide +kernel
theorem d_ST_sheet_137 : decode b_ST_sheet 137 = .ok (.putfield 34, 3) := by decide +kernel
theorem d_ST_sheet_140 : decode b_ST_sheet 140 = .ok (.ireturn, 1) := by decide +kernel
theorem d_ST_part_0 : decode b_ST_part 0 = .ok (.iload_n 1, 1) := by decide +kernel
theorem d_ST_part_1 : decode b_ST_part 1 = .ok (.invokestatic 85, 3) := by decide +kernel
theorem d_ST_part_4 : decode b_ST_part 4 = .ok (.ifCond .eq 10, 3) := by decide +kernel
theorem d_ST_part_7 : decode b_ST_part 7 = .ok (.iload_n 2, 1) := by decide +kernel
theorem d_ST_part_8 : decode b_ST_part 8 = .ok (.invokestatic 85, 3) := by decide +kernel
theorem d_ST_part_11 : decode b_ST_part 11 = .ok (.ifCond .ne 13, 3) := by decide +kernel
theorem d_ST_part_14 : decode b_ST_part 14 = .ok (.new 89, 3) := by decide +kernel
theorem d_ST_part_17 : decode b_ST_part 17 = .ok (.dup, 1) := by decide +kernel
theorem d_ST_part_18 : decode b_ST_part 18 = .ok (.ldc 91, 2) := by decide +kernel
theorem d_ST_part_20 : decode b_ST_part 20 = .ok (.invokespecial 93, 3) := by decide +kernel
theorem d_ST_part_23 : decode b_ST_part 23 = .ok (.athrow, 1) := by decide +kernel
theorem d_ST_part_24 : decode b_ST_part 24 = .ok (.iload_n 3, 1) := by decide +kernel
theorem d_ST_part_25 : decode b_ST_part 25 = .ok (.iconst 0, 1) := by decide +kernel
theorem d_ST_part_26 : decode b_ST_part 26 = .ok (.bipush 50, 2) := by decide +kernel
theorem d_ST_part_28 : decode b_ST_part 28 = .ok (.invokestatic 96, 3) := by decide +kernel
theorem d_ST_part_31 : decode b_ST_part 31 = .ok (.ifCond .ne 13, 3) := by decide +kernel
theorem d_ST_part_34 : decode b_ST_part 34 = .ok (.new 89, 3) := by decide +kernel
theorem d_ST_part_37 : decode b_ST_part 37 = .ok (.dup, 1) := by decide +kernel
theorem d_ST_part_38 : decode b_ST_part 38 = .ok (.ldc 121, 2) := by decide +kernel
theorem d_ST_part_40 : decode b_ST_part 40 = .ok (.invokespecial 93, 3) := by decide +kernel
theorem d_ST_part_43 : decode b_ST_part 43 = .ok (.athrow, 1) := by decide +kernel
theorem d_ST_part_44 : decode b_ST_part 44 = .ok (.aload_n 0, 1) := by decide +kernel
theorem d_ST_part_45 : decode b_ST_part 45 = .ok (.getfield 38, 3) := by decide +kernel
theorem d_ST_part_48 : decode b_ST_part 48 = .ok (.aload_n 0, 1) := by decide +kernel
theorem d_ST_part_49 : decode b_ST_part 49 = .ok (.getfield 17, 3) := by decide +kernel
theorem d_ST_part_52 : decode b_ST_part 52 = .ok (.arraylength, 1) := by decide +kernel
theorem d_ST_part_53 : decode b_ST_part 53 = .ok (.if_icmp .lt 13, 3) := by decide +kernel
theorem d_ST_part_56 : decode b_ST_part 56 = .ok (.new 104, 3) := by decide +kernel
theorem d_ST_part_59 : decode b_ST_part 59 = .ok (.dup, 1) := by decide +kernel
theorem d_ST_part_60 : decode b_ST_part 60 = .ok (.ldc 123, 2) := by decide +kernel
theorem d_ST_part_62 : decode b_ST_part 62 = .ok (.invokespecial 108, 3) := by decide +kernel
theorem d_ST_part_65 : decode b_ST_part 65 = .ok (.athrow, 1) := by decide +kernel
theorem d_ST_part_66 : decode b_ST_part 66 = .ok (.aload_n 0, 1) := by decide +kernel
theorem d_ST_part_67 : decode b_ST_part 67 = .ok (.getfield 17, 3) := by decide +kernel
theorem d_ST_part_70 : decode b_ST_part 70 = .ok (.aload_n 0, 1) := by decide +kernel
theorem d_ST_part_71 : decode b_ST_part 71 = .ok (.getfield 38, 3) := by decide +kernel
theorem d_ST_part_74 : decode b_ST_part 74 = .ok (.aaload, 1) := by decide +kernel
theorem d_ST_part_75 : decode b_ST_part 75 = .ok (.astore 5, 2) := by decide +kernel
theorem d_ST_part_77 : decode b_ST_part 77 = .ok (.aload 5, 2) := by decide +kernel
theorem d_ST_part_79 : decode b_ST_part 79 = .ok (.iload_n 1, 1) := by decide +kernel
theorem d_ST_part_80 : decode b_ST_part 80 = .ok (.putfield 125, 3) := by decide +kernel
theorem d_ST_part_83 : decode b_ST_part 83 = .ok (.aload 5, 2) := by decide +kernel
theorem d_ST_part_85 : decode b_ST_part 85 = .ok (.iload_n 2, 1) := by decide +kernel
theorem d_ST_part_86 : decode b_ST_part 86 = .ok (.putfield 126, 3) := by decide +kernel
theorem d_ST_part_89 : decode b_ST_part 89 = .ok (.aload 5, 2) := by decide +kernel
theorem d_ST_part_91 : decode b_ST_part 91 = .ok (.iload 4, 2) := by decide +kernel
theorem d_ST_part_93 : decode b_ST_part 93 = .ok (.putfield 127, 3) := by decide +kernel
theorem d_ST_part_96 : decode b_ST_part 96 = .ok (.aload 5, 2) := by decide +kernel
theorem d_ST_part_98 : decode b_ST_part 98 = .ok (.iload_n 3, 1) := by decide +kernel
theorem d_ST_part_99 : decode b_ST_part 99 = .ok (.putfield 130, 3) := by decide +kernel
theorem d_ST_part_102 : decode b_ST_part 102 = .ok (.aload_n 0, 1) := by decide +kernel
theorem d_ST_part_103 : decode b_ST_part 103 = .ok (.iconst 0, 1) := by decide +kernel
theorem d_ST_part_104 : decode b_ST_part 104 = .ok (.putfield 50, 3) := by decide +kernel
theorem d_ST_part_107 : decode b_ST_part 107 = .ok (.aload_n 0, 1) := by decide +kernel
theorem d_ST_part_108 : decode b_ST_part 108 = .ok (.dup, 1) := by decide +kernel
theorem d_ST_part_109 : decode b_ST_part 109 = .ok (.getfield 38, 3) := by decide +kernel
theorem d_ST_part_112 : decode b_ST_part 112 = .ok (.dup_x1, 1) := by decide +kernel
theorem d_ST_part_113 : decode b_ST_part 113 = .ok (.iconst 1, 1) := by decide +kernel
theorem d_ST_part_114 : decode b_ST_part 114 = .ok (.iadd, 1) := by decide +kernel
theorem d_ST_part_115 : decode b_ST_part 115 = .ok (.putfield 38, 3) := by decide +kernel
theorem d_ST_part_118 : decode b_ST_part 118 = .ok (.ireturn, 1) := by decide +kernel
theorem d_ST_count_0 : decode b_ST_count 0 = .ok (.aload_n 0, 1) := by decide +kernel
theorem d_ST_count_1 : decode b_ST_count 1 = .ok (.iload_n 1, 1) := by decide +kernel
theorem d_ST_count_2 : decode b_ST_count 2 = .ok (.invokevirtual 133, 3) := by decide +kernel
theorem d_ST_count_5 : decode b_ST_count 5 = .ok (.astore_n 3, 1) := by decide +kernel
theorem d_ST_count_6 : decode b_ST_count 6 = .ok (.iload_n 2, 1) := by decide +kernel
theorem d_ST_count_7 : decode b_ST_count 7 = .ok (.iconst 0, 1) := by decide +kernel
theorem d_ST_count_8 : decode b_ST_count 8 = .ok (.bipush 50, 2) := by decide +kernel
theorem d_ST_count_10 : decode b_ST_count 10 = .ok (.invokestatic 96, 3) := by decide +kernel
theorem d_ST_count_13 : decode b_ST_count 13 = .ok (.ifCond .ne 13, 3) := by decide +kernel
theorem d_ST_count_16 : decode b_ST_count 16 = .ok (.new 89, 3) := by decide +kernel
theorem d_ST_count_19 : decode b_ST_count 19 = .ok (.dup, 1) := by decide +kernel
theorem d_ST_count_20 : decode b_ST_count 20 = .ok (.ldc 121, 2) := by decide +kernel
theorem d_ST_count_22 : decode b_ST_count 22 = .ok (.invokespecial 93, 3) := by decide +kernel
theorem d_ST_count_25 : decode b_ST_count 25 = .ok (.athrow, 1) := by decide +kernel
theorem d_ST_count_26 : decode b_ST_count 26 = .ok (.aload_n 3, 1) := by decide +kernel
theorem d_ST_count_27 : decode b_ST_count 27 = .ok (.getfield 130, 3) := by decide +kernel
theorem d_ST_count_30 : decode b_ST_count 30 = .ok (.istore 4, 2) := by decide +kernel
theorem d_ST_count_32 : decode b_ST_count 32 = .ok (.aload_n 3, 1) := by decide +kernel
theorem d_ST_count_33 : decode b_ST_count 33 = .ok (.iload_n 2, 1) := by decide +kernel
theorem d_ST_count_34 : decode b_ST_count 34 = .ok (.putfield 130, 3) := by decide +kernel
theorem d_ST_count_37 : decode b_ST_count 37 = .ok (.aload_n 0, 1) := by decide +kernel
theorem d_ST_count_38 : decode b_ST_count 38 = .ok (.iconst 0, 1) := by decide +kernel
theorem d_ST_count_39 : decode b_ST_count 39 = .ok (.putfield 50, 3) := by decide +kernel
theorem d_ST_count_42 : decode b_ST_count 42 = .ok (.iload 4, 2) := by decide +kernel
theorem d_ST_count_44 : decode b_ST_count 44 = .ok (.ireturn, 1) := by decide +kernel
theorem d_ST_worth_0 : decode b_ST_worth 0 = .ok (.iload_n 1, 1) := by decide +kernel
theorem d_ST_worth_1 : decode b_ST_worth 1 = .ok (.invokestatic 85, 3) := by decide +kernel
theorem d_ST_worth_4 : decode b_ST_worth 4 = .ok (.ifCond .eq 10, 3) := by decide +kernel
theorem d_ST_worth_7 : decode b_ST_worth 7 = .ok (.iload_n 2, 1) := by decide +kernel
theorem d_ST_worth_8 : decode b_ST_worth 8 = .ok (.invokestatic 85, 3) := by decide +kernel
theorem d_ST_worth_11 : decode b_ST_worth 11 = .ok (.ifCond .ne 13, 3) := by decide +kernel
theorem d_ST_worth_14 : decode b_ST_worth 14 = .ok (.new 89, 3) := by decide +kernel
theorem d_ST_worth_17 : decode b_ST_worth 17 = .ok (.dup, 1) := by decide +kernel
theorem d_ST_worth_18 : decode b_ST_worth 18 = .ok (.ldc 91, 2) := by decide +kernel
theorem d_ST_worth_20 : decode b_ST_worth 20 = .ok (.invokespecial 93, 3) := by decide +kernel
theorem d_ST_worth_23 : decode b_ST_worth 23 = .ok (.athrow, 1) := by decide +kernel
theorem d_ST_worth_24 : decode b_ST_worth 24 = .ok (.iload_n 3, 1) := by decide +kernel
theorem d_ST_worth_25 : decode b_ST_worth 25 = .ok (.iconst 0, 1) := by decide +kernel
theorem d_ST_worth_26 : decode b_ST_worth 26 = .ok (.iconst 1, 1) := by decide +kernel
theorem d_ST_worth_27 : decode b_ST_worth 27 = .ok (.invokestatic 96, 3) := by decide +kernel
theorem d_ST_worth_30 : decode b_ST_worth 30 = .ok (.ifCond .ne 13, 3) := by decide +kernel
theorem d_ST_worth_33 : decode b_ST_worth 33 = .ok (.new 89, 3) := by decide +kernel
theorem d_ST_worth_36 : decode b_ST_worth 36 = .ok (.dup, 1) := by decide +kernel
theorem d_ST_worth_37 : decode b_ST_worth 37 = .ok (.ldc 137, 2) := by decide +kernel
theorem d_ST_worth_39 : decode b_ST_worth 39 = .ok (.invokespecial 93, 3) := by decide +kernel
theorem d_ST_worth_42 : decode b_ST_worth 42 = .ok (.athrow, 1) := by decide +kernel
theorem d_ST_worth_43 : decode b_ST_worth 43 = .ok (.iload 4, 2) := by decide +kernel
theorem d_ST_worth_45 : decode b_ST_worth 45 = .ok (.iconst 0, 1) := by decide +kernel
theorem d_ST_worth_46 : decode b_ST_worth 46 = .ok (.iconst 3, 1) := by decide +kernel
theorem d_ST_worth_47 : decode b_ST_worth 47 = .ok (.invokestatic 96, 3) := by decide +kernel
theorem d_ST_worth_50 : decode b_ST_worth 50 = .ok (.ifCond .ne 13, 3) := by decide +kernel
theorem d_ST_worth_53 : decode b_ST_worth 53 = .ok (.new 89, 3) := by decide +kernel
theorem d_ST_worth_56 : decode b_ST_worth 56 = .ok (.dup, 1) := by decide +kernel
theorem d_ST_worth_57 : decode b_ST_worth 57 = .ok (.ldc 139, 2) := by decide +kernel
theorem d_ST_worth_59 : decode b_ST_worth 59 = .ok (.invokespecial 93, 3) := by decide +kernel
theorem d_ST_worth_62 : decode b_ST_worth 62 = .ok (.athrow, 1) := by decide +kernel
theorem d_ST_worth_63 : decode b_ST_worth 63 = .ok (.aload_n 0, 1) := by decide +kernel
theorem d_ST_worth_64 : decode b_ST_worth 64 = .ok (.getfield 69, 3) := by decide +kernel
theorem d_ST_worth_67 : decode b_ST_worth 67 = .ok (.aload_n 0, 1) := by decide +kernel
theorem d_ST_worth_68 : decode b_ST_worth 68 = .ok (.getfield 17, 3) := by decide +kernel
theorem d_ST_worth_71 : decode b_ST_worth 71 = .ok (.aload_n 0, 1) := by decide +kernel
theorem d_ST_worth_72 : decode b_ST_worth 72 = .ok (.invokevirtual 141, 3) := by decide +kernel
theorem d_ST_worth_75 : decode b_ST_worth 75 = .ok (.iload 4, 2) := by decide +kernel
theorem d_ST_worth_77 : decode b_ST_worth 77 = .ok (.invokevirtual 145, 3) := by decide +kernel
theorem d_ST_worth_80 : decode b_ST_worth 80 = .ok (.aload_n 0, 1) := by decide +kernel
theorem d_ST_worth_81 : decode b_ST_worth 81 = .ok (.getfield 69, 3) := by decide +kernel
theorem d_ST_worth_84 : decode b_ST_worth 84 = .ok (.iload 4, 2) := by decide +kernel
theorem d_ST_worth_86 : decode b_ST_worth 86 = .ok (.iload_n 3, 1) := by decide +kernel
theorem d_ST_worth_87 : decode b_ST_worth 87 = .ok (.iload_n 1, 1) := by decide +kernel
theorem d_ST_worth_88 : decode b_ST_worth 88 = .ok (.iload_n 2, 1) := by decide +kernel
theorem d_ST_worth_89 : decode b_ST_worth 89 = .ok (.invokevirtual 149, 3) := by decide +kernel
theorem d_ST_worth_92 : decode b_ST_worth 92 = .ok (.ireturn, 1) := by decide +kernel
theorem d_ST_run_0 : decode b_ST_run 0 = .ok (.aload_n 0, 1) := by decide +kernel
theorem d_ST_run_1 : decode b_ST_run 1 = .ok (.invokevirtual 153, 3) := by decide +kernel
theorem d_ST_run_4 : decode b_ST_run 4 = .ok (.iconst 0, 1) := by decide +kernel
theorem d_ST_run_5 : decode b_ST_run 5 = .ok (.istore_n 1, 1) := by decide +kernel
theorem d_ST_run_6 : decode b_ST_run 6 = .ok (.iload_n 1, 1) := by decide +kernel
theorem d_ST_run_7 : decode b_ST_run 7 = .ok (.bipush 20, 2) := by decide +kernel
theorem d_ST_run_9 : decode b_ST_run 9 = .ok (.if_icmp .ge 46, 3) := by decide +kernel
theorem d_ST_run_12 : decode b_ST_run 12 = .ok (.aload_n 0, 1) := by decide +kernel
theorem d_ST_run_13 : decode b_ST_run 13 = .ok (.getfield 69, 3) := by decide +kernel
theorem d_ST_run_16 : decode b_ST_run 16 = .ok (.aload_n 0, 1) := by decide +kernel
theorem d_ST_run_17 : decode b_ST_run 17 = .ok (.getfield 17, 3) := by decide +kernel
theorem d_ST_run_20 : decode b_ST_run 20 = .ok (.aload_n 0, 1) := by decide +kernel
theorem d_ST_run_21 : decode b_ST_run 21 = .ok (.invokevirtual 156, 3) := by decide +kernel
theorem d_ST_run_24 : decode b_ST_run 24 = .ok (.aload_n 0, 1) := by decide +kernel
theorem d_ST_run_25 : decode b_ST_run 25 = .ok (.getfield 58, 3) := by decide +kernel
theorem d_ST_run_28 : decode b_ST_run 28 = .ok (.invokevirtual 145, 3) := by decide +kernel
theorem d_ST_run_31 : decode b_ST_run 31 = .ok (.aload_n 0, 1) := by decide +kernel
theorem d_ST_run_32 : decode b_ST_run 32 = .ok (.invokevirtual 159, 3) := by decide +kernel
theorem d_ST_run_35 : decode b_ST_run 35 = .ok (.istore_n 2, 1) := by decide +kernel
theorem d_ST_run_36 : decode b_ST_run 36 = .ok (.iload_n 2, 1) := by decide +kernel
theorem d_ST_run_37 : decode b_ST_run 37 = .ok (.iconst (-1), 1) := by decide +kernel
theorem d_ST_run_38 : decode b_ST_run 38 = .ok (.if_icmp .ne 6, 3) := by decide +kernel
theorem d_ST_run_41 : decode b_ST_run 41 = .ok (.goto 14, 3) := by decide +kernel
theorem d_ST_run_44 : decode b_ST_run 44 = .ok (.aload_n 0, 1) := by decide +kernel
theorem d_ST_run_45 : decode b_ST_run 45 = .ok (.iload_n 2, 1) := by decide +kernel
theorem d_ST_run_46 : decode b_ST_run 46 = .ok (.invokevirtual 162, 3) := by decide +kernel
theorem d_ST_run_49 : decode b_ST_run 49 = .ok (.iinc 1 1, 3) := by decide +kernel
theorem d_ST_run_52 : decode b_ST_run 52 = .ok (.goto (-46), 3) := by decide +kernel
theorem d_ST_run_55 : decode b_ST_run 55 = .ok (.aload_n 0, 1) := by decide +kernel
theorem d_ST_run_56 : decode b_ST_run 56 = .ok (.iconst 1, 1) := by decide +kernel
theorem d_ST_run_57 : decode b_ST_run 57 = .ok (.putfield 50, 3) := by decide +kernel
theorem d_ST_run_60 : decode b_ST_run 60 = .ok (.aload_n 0, 1) := by decide +kernel
theorem d_ST_run_61 : decode b_ST_run 61 = .ok (.getfield 41, 3) := by decide +kernel
theorem d_ST_run_64 : decode b_ST_run 64 = .ok (.ireturn, 1) := by decide +kernel
theorem d_ST_cut_0 : decode b_ST_cut 0 = .ok (.aload_n 0, 1) := by decide +kernel
theorem d_ST_cut_1 : decode b_ST_cut 1 = .ok (.iload_n 1, 1) := by decide +kernel
theorem d_ST_cut_2 : decode b_ST_cut 2 = .ok (.invokevirtual 165, 3) := by decide +kernel
theorem d_ST_cut_5 : decode b_ST_cut 5 = .ok (.astore_n 3, 1) := by decide +kernel
theorem d_ST_cut_6 : decode b_ST_cut 6 = .ok (.iload_n 2, 1) := by decide +kernel
theorem d_ST_cut_7 : decode b_ST_cut 7 = .ok (.tableswitch 85 0 7 #[45, 50, 55, 60, 65, 70, 75, 80], 45) := by decide +kernel
theorem d_ST_cut_52 : decode b_ST_cut 52 = .ok (.aload_n 3, 1) := by decide +kernel
theorem d_ST_cut_53 : decode b_ST_cut 53 = .ok (.getfield 169, 3) := by decide +kernel
theorem d_ST_cut_56 : decode b_ST_cut 56 = .ok (.ireturn, 1) := by decide +kernel
theorem d_ST_cut_57 : decode b_ST_cut 57 = .ok (.aload_n 3, 1) := by decide +kernel
theorem d_ST_cut_58 : decode b_ST_cut 58 = .ok (.getfield 172, 3) := by decide +kernel
theorem d_ST_cut_61 : decode b_ST_cut 61 = .ok (.ireturn, 1) := by decide +kernel
theorem d_ST_cut_62 : decode b_ST_cut 62 = .ok (.aload_n 3, 1) := by decide +kernel
theorem d_ST_cut_63 : decode b_ST_cut 63 = .ok (.getfield 173, 3) := by decide +kernel
theorem d_ST_cut_66 : decode b_ST_cut 66 = .ok (.ireturn, 1) := by decide +kernel
theorem d_ST_cut_67 : decode b_ST_cut 67 = .ok (.aload_n 3, 1) := by decide +kernel
theorem d_ST_cut_68 : decode b_ST_cut 68 = .ok (.getfield 176, 3) := by decide +kernel
theorem d_ST_cut_71 : decode b_ST_cut 71 = .ok (.ireturn, 1) := by decide +kernel
theorem d_ST_cut_72 : decode b_ST_cut 72 = .ok (.aload_n 3, 1) := by decide +kernel
theorem d_ST_cut_73 : decode b_ST_cut 73 = .ok (.getfield 179, 3) := by decide +kernel
theorem d_ST_cut_76 : decode b_ST_cut 76 = .ok (.ireturn, 1) := by decide +kernel
theorem d_ST_cut_77 : decode b_ST_cut 77 = .ok (.aload_n 3, 1) := by decide +kernel
theorem d_ST_cut_78 : decode b_ST_cut 78 = .ok (.getfield 182, 3) := by decide +kernel
theorem d_ST_cut_81 : decode b_ST_cut 81 = .ok (.ireturn, 1) := by decide +kernel
theorem d_ST_cut_82 : decode b_ST_cut 82 = .ok (.aload_n 3, 1) := by decide +kernel
theorem d_ST_cut_83 : decode b_ST_cut 83 = .ok (.getfield 185, 3) := by decide +kernel
theorem d_ST_cut_86 : decode b_ST_cut 86 = .ok (.ireturn, 1) := by decide +kernel
theorem d_ST_cut_87 : decode b_ST_cut 87 = .ok (.aload_n 3, 1) := by decide +kernel
theorem d_ST_cut_88 : decode b_ST_cut 88 = .ok (.getfield 186, 3) := by decide +kernel
theorem d_ST_cut_91 : decode b_ST_cut 91 = .ok (.ireturn, 1) := by decide +kernel
theorem d_ST_cut_92 : decode b_ST_cut 92 = .ok (.new 189, 3) := by decide +kernel
theorem d_ST_cut_95 : decode b_ST_cut 95 = .ok (.dup, 1) := by decide +kernel
theorem d_ST_cut_96 : decode b_ST_cut 96 = .ok (.ldc 191, 2) := by decide +kernel
theorem d_ST_cut_98 : decode b_ST_cut 98 = .ok (.invokespecial 193, 3) := by decide +kernel
theorem d_ST_cut_101 : decode b_ST_cut 101 = .ok (.athrow, 1) := by decide +kernel
theorem d_ST_taken_0 : decode b_ST_taken 0 = .ok (.aload_n 0, 1) := by decide +kernel
theorem d_ST_taken_1 : decode b_ST_taken 1 = .ok (.iload_n 1, 1) := by decide +kernel
theorem d_ST_taken_2 : decode b_ST_taken 2 = .ok (.invokevirtual 165, 3) := by decide +kernel
theorem d_ST_taken_5 : decode b_ST_taken 5 = .ok (.astore 4, 2) := by decide +kernel
theorem d_ST_taken_7 : decode b_ST_taken 7 = .ok (.iload_n 2, 1) := by decide +kernel
theorem d_ST_taken_8 : decode b_ST_taken 8 = .ok (.iconst 0, 1) := by decide +kernel
theorem d_ST_taken_9 : decode b_ST_taken 9 = .ok (.aload 4, 2) := by decide +kernel
theorem d_ST_taken_11 : decode b_ST_taken 11 = .ok (.getfield 172, 3) := by decide +kernel
theorem d_ST_taken_14 : decode b_ST_taken 14 = .ok (.iconst 1, 1) := by decide +kernel
theorem d_ST_taken_15 : decode b_ST_taken 15 = .ok (.isub, 1) := by decide +kernel
theorem d_ST_taken_16 : decode b_ST_taken 16 = .ok (.invokestatic 96, 3) := by decide +kernel
theorem d_ST_taken_19 : decode b_ST_taken 19 = .ok (.ifCond .ne 13, 3) := by decide +kernel
theorem d_ST_taken_22 : decode b_ST_taken 22 = .ok (.new 189, 3) := by decide +kernel
theorem d_ST_taken_25 : decode b_ST_taken 25 = .ok (.dup, 1) := by decide +kernel
theorem d_ST_taken_26 : decode b_ST_taken 26 = .ok (.ldc 194, 2) := by decide +kernel
theorem d_ST_taken_28 : decode b_ST_taken 28 = .ok (.invokespecial 193, 3) := by decide +kernel
theorem d_ST_taken_31 : decode b_ST_taken 31 = .ok (.athrow, 1) := by decide +kernel
theorem d_ST_taken_32 : decode b_ST_taken 32 = .ok (.iload_n 3, 1) := by decide +kernel
theorem d_ST_taken_33 : decode b_ST_taken 33 = .ok (.iconst 0, 1) := by decide +kernel
theorem d_ST_taken_34 : decode b_ST_taken 34 = .ok (.iconst 4, 1) := by decide +kernel
theorem d_ST_taken_35 : decode b_ST_taken 35 = .ok (.invokestatic 96, 3) := by decide +kernel
theorem d_ST_taken_38 : decode b_ST_taken 38 = .ok (.ifCond .ne 13, 3) := by decide +kernel
theorem d_ST_taken_41 : decode b_ST_taken 41 = .ok (.new 189, 3) := by decide +kernel
theorem d_ST_taken_44 : decode b_ST_taken 44 = .ok (.dup, 1) := by decide +kernel
theorem d_ST_taken_45 : decode b_ST_taken 45 = .ok (.ldc 196, 2) := by decide +kernel
theorem d_ST_taken_47 : decode b_ST_taken 47 = .ok (.invokespecial 193, 3) := by decide +kernel
theorem d_ST_taken_50 : decode b_ST_taken 50 = .ok (.athrow, 1) := by decide +kernel
theorem d_ST_taken_51 : decode b_ST_taken 51 = .ok (.aload_n 0, 1) := by decide +kernel
theorem d_ST_taken_52 : decode b_ST_taken 52 = .ok (.getfield 27, 3) := by decide +kernel
theorem d_ST_taken_55 : decode b_ST_taken 55 = .ok (.aload 4, 2) := by decide +kernel
theorem d_ST_taken_57 : decode b_ST_taken 57 = .ok (.getfield 198, 3) := by decide +kernel
theorem d_ST_taken_60 : decode b_ST_taken 60 = .ok (.iload_n 2, 1) := by decide +kernel
theorem d_ST_taken_61 : decode b_ST_taken 61 = .ok (.iadd, 1) := by decide +kernel
theorem d_ST_taken_62 : decode b_ST_taken 62 = .ok (.invokestatic 201, 3) := by decide +kernel
theorem d_ST_taken_65 : decode b_ST_taken 65 = .ok (.iload_n 3, 1) := by decide +kernel
theorem d_ST_taken_66 : decode b_ST_taken 66 = .ok (.invokestatic 205, 3) := by decide +kernel
theorem d_ST_taken_69 : decode b_ST_taken 69 = .ok (.ireturn, 1) := by decide +kernel
theorem d_ST_rest_0 : decode b_ST_rest 0 = .ok (.aload_n 0, 1) := by decide +kernel
theorem d_ST_rest_1 : decode b_ST_rest 1 = .ok (.iload_n 1, 1) := by decide +kernel
theorem d_ST_rest_2 : decode b_ST_rest 2 = .ok (.invokevirtual 165, 3) := by decide +kernel
theorem d_ST_rest_5 : decode b_ST_rest 5 = .ok (.astore 4, 2) := by decide +kernel
theorem d_ST_rest_7 : decode b_ST_rest 7 = .ok (.iload_n 2, 1) := by decide +kernel
theorem d_ST_rest_8 : decode b_ST_rest 8 = .ok (.iconst 0, 1) := by decide +kernel
theorem d_ST_rest_9 : decode b_ST_rest 9 = .ok (.aload 4, 2) := by decide +kernel
theorem d_ST_rest_11 : decode b_ST_rest 11 = .ok (.getfield 185, 3) := by decide +kernel
theorem d_ST_rest_14 : decode b_ST_rest 14 = .ok (.iconst 1, 1) := by decide +kernel
theorem d_ST_rest_15 : decode b_ST_rest 15 = .ok (.isub, 1) := by decide +kernel
theorem d_ST_rest_16 : decode b_ST_rest 16 = .ok (.invokestatic 96, 3) := by decide +kernel
theorem d_ST_rest_19 : decode b_ST_rest 19 = .ok (.ifCond .ne 13, 3) := by decide +kernel
theorem d_ST_rest_22 : decode b_ST_rest 22 = .ok (.new 189, 3) := by decide +kernel
theorem d_ST_rest_25 : decode b_ST_rest 25 = .ok (.dup, 1) := by decide +kernel
theorem d_ST_rest_26 : decode b_ST_rest 26 = .ok (.ldc 211, 2) := by decide +kernel
theorem d_ST_rest_28 : decode b_ST_rest 28 = .ok (.invokespecial 193, 3) := by decide +kernel
theorem d_ST_rest_31 : decode b_ST_rest 31 = .ok (.athrow, 1) := by decide +kernel
theorem d_ST_rest_32 : decode b_ST_rest 32 = .ok (.iload_n 3, 1) := by decide +kernel
theorem d_ST_rest_33 : decode b_ST_rest 33 = .ok (.iconst 0, 1) := by decide +kernel
theorem d_ST_rest_34 : decode b_ST_rest 34 = .ok (.iconst 3, 1) := by decide +kernel
theorem d_ST_rest_35 : decode b_ST_rest 35 = .ok (.invokestatic 96, 3) := by decide +kernel
theorem d_ST_rest_38 : decode b_ST_rest 38 = .ok (.ifCond .ne 13, 3) := by decide +kernel
theorem d_ST_rest_41 : decode b_ST_rest 41 = .ok (.new 189, 3) := by decide +kernel
theorem d_ST_rest_44 : decode b_ST_rest 44 = .ok (.dup, 1) := by decide +kernel
theorem d_ST_rest_45 : decode b_ST_rest 45 = .ok (.ldc 213, 2) := by decide +kernel
theorem d_ST_rest_47 : decode b_ST_rest 47 = .ok (.invokespecial 193, 3) := by decide +kernel
theorem d_ST_rest_50 : decode b_ST_rest 50 = .ok (.athrow, 1) := by decide +kernel
theorem d_ST_rest_51 : decode b_ST_rest 51 = .ok (.aload_n 0, 1) := by decide +kernel
theorem d_ST_rest_52 : decode b_ST_rest 52 = .ok (.getfield 31, 3) := by decide +kernel
theorem d_ST_rest_55 : decode b_ST_rest 55 = .ok (.aload 4, 2) := by decide +kernel
theorem d_ST_rest_57 : decode b_ST_rest 57 = .ok (.getfield 215, 3) := by decide +kernel
theorem d_ST_rest_60 : decode b_ST_rest 60 = .ok (.iload_n 2, 1) := by decide +kernel
theorem d_ST_rest_61 : decode b_ST_rest 61 = .ok (.iadd, 1) := by decide +kernel
theorem d_ST_rest_62 : decode b_ST_rest 62 = .ok (.invokestatic 201, 3) := by decide +kernel
theorem d_ST_rest_65 : decode b_ST_rest 65 = .ok (.iconst 1, 1) := by decide +kernel
theorem d_ST_rest_66 : decode b_ST_rest 66 = .ok (.iload_n 3, 1) := by decide +kernel
theorem d_ST_rest_67 : decode b_ST_rest 67 = .ok (.iadd, 1) := by decide +kernel
theorem d_ST_rest_68 : decode b_ST_rest 68 = .ok (.invokestatic 205, 3) := by decide +kernel
theorem d_ST_rest_71 : decode b_ST_rest 71 = .ok (.ireturn, 1) := by decide +kernel
theorem d_ST_left_0 : decode b_ST_left 0 = .ok (.aload_n 0, 1) := by decide +kernel
theorem d_ST_left_1 : decode b_ST_left 1 = .ok (.invokevirtual 218, 3) := by decide +kernel
theorem d_ST_left_4 : decode b_ST_left 4 = .ok (.aload_n 0, 1) := by decide +kernel
theorem d_ST_left_5 : decode b_ST_left 5 = .ok (.iload_n 1, 1) := by decide +kernel
theorem d_ST_left_6 : decode b_ST_left 6 = .ok (.invokevirtual 133, 3) := by decide +kernel
theorem d_ST_left_9 : decode b_ST_left 9 = .ok (.getfield 221, 3) := by decide +kernel
theorem d_ST_left_12 : decode b_ST_left 12 = .ok (.ireturn, 1) := by decide +kernel
theorem d_ST_all_0 : decode b_ST_all 0 = .ok (.aload_n 0, 1) := by decide +kernel
theorem d_ST_all_1 : decode b_ST_all 1 = .ok (.invokevirtual 218, 3) := by decide +kernel
theorem d_ST_all_4 : decode b_ST_all 4 = .ok (.iload_n 1, 1) := by decide +kernel
theorem d_ST_all_5 : decode b_ST_all 5 = .ok (.iconst 0, 1) := by decide +kernel
theorem d_ST_all_6 : decode b_ST_all 6 = .ok (.iconst 2, 1) := by decide +kernel
theorem d_ST_all_7 : decode b_ST_all 7 = .ok (.invokestatic 96, 3) := by decide +kernel
theorem d_ST_all_10 : decode b_ST_all 10 = .ok (.ifCond .ne 13, 3) := by decide +kernel
theorem d_ST_all_13 : decode b_ST_all 13 = .ok (.new 189, 3) := by decide +kernel
theorem d_ST_all_16 : decode b_ST_all 16 = .ok (.dup, 1) := by decide +kernel
theorem d_ST_all_17 : decode b_ST_all 17 = .ok (.ldc 224, 2) := by decide +kernel
theorem d_ST_all_19 : decode b_ST_all 19 = .ok (.invokespecial 193, 3) := by decide +kernel
theorem d_ST_all_22 : decode b_ST_all 22 = .ok (.athrow, 1) := by decide +kernel
theorem d_ST_all_23 : decode b_ST_all 23 = .ok (.lconst 0, 1) := by decide +kernel
theorem d_ST_all_24 : decode b_ST_all 24 = .ok (.lstore_n 2, 1) := by decide +kernel
theorem d_ST_all_25 : decode b_ST_all 25 = .ok (.iconst 0, 1) := by decide +kernel
theorem d_ST_all_26 : decode b_ST_all 26 = .ok (.istore 4, 2) := by decide +kernel
theorem d_ST_all_28 : decode b_ST_all 28 = .ok (.iload 4, 2) := by decide +kernel
theorem d_ST_all_30 : decode b_ST_all 30 = .ok (.aload_n 0, 1) := by decide +kernel
theorem d_ST_all_31 : decode b_ST_all 31 = .ok (.getfield 41, 3) := by decide +kernel
theorem d_ST_all_34 : decode b_ST_all 34 = .ok (.if_icmp .ge 64, 3) := by decide +kernel
theorem d_ST_all_37 : decode b_ST_all 37 = .ok (.iload 4, 2) := by decide +kernel
theorem d_ST_all_39 : decode b_ST_all 39 = .ok (.aload_n 0, 1) := by decide +kernel
theorem d_ST_all_40 : decode b_ST_all 40 = .ok (.getfield 23, 3) := by decide +kernel
theorem d_ST_all_43 : decode b_ST_all 43 = .ok (.arraylength, 1) := by decide +kernel
theorem d_ST_all_44 : decode b_ST_all 44 = .ok (.if_icmp .ge 54, 3) := by decide +kernel
theorem d_ST_all_47 : decode b_ST_all 47 = .ok (.aload_n 0, 1) := by decide +kernel
theorem d_ST_all_48 : decode b_ST_all 48 = .ok (.getfield 23, 3) := by decide +kernel
theorem d_ST_all_51 : decode b_ST_all 51 = .ok (.iload 4, 2) := by decide +kernel
theorem d_ST_all_53 : decode b_ST_all 53 = .ok (.aaload, 1) := by decide +kernel
theorem d_ST_all_54 : decode b_ST_all 54 = .ok (.astore 5, 2) := by decide +kernel
theorem d_ST_all_56 : decode b_ST_all 56 = .ok (.lload_n 2, 1) := by decide +kernel
theorem d_ST_all_57 : decode b_ST_all 57 = .ok (.iload_n 1, 1) := by decide +kernel
theorem d_ST_all_58 : decode b_ST_all 58 = .ok (.ifCond .ne 12, 3) := by decide +kernel
theorem d_ST_all_61 : decode b_ST_all 61 = .ok (.aload 5, 2) := by decide +kernel
theorem d_ST_all_63 : decode b_ST_all 63 = .ok (.getfield 226, 3) := by decide +kernel
theorem d_ST_all_66 : decode b_ST_all 66 = .ok (.i2l, 1) := by decide +kernel
theorem d_ST_all_67 : decode b_ST_all 67 = .ok (.goto 23, 3) := by decide +kernel
theorem d_ST_all_70 : decode b_ST_all 70 = .ok (.iload_n 1, 1) := by decide +kernel
theorem d_ST_all_71 : decode b_ST_all 71 = .ok (.iconst 1, 1) := by decide +kernel
theorem d_ST_all_72 : decode b_ST_all 72 = .ok (.if_icmp .ne 12, 3) := by decide +kernel
theorem d_ST_all_75 : decode b_ST_all 75 = .ok (.aload 5, 2) := by decide +kernel
theorem d_ST_all_77 : decode b_ST_all 77 = .ok (.getfield 227, 3) := by decide +kernel
theorem d_ST_all_80 : decode b_ST_all 80 = .ok (.i2l, 1) := by decide +kernel
theorem d_ST_all_81 : decode b_ST_all 81 = .ok (.goto 9, 3) := by decide +kernel
theorem d_ST_all_84 : decode b_ST_all 84 = .ok (.aload 5, 2) := by decide +kernel
theorem d_ST_all_86 : decode b_ST_all 86 = .ok (.getfield 173, 3) := by decide +kernel
theorem d_ST_all_89 : decode b_ST_all 89 = .ok (.i2l, 1) := by decide +kernel
theorem d_ST_all_90 : decode b_ST_all 90 = .ok (.ladd, 1) := by decide +kernel
theorem d_ST_all_91 : decode b_ST_all 91 = .ok (.lstore_n 2, 1) := by decide +kernel
theorem d_ST_all_92 : decode b_ST_all 92 = .ok (.iinc 4 1, 3) := by decide +kernel
theorem d_ST_all_95 : decode b_ST_all 95 = .ok (.goto (-67), 3) := by decide +kernel
theorem d_ST_all_98 : decode b_ST_all 98 = .ok (.lload_n 2, 1) := by decide +kernel
theorem d_ST_all_99 : decode b_ST_all 99 = .ok (.lreturn, 1) := by decide +kernel
theorem d_ST_bound_0 : decode b_ST_bound 0 = .ok (.iconst 0, 1) := by decide +kernel
theorem d_ST_bound_1 : decode b_ST_bound 1 = .ok (.istore_n 1, 1) := by decide +kernel
theorem d_ST_bound_2 : decode b_ST_bound 2 = .ok (.iconst 0, 1) := by decide +kernel
theorem d_ST_bound_3 : decode b_ST_bound 3 = .ok (.istore_n 2, 1) := by decide +kernel
theorem d_ST_bound_4 : decode b_ST_bound 4 = .ok (.iload_n 2, 1) := by decide +kernel
theorem d_ST_bound_5 : decode b_ST_bound 5 = .ok (.aload_n 0, 1) := by decide +kernel
theorem d_ST_bound_6 : decode b_ST_bound 6 = .ok (.getfield 34, 3) := by decide +kernel
theorem d_ST_bound_9 : decode b_ST_bound 9 = .ok (.if_icmp .ge 32, 3) := by decide +kernel
theorem d_ST_bound_12 : decode b_ST_bound 12 = .ok (.iload_n 2, 1) := by decide +kernel
theorem d_ST_bound_13 : decode b_ST_bound 13 = .ok (.aload_n 0, 1) := by decide +kernel
theorem d_ST_bound_14 : decode b_ST_bound 14 = .ok (.getfield 11, 3) := by decide +kernel
theorem d_ST_bound_17 : decode b_ST_bound 17 = .ok (.arraylength, 1) := by decide +kernel
theorem d_ST_bound_18 : decode b_ST_bound 18 = .ok (.if_icmp .ge 23, 3) := by decide +kernel
theorem d_ST_bound_21 : decode b_ST_bound 21 = .ok (.iload_n 1, 1) := by decide +kernel
theorem d_ST_bound_22 : decode b_ST_bound 22 = .ok (.aload_n 0, 1) := by decide +kernel
theorem d_ST_bound_23 : decode b_ST_bound 23 = .ok (.getfield 11, 3) := by decide +kernel
theorem d_ST_bound_26 : decode b_ST_bound 26 = .ok (.iload_n 2, 1) := by decide +kernel
theorem d_ST_bound_27 : decode b_ST_bound 27 = .ok (.aaload, 1) := by decide +kernel
theorem d_ST_bound_28 : decode b_ST_bound 28 = .ok (.invokevirtual 230, 3) := by decide +kernel
theorem d_ST_bound_31 : decode b_ST_bound 31 = .ok (.invokestatic 232, 3) := by decide +kernel
theorem d_ST_bound_34 : decode b_ST_bound 34 = .ok (.istore_n 1, 1) := by decide +kernel
theorem d_ST_bound_35 : decode b_ST_bound 35 = .ok (.iinc 2 1, 3) := by decide +kernel
theorem d_ST_bound_38 : decode b_ST_bound 38 = .ok (.goto (-34), 3) := by decide +kernel
theorem d_ST_bound_41 : decode b_ST_bound 41 = .ok (.iload_n 1, 1) := by decide +kernel
theorem d_ST_bound_42 : decode b_ST_bound 42 = .ok (.iconst 1, 1) := by decide +kernel
theorem d_ST_bound_43 : decode b_ST_bound 43 = .ok (.if_icmp .ge 5, 3) := by decide +kernel
theorem d_ST_bound_46 : decode b_ST_bound 46 = .ok (.iconst 0, 1) := by decide +kernel
theorem d_ST_bound_47 : decode b_ST_bound 47 = .ok (.ireturn, 1) := by decide +kernel
theorem d_ST_bound_48 : decode b_ST_bound 48 = .ok (.iconst 0, 1) := by decide +kernel
theorem d_ST_bound_49 : decode b_ST_bound 49 = .ok (.istore_n 2, 1) := by decide +kernel
theorem d_ST_bound_50 : decode b_ST_bound 50 = .ok (.iconst 0, 1) := by decide +kernel
theorem d_ST_bound_51 : decode b_ST_bound 51 = .ok (.istore_n 3, 1) := by decide +kernel
theorem d_ST_bound_52 : decode b_ST_bound 52 = .ok (.iload_n 3, 1) := by decide +kernel
theorem d_ST_bound_53 : decode b_ST_bound 53 = .ok (.aload_n 0, 1) := by decide +kernel
theorem d_ST_bound_54 : decode b_ST_bound 54 = .ok (.getfield 38, 3) := by decide +kernel
theorem d_ST_bound_57 : decode b_ST_bound 57 = .ok (.if_icmp .ge 40, 3) := by decide +kernel
theorem d_ST_bound_60 : decode b_ST_bound 60 = .ok (.iload_n 3, 1) := by decide +kernel
theorem d_ST_bound_61 : decode b_ST_bound 61 = .ok (.aload_n 0, 1) := by decide +kernel
theorem d_ST_bound_62 : decode b_ST_bound 62 = .ok (.getfield 17, 3) := by decide +kernel
theorem d_ST_bound_65 : decode b_ST_bound 65 = .ok (.arraylength, 1) := by decide +kernel
theorem d_ST_bound_66 : decode b_ST_bound 66 = .ok (.if_icmp .ge 31, 3) := by decide +kernel
theorem d_ST_bound_69 : decode b_ST_bound 69 = .ok (.iload_n 2, 1) := by decide +kernel
theorem d_ST_bound_70 : decode b_ST_bound 70 = .ok (.aload_n 0, 1) := by decide +kernel
theorem d_ST_bound_71 : decode b_ST_bound 71 = .ok (.getfield 17, 3) := by decide +kernel
theorem d_ST_bound_74 : decode b_ST_bound 74 = .ok (.iload_n 3, 1) := by decide +kernel
theorem d_ST_bound_75 : decode b_ST_bound 75 = .ok (.aaload, 1) := by decide +kernel
theorem d_ST_bound_76 : decode b_ST_bound 76 = .ok (.invokevirtual 237, 3) := by decide +kernel
theorem d_ST_bound_79 : decode b_ST_bound 79 = .ok (.aload_n 0, 1) := by decide +kernel
theorem d_ST_bound_80 : decode b_ST_bound 80 = .ok (.getfield 17, 3) := by decide +kernel
theorem d_ST_bound_83 : decode b_ST_bound 83 = .ok (.iload_n 3, 1) := by decide +kernel
theorem d_ST_bound_84 : decode b_ST_bound 84 = .ok (.aaload, 1) := by decide +kernel
theorem d_ST_bound_85 : decode b_ST_bound 85 = .ok (.getfield 130, 3) := by decide +kernel
theorem d_ST_bound_88 : decode b_ST_bound 88 = .ok (.imul, 1) := by decide +kernel
theorem d_ST_bound_89 : decode b_ST_bound 89 = .ok (.iadd, 1) := by decide +kernel
theorem d_ST_bound_90 : decode b_ST_bound 90 = .ok (.istore_n 2, 1) := by decide +kernel
theorem d_ST_bound_91 : decode b_ST_bound 91 = .ok (.iinc 3 1, 3) := by decide +kernel
theorem d_ST_bound_94 : decode b_ST_bound 94 = .ok (.goto (-42), 3) := by decide +kernel
theorem d_ST_bound_97 : decode b_ST_bound 97 = .ok (.iload_n 2, 1) := by decide +kernel
theorem d_ST_bound_98 : decode b_ST_bound 98 = .ok (.iload_n 1, 1) := by decide +kernel
theorem d_ST_bound_99 : decode b_ST_bound 99 = .ok (.iadd, 1) := by decide +kernel
theorem d_ST_bound_100 : decode b_ST_bound 100 = .ok (.iconst 1, 1) := by decide +kernel
theorem d_ST_bound_101 : decode b_ST_bound 101 = .ok (.isub, 1) := by decide +kernel
theorem d_ST_bound_102 : decode b_ST_bound 102 = .ok (.iload_n 1, 1) := by decide +kernel
theorem d_ST_bound_103 : decode b_ST_bound 103 = .ok (.idiv, 1) := by decide +kernel
theorem d_ST_bound_104 : decode b_ST_bound 104 = .ok (.ireturn, 1) := by decide +kernel
theorem d_ST_nearest_0 : decode b_ST_nearest 0 = .ok (.iload_n 1, 1) := by decide +kernel
theorem d_ST_nearest_1 : decode b_ST_nearest 1 = .ok (.iload_n 2, 1) := by decide +kernel
theorem d_ST_nearest_2 : decode b_ST_nearest 2 = .ok (.iload_n 0, 1) := by decide +kernel
theorem d_ST_nearest_3 : decode b_ST_nearest 3 = .ok (.invokestatic 238, 3) := by decide +kernel
theorem d_ST_nearest_6 : decode b_ST_nearest 6 = .ok (.invokestatic 232, 3) := by decide +kernel
theorem d_ST_nearest_9 : decode b_ST_nearest 9 = .ok (.ireturn, 1) := by decide +kernel
theorem d_ST_isWithin_0 : decode b_ST_isWithin 0 = .ok (.iload_n 0, 1) := by decide +kernel
theorem d_ST_isWithin_1 : decode b_ST_isWithin 1 = .ok (.iload_n 1, 1) := by decide +kernel
theorem d_ST_isWithin_2 : decode b_ST_isWithin 2 = .ok (.if_icmp .lt 12, 3) := by decide +kernel
theorem d_ST_isWithin_5 : decode b_ST_isWithin 5 = .ok (.iload_n 0, 1) := by decide +kernel
theorem d_ST_isWithin_6 : decode b_ST_isWithin 6 = .ok (.iload_n 2, 1) := by decide +kernel
theorem d_ST_isWithin_7 : decode b_ST_isWithin 7 = .ok (.if_icmp .gt 7, 3) := by decide +kernel
theorem d_ST_isWithin_10 : decode b_ST_isWithin 10 = .ok (.iconst 1, 1) := by decide +kernel
theorem d_ST_isWithin_11 : decode b_ST_isWithin 11 = .ok (.goto 4, 3) := by decide +kernel
theorem d_ST_isWithin_14 : decode b_ST_isWithin 14 = .ok (.iconst 0, 1) := by decide +kernel
theorem d_ST_isWithin_15 : decode b_ST_isWithin 15 = .ok (.ireturn, 1) := by decide +kernel
theorem d_ST_isSide_0 : decode b_ST_isSide 0 = .ok (.iload_n 0, 1) := by decide +kernel
theorem d_ST_isSide_1 : decode b_ST_isSide 1 = .ok (.iconst 1, 1) := by decide +kernel
theorem d_ST_isSide_2 : decode b_ST_isSide 2 = .ok (.bipush 16, 2) := by decide +kernel
theorem d_ST_isSide_4 : decode b_ST_isSide 4 = .ok (.invokestatic 96, 3) := by decide +kernel
theorem d_ST_isSide_7 : decode b_ST_isSide 7 = .ok (.ireturn, 1) := by decide +kernel
theorem d_ST_pieceAt_0 : decode b_ST_pieceAt 0 = .ok (.iload_n 1, 1) := by decide +kernel
theorem d_ST_pieceAt_1 : decode b_ST_pieceAt 1 = .ok (.ifCond .lt 15, 3) := by decide +kernel
theorem d_ST_pieceAt_4 : decode b_ST_pieceAt 4 = .ok (.iload_n 1, 1) := by decide +kernel
theorem d_ST_pieceAt_5 : decode b_ST_pieceAt 5 = .ok (.aload_n 0, 1) := by decide +kernel
theorem d_ST_pieceAt_6 : decode b_ST_pieceAt 6 = .ok (.arraylength, 1) := by decide +kernel
theorem d_ST_pieceAt_7 : decode b_ST_pieceAt 7 = .ok (.if_icmp .ge 9, 3) := by decide +kernel
theorem d_ST_pieceAt_10 : decode b_ST_pieceAt 10 = .ok (.aload_n 0, 1) := by decide +kernel
theorem d_ST_pieceAt_11 : decode b_ST_pieceAt 11 = .ok (.iload_n 1, 1) := by decide +kernel
theorem d_ST_pieceAt_12 : decode b_ST_pieceAt 12 = .ok (.iaload, 1) := by decide +kernel
theorem d_ST_pieceAt_13 : decode b_ST_pieceAt 13 = .ok (.goto 4, 3) := by decide +kernel
theorem d_ST_pieceAt_16 : decode b_ST_pieceAt 16 = .ok (.iconst 0, 1) := by decide +kernel
theorem d_ST_pieceAt_17 : decode b_ST_pieceAt 17 = .ok (.ireturn, 1) := by decide +kernel
theorem d_ST_needRun_0 : decode b_ST_needRun 0 = .ok (.aload_n 0, 1) := by decide +kernel
theorem d_ST_needRun_1 : decode b_ST_needRun 1 = .ok (.getfield 50, 3) := by decide +kernel
theorem d_ST_needRun_4 : decode b_ST_needRun 4 = .ok (.ifCond .ne 13, 3) := by decide +kernel
theorem d_ST_needRun_7 : decode b_ST_needRun 7 = .ok (.new 104, 3) := by decide +kernel
theorem d_ST_needRun_10 : decode b_ST_needRun 10 = .ok (.dup, 1) := by decide +kernel
theorem d_ST_needRun_11 : decode b_ST_needRun 11 = .ok (.ldc 241, 2) := by decide +kernel
theorem d_ST_needRun_13 : decode b_ST_needRun 13 = .ok (.invokespecial 108, 3) := by decide +kernel
theorem d_ST_needRun_16 : decode b_ST_needRun 16 = .ok (.athrow, 1) := by decide +kernel
theorem d_ST_needRun_17 : decode b_ST_needRun 17 = .ok (.return_, 1) := by decide +kernel
theorem d_ST_partAt_0 : decode b_ST_partAt 0 = .ok (.iload_n 1, 1) := by decide +kernel
theorem d_ST_partAt_1 : decode b_ST_partAt 1 = .ok (.ifCond .lt 20, 3) := by decide +kernel
theorem d_ST_partAt_4 : decode b_ST_partAt 4 = .ok (.iload_n 1, 1) := by decide +kernel
theorem d_ST_partAt_5 : decode b_ST_partAt 5 = .ok (.aload_n 0, 1) := by decide +kernel
theorem d_ST_partAt_6 : decode b_ST_partAt 6 = .ok (.getfield 38, 3) := by decide +kernel
theorem d_ST_partAt_9 : decode b_ST_partAt 9 = .ok (.if_icmp .ge 12, 3) := by decide +kernel
theorem d_ST_partAt_12 : decode b_ST_partAt 12 = .ok (.iload_n 1, 1) := by decide +kernel
theorem d_ST_partAt_13 : decode b_ST_partAt 13 = .ok (.aload_n 0, 1) := by decide +kernel
theorem d_ST_partAt_14 : decode b_ST_partAt 14 = .ok (.getfield 17, 3) := by decide +kernel
theorem d_ST_partAt_17 : decode b_ST_partAt 17 = .ok (.arraylength, 1) := by decide +kernel
theorem d_ST_partAt_18 : decode b_ST_partAt 18 = .ok (.if_icmp .lt 13, 3) := by decide +kernel
theorem d_ST_partAt_21 : decode b_ST_partAt 21 = .ok (.new 189, 3) := by decide +kernel
theorem d_ST_partAt_24 : decode b_ST_partAt 24 = .ok (.dup, 1) := by decide +kernel
theorem d_ST_partAt_25 : decode b_ST_partAt 25 = .ok (.ldc 243, 2) := by decide +kernel
theorem d_ST_partAt_27 : decode b_ST_partAt 27 = .ok (.invokespecial 193, 3) := by decide +kernel
theorem d_ST_partAt_30 : decode b_ST_partAt 30 = .ok (.athrow, 1) := by decide +kernel
theorem d_ST_partAt_31 : decode b_ST_partAt 31 = .ok (.aload_n 0, 1) := by decide +kernel
theorem d_ST_partAt_32 : decode b_ST_partAt 32 = .ok (.getfield 17, 3) := by decide +kernel
theorem d_ST_partAt_35 : decode b_ST_partAt 35 = .ok (.iload_n 1, 1) := by decide +kernel
theorem d_ST_partAt_36 : decode b_ST_partAt 36 = .ok (.aaload, 1) := by decide +kernel
theorem d_ST_partAt_37 : decode b_ST_partAt 37 = .ok (.areturn, 1) := by decide +kernel
theorem d_ST_cutSheetAt_0 : decode b_ST_cutSheetAt 0 = .ok (.aload_n 0, 1) := by decide +kernel
theorem d_ST_cutSheetAt_1 : decode b_ST_cutSheetAt 1 = .ok (.invokevirtual 218, 3) := by decide +kernel
theorem d_ST_cutSheetAt_4 : decode b_ST_cutSheetAt 4 = .ok (.iload_n 1, 1) := by decide +kernel
theorem d_ST_cutSheetAt_5 : decode b_ST_cutSheetAt 5 = .ok (.ifCond .lt 20, 3) := by decide +kernel
theorem d_ST_cutSheetAt_8 : decode b_ST_cutSheetAt 8 = .ok (.iload_n 1, 1) := by decide +kernel
theorem d_ST_cutSheetAt_9 : decode b_ST_cutSheetAt 9 = .ok (.aload_n 0, 1) := by decide +kernel
theorem d_ST_cutSheetAt_10 : decode b_ST_cutSheetAt 10 = .ok (.getfield 41, 3) := by decide +kernel
theorem d_ST_cutSheetAt_13 : decode b_ST_cutSheetAt 13 = .ok (.if_icmp .ge 12, 3) := by decide +kernel
theorem d_ST_cutSheetAt_16 : decode b_ST_cutSheetAt 16 = .ok (.iload_n 1, 1) := by decide +kernel
theorem d_ST_cutSheetAt_17 : decode b_ST_cutSheetAt 17 = .ok (.aload_n 0, 1) := by decide +kernel
theorem d_ST_cutSheetAt_18 : decode b_ST_cutSheetAt 18 = .ok (.getfield 23, 3) := by decide +kernel
theorem d_ST_cutSheetAt_21 : decode b_ST_cutSheetAt 21 = .ok (.arraylength, 1) := by decide +kernel
theorem d_ST_cutSheetAt_22 : decode b_ST_cutSheetAt 22 = .ok (.if_icmp .lt 13, 3) := by decide +kernel
theorem d_ST_cutSheetAt_25 : decode b_ST_cutSheetAt 25 = .ok (.new 189, 3) := by decide +kernel
theorem d_ST_cutSheetAt_28 : decode b_ST_cutSheetAt 28 = .ok (.dup, 1) := by decide +kernel
theorem d_ST_cutSheetAt_29 : decode b_ST_cutSheetAt 29 = .ok (.ldc 245, 2) := by decide +kernel
theorem d_ST_cutSheetAt_31 : decode b_ST_cutSheetAt 31 = .ok (.invokespecial 193, 3) := by decide +kernel
theorem d_ST_cutSheetAt_34 : decode b_ST_cutSheetAt 34 = .ok (.athrow, 1) := by decide +kernel
theorem d_ST_cutSheetAt_35 : decode b_ST_cutSheetAt 35 = .ok (.aload_n 0, 1) := by decide +kernel
theorem d_ST_cutSheetAt_36 : decode b_ST_cutSheetAt 36 = .ok (.getfield 23, 3) := by decide +kernel
theorem d_ST_cutSheetAt_39 : decode b_ST_cutSheetAt 39 = .ok (.iload_n 1, 1) := by decide +kernel
theorem d_ST_cutSheetAt_40 : decode b_ST_cutSheetAt 40 = .ok (.aaload, 1) := by decide +kernel
theorem d_ST_cutSheetAt_41 : decode b_ST_cutSheetAt 41 = .ok (.areturn, 1) := by decide +kernel
theorem d_ST_partsTold_0 : decode b_ST_partsTold 0 = .ok (.iconst 0, 1) := by decide +kernel
theorem d_ST_partsTold_1 : decode b_ST_partsTold 1 = .ok (.istore_n 1, 1) := by decide +kernel
theorem d_ST_partsTold_2 : decode b_ST_partsTold 2 = .ok (.iconst 0, 1) := by decide +kernel
theorem d_ST_partsTold_3 : decode b_ST_partsTold 3 = .ok (.istore_n 2, 1) := by decide +kernel
theorem d_ST_partsTold_4 : decode b_ST_partsTold 4 = .ok (.iload_n 2, 1) := by decide +kernel
theorem d_ST_partsTold_5 : decode b_ST_partsTold 5 = .ok (.aload_n 0, 1) := by decide +kernel
theorem d_ST_partsTold_6 : decode b_ST_partsTold 6 = .ok (.getfield 38, 3) := by decide +kernel
theorem d_ST_partsTold_9 : decode b_ST_partsTold 9 = .ok (.if_icmp .ge 40, 3) := by decide +kernel
theorem d_ST_partsTold_12 : decode b_ST_partsTold 12 = .ok (.iload_n 2, 1) := by decide +kernel
theorem d_ST_partsTold_13 : decode b_ST_partsTold 13 = .ok (.aload_n 0, 1) := by decide +kernel
theorem d_ST_partsTold_14 : decode b_ST_partsTold 14 = .ok (.getfield 17, 3) := by decide +kernel
theorem d_ST_partsTold_17 : decode b_ST_partsTold 17 = .ok (.arraylength, 1) := by decide +kernel
theorem d_ST_partsTold_18 : decode b_ST_partsTold 18 = .ok (.if_icmp .ge 31, 3) := by decide +kernel
theorem d_ST_partsTold_21 : decode b_ST_partsTold 21 = .ok (.iload_n 1, 1) := by decide +kernel
theorem d_ST_partsTold_22 : decode b_ST_partsTold 22 = .ok (.aload_n 0, 1) := by decide +kernel
theorem d_ST_partsTold_23 : decode b_ST_partsTold 23 = .ok (.getfield 17, 3) := by decide +kernel
theorem d_ST_partsTold_26 : decode b_ST_partsTold 26 = .ok (.iload_n 2, 1) := by decide +kernel
theorem d_ST_partsTold_27 : decode b_ST_partsTold 27 = .ok (.aaload, 1) := by decide +kernel
theorem d_ST_partsTold_28 : decode b_ST_partsTold 28 = .ok (.getfield 130, 3) := by decide +kernel
theorem d_ST_partsTold_31 : decode b_ST_partsTold 31 = .ok (.ifCond .le 9, 3) := by decide +kernel
theorem d_ST_partsTold_34 : decode b_ST_partsTold 34 = .ok (.iconst 1, 1) := by decide +kernel
theorem d_ST_partsTold_35 : decode b_ST_partsTold 35 = .ok (.iload_n 2, 1) := by decide +kernel
theorem d_ST_partsTold_36 : decode b_ST_partsTold 36 = .ok (.ishl, 1) := by decide +kernel
theorem d_ST_partsTold_37 : decode b_ST_partsTold 37 = .ok (.goto 4, 3) := by decide +kernel
theorem d_ST_partsTold_40 : decode b_ST_partsTold 40 = .ok (.iconst 0, 1) := by decide +kernel
theorem d_ST_partsTold_41 : decode b_ST_partsTold 41 = .ok (.ior, 1) := by decide +kernel
theorem d_ST_partsTold_42 : decode b_ST_partsTold 42 = .ok (.istore_n 1, 1) := by decide +kernel
theorem d_ST_partsTold_43 : decode b_ST_partsTold 43 = .ok (.iinc 2 1, 3) := by decide +kernel
theorem d_ST_partsTold_46 : decode b_ST_partsTold 46 = .ok (.goto (-42), 3) := by decide +kernel
theorem d_ST_partsTold_49 : decode b_ST_partsTold 49 = .ok (.iload_n 1, 1) := by decide +kernel
theorem d_ST_partsTold_50 : decode b_ST_partsTold 50 = .ok (.ireturn, 1) := by decide +kernel
theorem d_ST_partsStillWanted_0 : decode b_ST_partsStillWanted 0 = .ok (.iconst 0, 1) := by decide +kernel
theorem d_ST_partsStillWanted_1 : decode b_ST_partsStillWanted 1 = .ok (.istore_n 1, 1) := by decide +kernel
theorem d_ST_partsStillWanted_2 : decode b_ST_partsStillWanted 2 = .ok (.iconst 0, 1) := by decide +kernel
theorem d_ST_partsStillWanted_3 : decode b_ST_partsStillWanted 3 = .ok (.istore_n 2, 1) := by decide +kernel
theorem d_ST_partsStillWanted_4 : decode b_ST_partsStillWanted 4 = .ok (.iload_n 2, 1) := by decide +kernel
theorem d_ST_partsStillWanted_5 : decode b_ST_partsStillWanted 5 = .ok (.aload_n 0, 1) := by decide +kernel
theorem d_ST_partsStillWanted_6 : decode b_ST_partsStillWanted 6 = .ok (.getfield 38, 3) := by decide +kernel
theorem d_ST_partsStillWanted_9 : decode b_ST_partsStillWanted 9 = .ok (.if_icmp .ge 40, 3) := by decide +kernel
theorem d_ST_partsStillWanted_12 : decode b_ST_partsStillWanted 12 = .ok (.iload_n 2, 1) := by decide +kernel
theorem d_ST_partsStillWanted_13 : decode b_ST_partsStillWanted 13 = .ok (.aload_n 0, 1) := by decide +kernel
theorem d_ST_partsStillWanted_14 : decode b_ST_partsStillWanted 14 = .ok (.getfield 17, 3) := by decide +kernel
theorem d_ST_partsStillWanted_17 : decode b_ST_partsStillWanted 17 = .ok (.arraylength, 1) := by decide +kernel
theorem d_ST_partsStillWanted_18 : decode b_ST_partsStillWanted 18 = .ok (.if_icmp .ge 31, 3) := by decide +kernel
theorem d_ST_partsStillWanted_21 : decode b_ST_partsStillWanted 21 = .ok (.iload_n 1, 1) := by decide +kernel
theorem d_ST_partsStillWanted_22 : decode b_ST_partsStillWanted 22 = .ok (.aload_n 0, 1) := by decide +kernel
theorem d_ST_partsStillWanted_23 : decode b_ST_partsStillWanted 23 = .ok (.getfield 17, 3) := by decide +kernel
theorem d_ST_partsStillWanted_26 : decode b_ST_partsStillWanted 26 = .ok (.iload_n 2, 1) := by decide +kernel
theorem d_ST_partsStillWanted_27 : decode b_ST_partsStillWanted 27 = .ok (.aaload, 1) := by decide +kernel
theorem d_ST_partsStillWanted_28 : decode b_ST_partsStillWanted 28 = .ok (.getfield 221, 3) := by decide +kernel
theorem d_ST_partsStillWanted_31 : decode b_ST_partsStillWanted 31 = .ok (.ifCond .le 9, 3) := by decide +kernel
theorem d_ST_partsStillWanted_34 : decode b_ST_partsStillWanted 34 = .ok (.iconst 1, 1) := by decide +kernel
theorem d_ST_partsStillWanted_35 : decode b_ST_partsStillWanted 35 = .ok (.iload_n 2, 1) := by decide +kernel
theorem d_ST_partsStillWanted_36 : decode b_ST_partsStillWanted 36 = .ok (.ishl, 1) := by decide +kernel
theorem d_ST_partsStillWanted_37 : decode b_ST_partsStillWanted 37 = .ok (.goto 4, 3) := by decide +kernel
theorem d_ST_partsStillWanted_40 : decode b_ST_partsStillWanted 40 = .ok (.iconst 0, 1) := by decide +kernel
theorem d_ST_partsStillWanted_41 : decode b_ST_partsStillWanted 41 = .ok (.ior, 1) := by decide +kernel
theorem d_ST_partsStillWanted_42 : decode b_ST_partsStillWanted 42 = .ok (.istore_n 1, 1) := by decide +kernel
theorem d_ST_partsStillWanted_43 : decode b_ST_partsStillWanted 43 = .ok (.iinc 2 1, 3) := by decide +kernel
theorem d_ST_partsStillWanted_46 : decode b_ST_partsStillWanted 46 = .ok (.goto (-42), 3) := by decide +kernel
theorem d_ST_partsStillWanted_49 : decode b_ST_partsStillWanted 49 = .ok (.iload_n 1, 1) := by decide +kernel
theorem d_ST_partsStillWanted_50 : decode b_ST_partsStillWanted 50 = .ok (.ireturn, 1) := by decide +kernel
theorem d_ST_startRun_0 : decode b_ST_startRun 0 = .ok (.aload_n 0, 1) := by decide +kernel
theorem d_ST_startRun_1 : decode b_ST_startRun 1 = .ok (.iconst 0, 1) := by decide +kernel
theorem d_ST_startRun_2 : decode b_ST_startRun 2 = .ok (.putfield 41, 3) := by decide +kernel
theorem d_ST_startRun_5 : decode b_ST_startRun 5 = .ok (.aload_n 0, 1) := by decide +kernel
theorem d_ST_startRun_6 : decode b_ST_startRun 6 = .ok (.iconst 0, 1) := by decide +kernel
theorem d_ST_startRun_7 : decode b_ST_startRun 7 = .ok (.putfield 44, 3) := by decide +kernel
theorem d_ST_startRun_10 : decode b_ST_startRun 10 = .ok (.aload_n 0, 1) := by decide +kernel
theorem d_ST_startRun_11 : decode b_ST_startRun 11 = .ok (.iconst 0, 1) := by decide +kernel
theorem d_ST_startRun_12 : decode b_ST_startRun 12 = .ok (.putfield 47, 3) := by decide +kernel
theorem d_ST_startRun_15 : decode b_ST_startRun 15 = .ok (.iconst 0, 1) := by decide +kernel
theorem d_ST_startRun_16 : decode b_ST_startRun 16 = .ok (.istore_n 1, 1) := by decide +kernel
theorem d_ST_startRun_17 : decode b_ST_startRun 17 = .ok (.iload_n 1, 1) := by decide +kernel
theorem d_ST_startRun_18 : decode b_ST_startRun 18 = .ok (.aload_n 0, 1) := by decide +kernel
theorem d_ST_startRun_19 : decode b_ST_startRun 19 = .ok (.getfield 34, 3) := by decide +kernel
theorem d_ST_startRun_22 : decode b_ST_startRun 22 = .ok (.if_icmp .ge 36, 3) := by decide +kernel
theorem d_ST_startRun_25 : decode b_ST_startRun 25 = .ok (.iload_n 1, 1) := by decide +kernel
theorem d_ST_startRun_26 : decode b_ST_startRun 26 = .ok (.aload_n 0, 1) := by decide +kernel
theorem d_ST_startRun_27 : decode b_ST_startRun 27 = .ok (.getfield 11, 3) := by decide +kernel
theorem d_ST_startRun_30 : decode b_ST_startRun 30 = .ok (.arraylength, 1) := by decide +kernel
theorem d_ST_startRun_31 : decode b_ST_startRun 31 = .ok (.if_icmp .ge 27, 3) := by decide +kernel
theorem d_ST_startRun_34 : decode b_ST_startRun 34 = .ok (.aload_n 0, 1) := by decide +kernel
theorem d_ST_startRun_35 : decode b_ST_startRun 35 = .ok (.getfield 11, 3) := by decide +kernel
theorem d_ST_startRun_38 : decode b_ST_startRun 38 = .ok (.iload_n 1, 1) := by decide +kernel
theorem d_ST_startRun_39 : decode b_ST_startRun 39 = .ok (.aaload, 1) := by decide +kernel
theorem d_ST_startRun_40 : decode b_ST_startRun 40 = .ok (.aload_n 0, 1) := by decide +kernel
theorem d_ST_startRun_41 : decode b_ST_startRun 41 = .ok (.getfield 11, 3) := by decide +kernel
theorem d_ST_startRun_44 : decode b_ST_startRun 44 = .ok (.iload_n 1, 1) := by decide +kernel
theorem d_ST_startRun_45 : decode b_ST_startRun 45 = .ok (.aaload, 1) := by decide +kernel
theorem d_ST_startRun_46 : decode b_ST_startRun 46 = .ok (.getfield 118, 3) := by decide +kernel
theorem d_ST_startRun_49 : decode b_ST_startRun 49 = .ok (.putfield 247, 3) := by decide +kernel
theorem d_ST_startRun_52 : decode b_ST_startRun 52 = .ok (.iinc 1 1, 3) := by decide +kernel
theorem d_ST_startRun_55 : decode b_ST_startRun 55 = .ok (.goto (-38), 3) := by decide +kernel
theorem d_ST_startRun_58 : decode b_ST_startRun 58 = .ok (.iconst 0, 1) := by decide +kernel
theorem d_ST_startRun_59 : decode b_ST_startRun 59 = .ok (.istore_n 1, 1) := by decide +kernel
theorem d_ST_startRun_60 : decode b_ST_startRun 60 = .ok (.iload_n 1, 1) := by decide +kernel
theorem d_ST_startRun_61 : decode b_ST_startRun 61 = .ok (.aload_n 0, 1) := by decide +kernel
theorem d_ST_startRun_62 : decode b_ST_startRun 62 = .ok (.getfield 38, 3) := by decide +kernel
theorem d_ST_startRun_65 : decode b_ST_startRun 65 = .ok (.if_icmp .ge 36, 3) := by decide +kernel
theorem d_ST_startRun_68 : decode b_ST_startRun 68 = .ok (.iload_n 1, 1) := by decide +kernel
theorem d_ST_startRun_69 : decode b_ST_startRun 69 = .ok (.aload_n 0, 1) := by decide +kernel
theorem d_ST_startRun_70 : decode b_ST_startRun 70 = .ok (.getfield 17, 3) := by decide +kernel
theorem d_ST_startRun_73 : decode b_ST_startRun 73 = .ok (.arraylength, 1) := by decide +kernel
theorem d_ST_startRun_74 : decode b_ST_startRun 74 = .ok (.if_icmp .ge 27, 3) := by decide +kernel
theorem d_ST_startRun_77 : decode b_ST_startRun 77 = .ok (.aload_n 0, 1) := by decide +kernel
theorem d_ST_startRun_78 : decode b_ST_startRun 78 = .ok (.getfield 17, 3) := by decide +kernel
theorem d_ST_startRun_81 : decode b_ST_startRun 81 = .ok (.iload_n 1, 1) := by decide +kernel
theorem d_ST_startRun_82 : decode b_ST_startRun 82 = .ok (.aaload, 1) := by decide +kernel
theorem d_ST_startRun_83 : decode b_ST_startRun 83 = .ok (.aload_n 0, 1) := by decide +kernel
theorem d_ST_startRun_84 : decode b_ST_startRun 84 = .ok (.getfield 17, 3) := by decide +kernel
theorem d_ST_startRun_87 : decode b_ST_startRun 87 = .ok (.iload_n 1, 1) := by decide +kernel
theorem d_ST_startRun_88 : decode b_ST_startRun 88 = .ok (.aaload, 1) := by decide +kernel
theorem d_ST_startRun_89 : decode b_ST_startRun 89 = .ok (.getfield 130, 3) := by decide +kernel
theorem d_ST_startRun_92 : decode b_ST_startRun 92 = .ok (.putfield 221, 3) := by decide +kernel
theorem d_ST_startRun_95 : decode b_ST_startRun 95 = .ok (.iinc 1 1, 3) := by decide +kernel
theorem d_ST_startRun_98 : decode b_ST_startRun 98 = .ok (.goto (-38), 3) := by decide +kernel
theorem d_ST_startRun_101 : decode b_ST_startRun 101 = .ok (.return_, 1) := by decide +kernel
theorem d_ST_bestSheet_0 : decode b_ST_bestSheet 0 = .ok (.iconst (-1), 1) := by decide +kernel
theorem d_ST_bestSheet_1 : decode b_ST_bestSheet 1 = .ok (.istore_n 1, 1) := by decide +kernel
theorem d_ST_bestSheet_2 : decode b_ST_bestSheet 2 = .ok (.iconst 0, 1) := by decide +kernel
theorem d_ST_bestSheet_3 : decode b_ST_bestSheet 3 = .ok (.istore_n 2, 1) := by decide +kernel
theorem d_ST_bestSheet_4 : decode b_ST_bestSheet 4 = .ok (.iconst 1, 1) := by decide +kernel
theorem d_ST_bestSheet_5 : decode b_ST_bestSheet 5 = .ok (.istore_n 3, 1) := by decide +kernel
theorem d_ST_bestSheet_6 : decode b_ST_bestSheet 6 = .ok (.iconst 0, 1) := by decide +kernel
theorem d_ST_bestSheet_7 : decode b_ST_bestSheet 7 = .ok (.istore 4, 2) := by decide +kernel
theorem d_ST_bestSheet_9 : decode b_ST_bestSheet 9 = .ok (.iload 4, 2) := by decide +kernel
theorem d_ST_bestSheet_11 : decode b_ST_bestSheet 11 = .ok (.aload_n 0, 1) := by decide +kernel
theorem d_ST_bestSheet_12 : decode b_ST_bestSheet 12 = .ok (.getfield 34, 3) := by decide +kernel
theorem d_ST_bestSheet_15 : decode b_ST_bestSheet 15 = .ok (.if_icmp .ge 88, 3) := by decide +kernel
theorem d_ST_bestSheet_18 : decode b_ST_bestSheet 18 = .ok (.iload 4, 2) := by decide +kernel
theorem d_ST_bestSheet_20 : decode b_ST_bestSheet 20 = .ok (.aload_n 0, 1) := by decide +kernel
theorem d_ST_bestSheet_21 : decode b_ST_bestSheet 21 = .ok (.getfield 11, 3) := by decide +kernel
theorem d_ST_bestSheet_24 : decode b_ST_bestSheet 24 = .ok (.arraylength, 1) := by decide +kernel
theorem d_ST_bestSheet_25 : decode b_ST_bestSheet 25 = .ok (.if_icmp .ge 78, 3) := by decide +kernel
theorem d_ST_bestSheet_28 : decode b_ST_bestSheet 28 = .ok (.aload_n 0, 1) := by decide +kernel
theorem d_ST_bestSheet_29 : decode b_ST_bestSheet 29 = .ok (.getfield 11, 3) := by decide +kernel
theorem d_ST_bestSheet_32 : decode b_ST_bestSheet 32 = .ok (.iload 4, 2) := by decide +kernel
theorem d_ST_bestSheet_34 : decode b_ST_bestSheet 34 = .ok (.aaload, 1) := by decide +kernel
theorem d_ST_bestSheet_35 : decode b_ST_bestSheet 35 = .ok (.astore 5, 2) := by decide +kernel
theorem d_ST_bestSheet_37 : decode b_ST_bestSheet 37 = .ok (.aload 5, 2) := by decide +kernel
theorem d_ST_bestSheet_39 : decode b_ST_bestSheet 39 = .ok (.getfield 247, 3) := by decide +kernel
theorem d_ST_bestSheet_42 : decode b_ST_bestSheet 42 = .ok (.ifCond .le 55, 3) := by decide +kernel
theorem d_ST_bestSheet_45 : decode b_ST_bestSheet 45 = .ok (.aload_n 0, 1) := by decide +kernel
theorem d_ST_bestSheet_46 : decode b_ST_bestSheet 46 = .ok (.getfield 78, 3) := by decide +kernel
theorem d_ST_bestSheet_49 : decode b_ST_bestSheet 49 = .ok (.aload 5, 2) := by decide +kernel
theorem d_ST_bestSheet_51 : decode b_ST_bestSheet 51 = .ok (.aload_n 0, 1) := by decide +kernel
theorem d_ST_bestSheet_52 : decode b_ST_bestSheet 52 = .ok (.getfield 58, 3) := by decide +kernel
theorem d_ST_bestSheet_55 : decode b_ST_bestSheet 55 = .ok (.invokevirtual 250, 3) := by decide +kernel
theorem d_ST_bestSheet_58 : decode b_ST_bestSheet 58 = .ok (.aload_n 0, 1) := by decide +kernel
theorem d_ST_bestSheet_59 : decode b_ST_bestSheet 59 = .ok (.getfield 78, 3) := by decide +kernel
theorem d_ST_bestSheet_62 : decode b_ST_bestSheet 62 = .ok (.aload_n 0, 1) := by decide +kernel
theorem d_ST_bestSheet_63 : decode b_ST_bestSheet 63 = .ok (.getfield 17, 3) := by decide +kernel
theorem d_ST_bestSheet_66 : decode b_ST_bestSheet 66 = .ok (.invokevirtual 254, 3) := by decide +kernel
theorem d_ST_bestSheet_69 : decode b_ST_bestSheet 69 = .ok (.istore 6, 2) := by decide +kernel
theorem d_ST_bestSheet_71 : decode b_ST_bestSheet 71 = .ok (.iload 6, 2) := by decide +kernel
theorem d_ST_bestSheet_73 : decode b_ST_bestSheet 73 = .ok (.iload_n 3, 1) := by decide +kernel
theorem d_ST_bestSheet_74 : decode b_ST_bestSheet 74 = .ok (.imul, 1) := by decide +kernel
theorem d_ST_bestSheet_75 : decode b_ST_bestSheet 75 = .ok (.iload_n 2, 1) := by decide +kernel
theorem d_ST_bestSheet_76 : decode b_ST_bestSheet 76 = .ok (.aload 5, 2) := by decide +kernel
theorem d_ST_bestSheet_78 : decode b_ST_bestSheet 78 = .ok (.getfield 115, 3) := by decide +kernel
theorem d_ST_bestSheet_81 : decode b_ST_bestSheet 81 = .ok (.imul, 1) := by decide +kernel
theorem d_ST_bestSheet_82 : decode b_ST_bestSheet 82 = .ok (.if_icmp .le 15, 3) := by decide +kernel
theorem d_ST_bestSheet_85 : decode b_ST_bestSheet 85 = .ok (.iload 4, 2) := by decide +kernel
theorem d_ST_bestSheet_87 : decode b_ST_bestSheet 87 = .ok (.istore_n 1, 1) := by decide +kernel
theorem d_ST_bestSheet_88 : decode b_ST_bestSheet 88 = .ok (.iload 6, 2) := by decide +kernel
theorem d_ST_bestSheet_90 : decode b_ST_bestSheet 90 = .ok (.istore_n 2, 1) := by decide +kernel
theorem d_ST_bestSheet_91 : decode b_ST_bestSheet 91 = .ok (.aload 5, 2) := by decide +kernel
theorem d_ST_bestSheet_93 : decode b_ST_bestSheet 93 = .ok (.getfield 115, 3) := by decide +kernel
theorem d_ST_bestSheet_96 : decode b_ST_bestSheet 96 = .ok (.istore_n 3, 1) := by decide +kernel
theorem d_ST_bestSheet_97 : decode b_ST_bestSheet 97 = .ok (.iinc 4 1, 3) := by decide +kernel
theorem d_ST_bestSheet_100 : decode b_ST_bestSheet 100 = .ok (.goto (-91), 3) := by decide +kernel
theorem d_ST_bestSheet_103 : decode b_ST_bestSheet 103 = .ok (.iload_n 1, 1) := by decide +kernel
theorem d_ST_bestSheet_104 : decode b_ST_bestSheet 104 = .ok (.ireturn, 1) := by decide +kernel
theorem d_ST_cutOneOf_0 : decode b_ST_cutOneOf 0 = .ok (.iload_n 1, 1) := by decide +kernel
theorem d_ST_cutOneOf_1 : decode b_ST_cutOneOf 1 = .ok (.ifCond .lt 24, 3) := by decide +kernel
theorem d_ST_cutOneOf_4 : decode b_ST_cutOneOf 4 = .ok (.iload_n 1, 1) := by decide +kernel
theorem d_ST_cutOneOf_5 : decode b_ST_cutOneOf 5 = .ok (.aload_n 0, 1) := by decide +kernel
theorem d_ST_cutOneOf_6 : decode b_ST_cutOneOf 6 = .ok (.getfield 11, 3) := by decide +kernel
theorem d_ST_cutOneOf_9 : decode b_ST_cutOneOf 9 = .ok (.arraylength, 1) := by decide +kernel
theorem d_ST_cutOneOf_10 : decode b_ST_cutOneOf 10 = .ok (.if_icmp .ge 15, 3) := by decide +kernel
theorem d_ST_cutOneOf_13 : decode b_ST_cutOneOf 13 = .ok (.aload_n 0, 1) := by decide +kernel
theorem d_ST_cutOneOf_14 : decode b_ST_cutOneOf 14 = .ok (.getfield 41, 3) := by decide +kernel
theorem d_ST_cutOneOf_17 : decode b_ST_cutOneOf 17 = .ok (.aload_n 0, 1) := by decide +kernel
theorem d_ST_cutOneOf_18 : decode b_ST_cutOneOf 18 = .ok (.getfield 23, 3) := by decide +kernel
theorem d_ST_cutOneOf_21 : decode b_ST_cutOneOf 21 = .ok (.arraylength, 1) := by decide +kernel
theorem d_ST_cutOneOf_22 : decode b_ST_cutOneOf 22 = .ok (.if_icmp .lt 4, 3) := by decide +kernel
theorem d_ST_cutOneOf_25 : decode b_ST_cutOneOf 25 = .ok (.return_, 1) := by decide +kernel
theorem d_ST_cutOneOf_26 : decode b_ST_cutOneOf 26 = .ok (.aload_n 0, 1) := by decide +kernel
theorem d_ST_cutOneOf_27 : decode b_ST_cutOneOf 27 = .ok (.getfield 11, 3) := by decide +kernel
theorem d_ST_cutOneOf_30 : decode b_ST_cutOneOf 30 = .ok (.iload_n 1, 1) := by decide +kernel
theorem d_ST_cutOneOf_31 : decode b_ST_cutOneOf 31 = .ok (.aaload, 1) := by decide +kernel
theorem d_ST_cutOneOf_32 : decode b_ST_cutOneOf 32 = .ok (.astore_n 2, 1) := by decide +kernel
theorem d_ST_cutOneOf_33 : decode b_ST_cutOneOf 33 = .ok (.aload_n 0, 1) := by decide +kernel
theorem d_ST_cutOneOf_34 : decode b_ST_cutOneOf 34 = .ok (.getfield 23, 3) := by decide +kernel
theorem d_ST_cutOneOf_37 : decode b_ST_cutOneOf 37 = .ok (.aload_n 0, 1) := by decide +kernel
theorem d_ST_cutOneOf_38 : decode b_ST_cutOneOf 38 = .ok (.getfield 41, 3) := by decide +kernel
theorem d_ST_cutOneOf_41 : decode b_ST_cutOneOf 41 = .ok (.aaload, 1) := by decide +kernel
theorem d_ST_cutOneOf_42 : decode b_ST_cutOneOf 42 = .ok (.astore_n 3, 1) := by decide +kernel
theorem d_ST_cutOneOf_43 : decode b_ST_cutOneOf 43 = .ok (.aload_n 0, 1) := by decide +kernel
theorem d_ST_cutOneOf_44 : decode b_ST_cutOneOf 44 = .ok (.getfield 78, 3) := by decide +kernel
theorem d_ST_cutOneOf_47 : decode b_ST_cutOneOf 47 = .ok (.aload_n 2, 1) := by decide +kernel
theorem d_ST_cutOneOf_48 : decode b_ST_cutOneOf 48 = .ok (.aload_n 0, 1) := by decide +kernel
theorem d_ST_cutOneOf_49 : decode b_ST_cutOneOf 49 = .ok (.getfield 58, 3) := by decide +kernel
theorem d_ST_cutOneOf_52 : decode b_ST_cutOneOf 52 = .ok (.invokevirtual 250, 3) := by decide +kernel
theorem d_ST_cutOneOf_55 : decode b_ST_cutOneOf 55 = .ok (.aload_n 2, 1) := by decide +kernel
theorem d_ST_cutOneOf_56 : decode b_ST_cutOneOf 56 = .ok (.dup, 1) := by decide +kernel
theorem d_ST_cutOneOf_57 : decode b_ST_cutOneOf 57 = .ok (.getfield 247, 3) := by decide +kernel
theorem d_ST_cutOneOf_60 : decode b_ST_cutOneOf 60 = .ok (.iconst 1, 1) := by decide +kernel
theorem d_ST_cutOneOf_61 : decode b_ST_cutOneOf 61 = .ok (.isub, 1) := by decide +kernel
theorem d_ST_cutOneOf_62 : decode b_ST_cutOneOf 62 = .ok (.putfield 247, 3) := by decide +kernel
theorem d_ST_cutOneOf_65 : decode b_ST_cutOneOf 65 = .ok (.aload_n 3, 1) := by decide +kernel
theorem d_ST_cutOneOf_66 : decode b_ST_cutOneOf 66 = .ok (.iload_n 1, 1) := by decide +kernel
theorem d_ST_cutOneOf_67 : decode b_ST_cutOneOf 67 = .ok (.aload_n 2, 1) := by decide +kernel
theorem d_ST_cutOneOf_68 : decode b_ST_cutOneOf 68 = .ok (.aload_n 0, 1) := by decide +kernel
theorem d_ST_cutOneOf_69 : decode b_ST_cutOneOf 69 = .ok (.getfield 78, 3) := by decide +kernel
theorem d_ST_cutOneOf_72 : decode b_ST_cutOneOf 72 = .ok (.invokevirtual 258, 3) := by decide +kernel
theorem d_ST_cutOneOf_75 : decode b_ST_cutOneOf 75 = .ok (.aload_n 0, 1) := by decide +kernel
theorem d_ST_cutOneOf_76 : decode b_ST_cutOneOf 76 = .ok (.aload_n 3, 1) := by decide +kernel
theorem d_ST_cutOneOf_77 : decode b_ST_cutOneOf 77 = .ok (.invokevirtual 262, 3) := by decide +kernel
theorem d_ST_cutOneOf_80 : decode b_ST_cutOneOf 80 = .ok (.aload_n 3, 1) := by decide +kernel
theorem d_ST_cutOneOf_81 : decode b_ST_cutOneOf 81 = .ok (.aload_n 0, 1) := by decide +kernel
theorem d_ST_cutOneOf_82 : decode b_ST_cutOneOf 82 = .ok (.aload_n 3, 1) := by decide +kernel
theorem d_ST_cutOneOf_83 : decode b_ST_cutOneOf 83 = .ok (.invokevirtual 266, 3) := by decide +kernel
theorem d_ST_cutOneOf_86 : decode b_ST_cutOneOf 86 = .ok (.putfield 186, 3) := by decide +kernel
theorem d_ST_cutOneOf_89 : decode b_ST_cutOneOf 89 = .ok (.aload_n 0, 1) := by decide +kernel
theorem d_ST_cutOneOf_90 : decode b_ST_cutOneOf 90 = .ok (.dup, 1) := by decide +kernel
theorem d_ST_cutOneOf_91 : decode b_ST_cutOneOf 91 = .ok (.getfield 41, 3) := by decide +kernel
theorem d_ST_cutOneOf_94 : decode b_ST_cutOneOf 94 = .ok (.iconst 1, 1) := by decide +kernel
theorem d_ST_cutOneOf_95 : decode b_ST_cutOneOf 95 = .ok (.iadd, 1) := by decide +kernel
theorem d_ST_cutOneOf_96 : decode b_ST_cutOneOf 96 = .ok (.putfield 41, 3) := by decide +kernel
theorem d_ST_cutOneOf_99 : decode b_ST_cutOneOf 99 = .ok (.return_, 1) := by decide +kernel
theorem d_ST_takePieces_0 : decode b_ST_takePieces 0 = .ok (.aload_n 1, 1) := by decide +kernel
theorem d_ST_takePieces_1 : decode b_ST_takePieces 1 = .ok (.aload_n 0, 1) := by decide +kernel
theorem d_ST_takePieces_2 : decode b_ST_takePieces 2 = .ok (.getfield 44, 3) := by decide +kernel
theorem d_ST_takePieces_5 : decode b_ST_takePieces 5 = .ok (.putfield 198, 3) := by decide +kernel
theorem d_ST_takePieces_8 : decode b_ST_takePieces 8 = .ok (.aload_n 1, 1) := by decide +kernel
theorem d_ST_takePieces_9 : decode b_ST_takePieces 9 = .ok (.aload_n 0, 1) := by decide +kernel
theorem d_ST_takePieces_10 : decode b_ST_takePieces 10 = .ok (.getfield 47, 3) := by decide +kernel
theorem d_ST_takePieces_13 : decode b_ST_takePieces 13 = .ok (.putfield 215, 3) := by decide +kernel
theorem d_ST_takePieces_16 : decode b_ST_takePieces 16 = .ok (.iconst 0, 1) := by decide +kernel
theorem d_ST_takePieces_17 : decode b_ST_takePieces 17 = .ok (.istore_n 2, 1) := by decide +kernel
theorem d_ST_takePieces_18 : decode b_ST_takePieces 18 = .ok (.iload_n 2, 1) := by decide +kernel
theorem d_ST_takePieces_19 : decode b_ST_takePieces 19 = .ok (.aload_n 0, 1) := by decide +kernel
theorem d_ST_takePieces_20 : decode b_ST_takePieces 20 = .ok (.getfield 78, 3) := by decide +kernel
theorem d_ST_takePieces_23 : decode b_ST_takePieces 23 = .ok (.getfield 269, 3) := by decide +kernel
theorem d_ST_takePieces_26 : decode b_ST_takePieces 26 = .ok (.if_icmp .ge 76, 3) := by decide +kernel
theorem d_ST_takePieces_29 : decode b_ST_takePieces 29 = .ok (.iload_n 2, 1) := by decide +kernel
theorem d_ST_takePieces_30 : decode b_ST_takePieces 30 = .ok (.aload_n 0, 1) := by decide +kernel
theorem d_ST_takePieces_31 : decode b_ST_takePieces 31 = .ok (.getfield 78, 3) := by decide +kernel
theorem d_ST_takePieces_34 : decode b_ST_takePieces 34 = .ok (.getfield 272, 3) := by decide +kernel
theorem d_ST_takePieces_37 : decode b_ST_takePieces 37 = .ok (.arraylength, 1) := by decide +kernel
theorem d_ST_takePieces_38 : decode b_ST_takePieces 38 = .ok (.if_icmp .ge 64, 3) := by decide +kernel
theorem d_ST_takePieces_41 : decode b_ST_takePieces 41 = .ok (.aload_n 0, 1) := by decide +kernel
theorem d_ST_takePieces_42 : decode b_ST_takePieces 42 = .ok (.getfield 78, 3) := by decide +kernel
theorem d_ST_takePieces_45 : decode b_ST_takePieces 45 = .ok (.getfield 272, 3) := by decide +kernel
theorem d_ST_takePieces_48 : decode b_ST_takePieces 48 = .ok (.iload_n 2, 1) := by decide +kernel
theorem d_ST_takePieces_49 : decode b_ST_takePieces 49 = .ok (.iaload, 1) := by decide +kernel
theorem d_ST_takePieces_50 : decode b_ST_takePieces 50 = .ok (.istore_n 3, 1) := by decide +kernel
theorem d_ST_takePieces_51 : decode b_ST_takePieces 51 = .ok (.iload_n 3, 1) := by decide +kernel
theorem d_ST_takePieces_52 : decode b_ST_takePieces 52 = .ok (.iconst 0, 1) := by decide +kernel
theorem d_ST_takePieces_53 : decode b_ST_takePieces 53 = .ok (.invokestatic 205, 3) := by decide +kernel
theorem d_ST_takePieces_56 : decode b_ST_takePieces 56 = .ok (.istore 4, 2) := by decide +kernel
theorem d_ST_takePieces_58 : decode b_ST_takePieces 58 = .ok (.iload 4, 2) := by decide +kernel
theorem d_ST_takePieces_60 : decode b_ST_takePieces 60 = .ok (.bipush 8, 2) := by decide +kernel
theorem d_ST_takePieces_62 : decode b_ST_takePieces 62 = .ok (.if_icmp .ne 11, 3) := by decide +kernel
theorem d_ST_takePieces_65 : decode b_ST_takePieces 65 = .ok (.aload_n 0, 1) := by decide +kernel
theorem d_ST_takePieces_66 : decode b_ST_takePieces 66 = .ok (.iload_n 3, 1) := by decide +kernel
theorem d_ST_takePieces_67 : decode b_ST_takePieces 67 = .ok (.invokevirtual 275, 3) := by decide +kernel
theorem d_ST_takePieces_70 : decode b_ST_takePieces 70 = .ok (.goto 26, 3) := by decide +kernel
theorem d_ST_takePieces_73 : decode b_ST_takePieces 73 = .ok (.iload 4, 2) := by decide +kernel
theorem d_ST_takePieces_75 : decode b_ST_takePieces 75 = .ok (.aload_n 0, 1) := by decide +kernel
theorem d_ST_takePieces_76 : decode b_ST_takePieces 76 = .ok (.getfield 17, 3) := by decide +kernel
theorem d_ST_takePieces_79 : decode b_ST_takePieces 79 = .ok (.arraylength, 1) := by decide +kernel
theorem d_ST_takePieces_80 : decode b_ST_takePieces 80 = .ok (.if_icmp .ge 16, 3) := by decide +kernel
theorem d_ST_takePieces_83 : decode b_ST_takePieces 83 = .ok (.aload_n 0, 1) := by decide +kernel
theorem d_ST_takePieces_84 : decode b_ST_takePieces 84 = .ok (.aload_n 1, 1) := by decide +kernel
theorem d_ST_takePieces_85 : decode b_ST_takePieces 85 = .ok (.aload_n 0, 1) := by decide +kernel
theorem d_ST_takePieces_86 : decode b_ST_takePieces 86 = .ok (.getfield 17, 3) := by decide +kernel
theorem d_ST_takePieces_89 : decode b_ST_takePieces 89 = .ok (.iload 4, 2) := by decide +kernel
theorem d_ST_takePieces_91 : decode b_ST_takePieces 91 = .ok (.aaload, 1) := by decide +kernel
theorem d_ST_takePieces_92 : decode b_ST_takePieces 92 = .ok (.iload_n 3, 1) := by decide +kernel
theorem d_ST_takePieces_93 : decode b_ST_takePieces 93 = .ok (.invokevirtual 278, 3) := by decide +kernel
theorem d_ST_takePieces_96 : decode b_ST_takePieces 96 = .ok (.iinc 2 1, 3) := by decide +kernel
theorem d_ST_takePieces_99 : decode b_ST_takePieces 99 = .ok (.goto (-81), 3) := by decide +kernel
theorem d_ST_takePieces_102 : decode b_ST_takePieces 102 = .ok (.aload_n 1, 1) := by decide +kernel
theorem d_ST_takePieces_103 : decode b_ST_takePieces 103 = .ok (.aload_n 0, 1) := by decide +kernel
theorem d_ST_takePieces_104 : decode b_ST_takePieces 104 = .ok (.getfield 44, 3) := by decide +kernel
theorem d_ST_takePieces_107 : decode b_ST_takePieces 107 = .ok (.aload_n 1, 1) := by decide +kernel
theorem d_ST_takePieces_108 : decode b_ST_takePieces 108 = .ok (.getfield 198, 3) := by decide +kernel
theorem d_ST_takePieces_111 : decode b_ST_takePieces 111 = .ok (.isub, 1) := by decide +kernel
theorem d_ST_takePieces_112 : decode b_ST_takePieces 112 = .ok (.putfield 172, 3) := by decide +kernel
theorem d_ST_takePieces_115 : decode b_ST_takePieces 115 = .ok (.aload_n 1, 1) := by decide +kernel
theorem d_ST_takePieces_116 : decode b_ST_takePieces 116 = .ok (.aload_n 0, 1) := by decide +kernel
theorem d_ST_takePieces_117 : decode b_ST_takePieces 117 = .ok (.getfield 47, 3) := by decide +kernel
theorem d_ST_takePieces_120 : decode b_ST_takePieces 120 = .ok (.aload_n 1, 1) := by decide +kernel
theorem d_ST_takePieces_121 : decode b_ST_takePieces 121 = .ok (.getfield 215, 3) := by decide +kernel
theorem d_ST_takePieces_124 : decode b_ST_takePieces 124 = .ok (.isub, 1) := by decide +kernel
theorem d_ST_takePieces_125 : decode b_ST_takePieces 125 = .ok (.putfield 185, 3) := by decide +kernel
theorem d_ST_takePieces_128 : decode b_ST_takePieces 128 = .ok (.return_, 1) := by decide +kernel
theorem d_ST_takePart_0 : decode b_ST_takePart 0 = .ok (.aload_n 2, 1) := by decide +kernel
theorem d_ST_takePart_1 : decode b_ST_takePart 1 = .ok (.getfield 221, 3) := by decide +kernel
theorem d_ST_takePart_4 : decode b_ST_takePart 4 = .ok (.ifCond .le 55, 3) := by decide +kernel
theorem d_ST_takePart_7 : decode b_ST_takePart 7 = .ok (.aload_n 0, 1) := by decide +kernel
theorem d_ST_takePart_8 : decode b_ST_takePart 8 = .ok (.getfield 44, 3) := by decide +kernel
theorem d_ST_takePart_11 : decode b_ST_takePart 11 = .ok (.aload_n 0, 1) := by decide +kernel
theorem d_ST_takePart_12 : decode b_ST_takePart 12 = .ok (.getfield 27, 3) := by decide +kernel
theorem d_ST_takePart_15 : decode b_ST_takePart 15 = .ok (.arraylength, 1) := by decide +kernel
theorem d_ST_takePart_16 : decode b_ST_takePart 16 = .ok (.if_icmp .ge 43, 3) := by decide +kernel
theorem d_ST_takePart_19 : decode b_ST_takePart 19 = .ok (.aload_n 2, 1) := by decide +kernel
theorem d_ST_takePart_20 : decode b_ST_takePart 20 = .ok (.dup, 1) := by decide +kernel
theorem d_ST_takePart_21 : decode b_ST_takePart 21 = .ok (.getfield 221, 3) := by decide +kernel
theorem d_ST_takePart_24 : decode b_ST_takePart 24 = .ok (.iconst 1, 1) := by decide +kernel
theorem d_ST_takePart_25 : decode b_ST_takePart 25 = .ok (.isub, 1) := by decide +kernel
theorem d_ST_takePart_26 : decode b_ST_takePart 26 = .ok (.putfield 221, 3) := by decide +kernel
theorem d_ST_takePart_29 : decode b_ST_takePart 29 = .ok (.aload_n 1, 1) := by decide +kernel
theorem d_ST_takePart_30 : decode b_ST_takePart 30 = .ok (.dup, 1) := by decide +kernel
theorem d_ST_takePart_31 : decode b_ST_takePart 31 = .ok (.getfield 173, 3) := by decide +kernel
theorem d_ST_takePart_34 : decode b_ST_takePart 34 = .ok (.aload_n 2, 1) := by decide +kernel
theorem d_ST_takePart_35 : decode b_ST_takePart 35 = .ok (.invokevirtual 237, 3) := by decide +kernel
theorem d_ST_takePart_38 : decode b_ST_takePart 38 = .ok (.iadd, 1) := by decide +kernel
theorem d_ST_takePart_39 : decode b_ST_takePart 39 = .ok (.putfield 173, 3) := by decide +kernel
theorem d_ST_takePart_42 : decode b_ST_takePart 42 = .ok (.aload_n 0, 1) := by decide +kernel
theorem d_ST_takePart_43 : decode b_ST_takePart 43 = .ok (.getfield 27, 3) := by decide +kernel
theorem d_ST_takePart_46 : decode b_ST_takePart 46 = .ok (.aload_n 0, 1) := by decide +kernel
theorem d_ST_takePart_47 : decode b_ST_takePart 47 = .ok (.dup, 1) := by decide +kernel
theorem d_ST_takePart_48 : decode b_ST_takePart 48 = .ok (.getfield 44, 3) := by decide +kernel
theorem d_ST_takePart_51 : decode b_ST_takePart 51 = .ok (.dup_x1, 1) := by decide +kernel
theorem d_ST_takePart_52 : decode b_ST_takePart 52 = .ok (.iconst 1, 1) := by decide +kernel
theorem d_ST_takePart_53 : decode b_ST_takePart 53 = .ok (.iadd, 1) := by decide +kernel
theorem d_ST_takePart_54 : decode b_ST_takePart 54 = .ok (.putfield 44, 3) := by decide +kernel
theorem d_ST_takePart_57 : decode b_ST_takePart 57 = .ok (.iload_n 3, 1) := by decide +kernel
theorem d_ST_takePart_58 : decode b_ST_takePart 58 = .ok (.iastore, 1) := by decide +kernel
theorem d_ST_takePart_59 : decode b_ST_takePart 59 = .ok (.return_, 1) := by decide +kernel
theorem d_ST_keepRest_0 : decode b_ST_keepRest 0 = .ok (.iload_n 1, 1) := by decide +kernel
theorem d_ST_keepRest_1 : decode b_ST_keepRest 1 = .ok (.aload_n 0, 1) := by decide +kernel
theorem d_ST_keepRest_2 : decode b_ST_keepRest 2 = .ok (.getfield 61, 3) := by decide +kernel
theorem d_ST_keepRest_5 : decode b_ST_keepRest 5 = .ok (.invokestatic 282, 3) := by decide +kernel
theorem d_ST_keepRest_8 : decode b_ST_keepRest 8 = .ok (.ifCond .eq 32, 3) := by decide +kernel
theorem d_ST_keepRest_11 : decode b_ST_keepRest 11 = .ok (.aload_n 0, 1) := by decide +kernel
theorem d_ST_keepRest_12 : decode b_ST_keepRest 12 = .ok (.getfield 47, 3) := by decide +kernel
theorem d_ST_keepRest_15 : decode b_ST_keepRest 15 = .ok (.aload_n 0, 1) := by decide +kernel
theorem d_ST_keepRest_16 : decode b_ST_keepRest 16 = .ok (.getfield 31, 3) := by decide +kernel
theorem d_ST_keepRest_19 : decode b_ST_keepRest 19 = .ok (.arraylength, 1) := by decide +kernel
theorem d_ST_keepRest_20 : decode b_ST_keepRest 20 = .ok (.if_icmp .ge 20, 3) := by decide +kernel
theorem d_ST_keepRest_23 : decode b_ST_keepRest 23 = .ok (.aload_n 0, 1) := by decide +kernel
theorem d_ST_keepRest_24 : decode b_ST_keepRest 24 = .ok (.getfield 31, 3) := by decide +kernel
theorem d_ST_keepRest_27 : decode b_ST_keepRest 27 = .ok (.aload_n 0, 1) := by decide +kernel
theorem d_ST_keepRest_28 : decode b_ST_keepRest 28 = .ok (.dup, 1) := by decide +kernel
theorem d_ST_keepRest_29 : decode b_ST_keepRest 29 = .ok (.getfield 47, 3) := by decide +kernel
theorem d_ST_keepRest_32 : decode b_ST_keepRest 32 = .ok (.dup_x1, 1) := by decide +kernel
theorem d_ST_keepRest_33 : decode b_ST_keepRest 33 = .ok (.iconst 1, 1) := by decide +kernel
theorem d_ST_keepRest_34 : decode b_ST_keepRest 34 = .ok (.iadd, 1) := by decide +kernel
theorem d_ST_keepRest_35 : decode b_ST_keepRest 35 = .ok (.putfield 47, 3) := by decide +kernel
theorem d_ST_keepRest_38 : decode b_ST_keepRest 38 = .ok (.iload_n 1, 1) := by decide +kernel
theorem d_ST_keepRest_39 : decode b_ST_keepRest 39 = .ok (.iastore, 1) := by decide +kernel
theorem d_ST_keepRest_40 : decode b_ST_keepRest 40 = .ok (.return_, 1) := by decide +kernel
theorem d_ST_firstAlike_0 : decode b_ST_firstAlike 0 = .ok (.aload_n 0, 1) := by decide +kernel
theorem d_ST_firstAlike_1 : decode b_ST_firstAlike 1 = .ok (.getfield 69, 3) := by decide +kernel
theorem d_ST_firstAlike_4 : decode b_ST_firstAlike 4 = .ok (.getfield 286, 3) := by decide +kernel
theorem d_ST_firstAlike_7 : decode b_ST_firstAlike 7 = .ok (.istore_n 2, 1) := by decide +kernel
theorem d_ST_firstAlike_8 : decode b_ST_firstAlike 8 = .ok (.iconst 0, 1) := by decide +kernel
theorem d_ST_firstAlike_9 : decode b_ST_firstAlike 9 = .ok (.istore_n 3, 1) := by decide +kernel
theorem d_ST_firstAlike_10 : decode b_ST_firstAlike 10 = .ok (.iload_n 3, 1) := by decide +kernel
theorem d_ST_firstAlike_11 : decode b_ST_firstAlike 11 = .ok (.aload_n 0, 1) := by decide +kernel
theorem d_ST_firstAlike_12 : decode b_ST_firstAlike 12 = .ok (.getfield 41, 3) := by decide +kernel
theorem d_ST_firstAlike_15 : decode b_ST_firstAlike 15 = .ok (.if_icmp .ge 52, 3) := by decide +kernel
theorem d_ST_firstAlike_18 : decode b_ST_firstAlike 18 = .ok (.iload_n 3, 1) := by decide +kernel
theorem d_ST_firstAlike_19 : decode b_ST_firstAlike 19 = .ok (.aload_n 0, 1) := by decide +kernel
theorem d_ST_firstAlike_20 : decode b_ST_firstAlike 20 = .ok (.getfield 23, 3) := by decide +kernel
theorem d_ST_firstAlike_23 : decode b_ST_firstAlike 23 = .ok (.arraylength, 1) := by decide +kernel
theorem d_ST_firstAlike_24 : decode b_ST_firstAlike 24 = .ok (.if_icmp .ge 43, 3) := by decide +kernel
theorem d_ST_firstAlike_27 : decode b_ST_firstAlike 27 = .ok (.aload_n 0, 1) := by decide +kernel
theorem d_ST_firstAlike_28 : decode b_ST_firstAlike 28 = .ok (.getfield 23, 3) := by decide +kernel
theorem d_ST_firstAlike_31 : decode b_ST_firstAlike 31 = .ok (.iload_n 3, 1) := by decide +kernel
theorem d_ST_firstAlike_32 : decode b_ST_firstAlike 32 = .ok (.aaload, 1) := by decide +kernel
theorem d_ST_firstAlike_33 : decode b_ST_firstAlike 33 = .ok (.astore 4, 2) := by decide +kernel
theorem d_ST_firstAlike_35 : decode b_ST_firstAlike 35 = .ok (.aload 4, 2) := by decide +kernel
theorem d_ST_firstAlike_37 : decode b_ST_firstAlike 37 = .ok (.getfield 169, 3) := by decide +kernel
theorem d_ST_firstAlike_40 : decode b_ST_firstAlike 40 = .ok (.aload_n 1, 1) := by decide +kernel
theorem d_ST_firstAlike_41 : decode b_ST_firstAlike 41 = .ok (.getfield 169, 3) := by decide +kernel
theorem d_ST_firstAlike_44 : decode b_ST_firstAlike 44 = .ok (.if_icmp .ne 17, 3) := by decide +kernel
theorem d_ST_firstAlike_47 : decode b_ST_firstAlike 47 = .ok (.aload 4, 2) := by decide +kernel
theorem d_ST_firstAlike_49 : decode b_ST_firstAlike 49 = .ok (.getfield 289, 3) := by decide +kernel
theorem d_ST_firstAlike_52 : decode b_ST_firstAlike 52 = .ok (.iload_n 2, 1) := by decide +kernel
theorem d_ST_firstAlike_53 : decode b_ST_firstAlike 53 = .ok (.iconst (-1), 1) := by decide +kernel
theorem d_ST_firstAlike_54 : decode b_ST_firstAlike 54 = .ok (.ixor, 1) := by decide +kernel
theorem d_ST_firstAlike_55 : decode b_ST_firstAlike 55 = .ok (.iand, 1) := by decide +kernel
theorem d_ST_firstAlike_56 : decode b_ST_firstAlike 56 = .ok (.ifCond .ne 5, 3) := by decide +kernel
theorem d_ST_firstAlike_59 : decode b_ST_firstAlike 59 = .ok (.iload_n 3, 1) := by decide +kernel
theorem d_ST_firstAlike_60 : decode b_ST_firstAlike 60 = .ok (.ireturn, 1) := by decide +kernel
theorem d_ST_firstAlike_61 : decode b_ST_firstAlike 61 = .ok (.iinc 3 1, 3) := by decide +kernel
theorem d_ST_firstAlike_64 : decode b_ST_firstAlike 64 = .ok (.goto (-54), 3) := by decide +kernel
theorem d_ST_firstAlike_67 : decode b_ST_firstAlike 67 = .ok (.aload_n 0, 1) := by decide +kernel
theorem d_ST_firstAlike_68 : decode b_ST_firstAlike 68 = .ok (.getfield 41, 3) := by decide +kernel
theorem d_ST_firstAlike_71 : decode b_ST_firstAlike 71 = .ok (.ireturn, 1) := by decide +kernel
theorem d_LY_init_0 : decode b_LY_init 0 = .ok (.aload_n 0, 1) := by decide +kernel
theorem d_LY_init_1 : decode b_LY_init 1 = .ok (.invokespecial 3, 3) := by decide +kernel
theorem d_LY_init_4 : decode b_LY_init 4 = .ok (.aload_n 0, 1) := by decide +kernel
theorem d_LY_init_5 : decode b_LY_init 5 = .ok (.sipush 256, 3) := by decide +kernel
theorem d_LY_init_8 : decode b_LY_init 8 = .ok (.newarray .int, 2) := by decide +kernel
theorem d_LY_init_10 : decode b_LY_init 10 = .ok (.putfield 9, 3) := by decide +kernel
theorem d_LY_init_13 : decode b_LY_init 13 = .ok (.aload_n 0, 1) := by decide +kernel
theorem d_LY_init_14 : decode b_LY_init 14 = .ok (.bipush 8, 2) := by decide +kernel
theorem d_LY_init_16 : decode b_LY_init 16 = .ok (.newarray .int, 2) := by decide +kernel
theorem d_LY_init_18 : decode b_LY_init 18 = .ok (.putfield 15, 3) := by decide +kernel
theorem d_LY_init_21 : decode b_LY_init 21 = .ok (.aload_n 0, 1) := by decide +kernel
theorem d_LY_init_22 : decode b_LY_init 22 = .ok (.iconst 0, 1) := by decide +kernel
theorem d_LY_init_23 : decode b_LY_init 23 = .ok (.putfield 18, 3) := by decide +kernel
theorem d_LY_init_26 : decode b_LY_init 26 = .ok (.aload_n 0, 1) := by decide +kernel
theorem d_LY_init_27 : decode b_LY_init 27 = .ok (.iconst 0, 1) := by decide +kernel
theorem d_LY_init_28 : decode b_LY_init 28 = .ok (.putfield 22, 3) := by decide +kernel
theorem d_LY_init_31 : decode b_LY_init 31 = .ok (.aload_n 0, 1) := by decide +kernel
theorem d_LY_init_32 : decode b_LY_init 32 = .ok (.iconst 0, 1) := by decide +kernel
theorem d_LY_init_33 : decode b_LY_init 33 = .ok (.putfield 25, 3) := by decide +kernel
theorem d_LY_init_36 : decode b_LY_init 36 = .ok (.aload_n 0, 1) := by decide +kernel
theorem d_LY_init_37 : decode b_LY_init 37 = .ok (.iconst 0, 1) := by decide +kernel
theorem d_LY_init_38 : decode b_LY_init 38 = .ok (.putfield 28, 3) := by decide +kernel
theorem d_LY_init_41 : decode b_LY_init 41 = .ok (.aload_n 0, 1) := by decide +kernel
theorem d_LY_init_42 : decode b_LY_init 42 = .ok (.aload_n 1, 1) := by decide +kernel
theorem d_LY_init_43 : decode b_LY_init 43 = .ok (.putfield 31, 3) := by decide +kernel
theorem d_LY_init_46 : decode b_LY_init 46 = .ok (.return_, 1) := by decide +kernel
theorem d_LY_lay_0 : decode b_LY_lay 0 = .ok (.aload_n 0, 1) := by decide +kernel
theorem d_LY_lay_1 : decode b_LY_lay 1 = .ok (.iconst 0, 1) := by decide +kernel
theorem d_LY_lay_2 : decode b_LY_lay 2 = .ok (.putfield 18, 3) := by decide +kernel
theorem d_LY_lay_5 : decode b_LY_lay 5 = .ok (.aload_n 0, 1) := by decide +kernel
theorem d_LY_lay_6 : decode b_LY_lay 6 = .ok (.iconst 0, 1) := by decide +kernel
theorem d_LY_lay_7 : decode b_LY_lay 7 = .ok (.putfield 25, 3) := by decide +kernel
theorem d_LY_lay_10 : decode b_LY_lay 10 = .ok (.aload_n 0, 1) := by decide +kernel
theorem d_LY_lay_11 : decode b_LY_lay 11 = .ok (.iconst 0, 1) := by decide +kernel
theorem d_LY_lay_12 : decode b_LY_lay 12 = .ok (.putfield 28, 3) := by decide +kernel
theorem d_LY_lay_15 : decode b_LY_lay 15 = .ok (.aload_n 0, 1) := by decide +kernel
theorem d_LY_lay_16 : decode b_LY_lay 16 = .ok (.getfield 15, 3) := by decide +kernel
theorem d_LY_lay_19 : decode b_LY_lay 19 = .ok (.iconst 0, 1) := by decide +kernel
theorem d_LY_lay_20 : decode b_LY_lay 20 = .ok (.invokestatic 35, 3) := by decide +kernel
theorem d_LY_lay_23 : decode b_LY_lay 23 = .ok (.aload_n 0, 1) := by decide +kernel
theorem d_LY_lay_24 : decode b_LY_lay 24 = .ok (.getfield 31, 3) := by decide +kernel
theorem d_LY_lay_27 : decode b_LY_lay 27 = .ok (.iload_n 2, 1) := by decide +kernel
theorem d_LY_lay_28 : decode b_LY_lay 28 = .ok (.iconst 0, 1) := by decide +kernel
theorem d_LY_lay_29 : decode b_LY_lay 29 = .ok (.aload_n 1, 1) := by decide +kernel
theorem d_LY_lay_30 : decode b_LY_lay 30 = .ok (.getfield 41, 3) := by decide +kernel
theorem d_LY_lay_33 : decode b_LY_lay 33 = .ok (.aload_n 1, 1) := by decide +kernel
theorem d_LY_lay_34 : decode b_LY_lay 34 = .ok (.getfield 46, 3) := by decide +kernel
theorem d_LY_lay_37 : decode b_LY_lay 37 = .ok (.invokevirtual 49, 3) := by decide +kernel
theorem d_LY_lay_40 : decode b_LY_lay 40 = .ok (.istore_n 3, 1) := by decide +kernel
theorem d_LY_lay_41 : decode b_LY_lay 41 = .ok (.aload_n 0, 1) := by decide +kernel
theorem d_LY_lay_42 : decode b_LY_lay 42 = .ok (.getfield 31, 3) := by decide +kernel
theorem d_LY_lay_45 : decode b_LY_lay 45 = .ok (.iload_n 2, 1) := by decide +kernel
theorem d_LY_lay_46 : decode b_LY_lay 46 = .ok (.iconst 1, 1) := by decide +kernel
theorem d_LY_lay_47 : decode b_LY_lay 47 = .ok (.aload_n 1, 1) := by decide +kernel
theorem d_LY_lay_48 : decode b_LY_lay 48 = .ok (.getfield 41, 3) := by decide +kernel
theorem d_LY_lay_51 : decode b_LY_lay 51 = .ok (.aload_n 1, 1) := by decide +kernel
theorem d_LY_lay_52 : decode b_LY_lay 52 = .ok (.getfield 46, 3) := by decide +kernel
theorem d_LY_lay_55 : decode b_LY_lay 55 = .ok (.invokevirtual 49, 3) := by decide +kernel
theorem d_LY_lay_58 : decode b_LY_lay 58 = .ok (.istore 4, 2) := by decide +kernel
theorem d_LY_lay_60 : decode b_LY_lay 60 = .ok (.aload_n 0, 1) := by decide +kernel
theorem d_LY_lay_61 : decode b_LY_lay 61 = .ok (.iload 4, 2) := by decide +kernel
theorem d_LY_lay_63 : decode b_LY_lay 63 = .ok (.iload_n 3, 1) := by decide +kernel
theorem d_LY_lay_64 : decode b_LY_lay 64 = .ok (.if_icmp .le 7, 3) := by decide +kernel
theorem d_LY_lay_67 : decode b_LY_lay 67 = .ok (.iconst 1, 1) := by decide +kernel
theorem d_LY_lay_68 : decode b_LY_lay 68 = .ok (.goto 4, 3) := by decide +kernel
theorem d_LY_lay_71 : decode b_LY_lay 71 = .ok (.iconst 0, 1) := by decide +kernel
theorem d_LY_lay_72 : decode b_LY_lay 72 = .ok (.putfield 22, 3) := by decide +kernel
theorem d_LY_lay_75 : decode b_LY_lay 75 = .ok (.aload_n 0, 1) := by decide +kernel
theorem d_LY_lay_76 : decode b_LY_lay 76 = .ok (.iconst 0, 1) := by decide +kernel
theorem d_LY_lay_77 : decode b_LY_lay 77 = .ok (.iconst 0, 1) := by decide +kernel
theorem d_LY_lay_78 : decode b_LY_lay 78 = .ok (.aload_n 1, 1) := by decide +kernel
theorem d_LY_lay_79 : decode b_LY_lay 79 = .ok (.getfield 41, 3) := by decide +kernel
theorem d_LY_lay_82 : decode b_LY_lay 82 = .ok (.aload_n 1, 1) := by decide +kernel
theorem d_LY_lay_83 : decode b_LY_lay 83 = .ok (.getfield 46, 3) := by decide +kernel
theorem d_LY_lay_86 : decode b_LY_lay 86 = .ok (.aload_n 0, 1) := by decide +kernel
theorem d_LY_lay_87 : decode b_LY_lay 87 = .ok (.getfield 22, 3) := by decide +kernel
theorem d_LY_lay_90 : decode b_LY_lay 90 = .ok (.iload_n 2, 1) := by decide +kernel
theorem d_LY_lay_91 : decode b_LY_lay 91 = .ok (.invokevirtual 55, 3) := by decide +kernel
theorem d_LY_lay_94 : decode b_LY_lay 94 = .ok (.return_, 1) := by decide +kernel
theorem d_LY_layTree_0 : decode b_LY_layTree 0 = .ok (.iload 5, 2) := by decide +kernel
theorem d_LY_layTree_2 : decode b_LY_layTree 2 = .ok (.ifCond .ne 7, 3) := by decide +kernel
theorem d_LY_layTree_5 : decode b_LY_layTree 5 = .ok (.iload_n 3, 1) := by decide +kernel
theorem d_LY_layTree_6 : decode b_LY_layTree 6 = .ok (.goto 5, 3) := by decide +kernel
theorem d_LY_layTree_9 : decode b_LY_layTree 9 = .ok (.iload 4, 2) := by decide +kernel
theorem d_LY_layTree_11 : decode b_LY_layTree 11 = .ok (.istore 7, 2) := by decide +kernel
theorem d_LY_layTree_13 : decode b_LY_layTree 13 = .ok (.iload 5, 2) := by decide +kernel
theorem d_LY_layTree_15 : decode b_LY_layTree 15 = .ok (.ifCond .ne 8, 3) := by decide +kernel
theorem d_LY_layTree_18 : decode b_LY_layTree 18 = .ok (.iload 4, 2) := by decide +kernel
theorem d_LY_layTree_20 : decode b_LY_layTree 20 = .ok (.goto 4, 3) := by decide +kernel
theorem d_LY_layTree_23 : decode b_LY_layTree 23 = .ok (.iload_n 3, 1) := by decide +kernel
theorem d_LY_layTree_24 : decode b_LY_layTree 24 = .ok (.istore 8, 2) := by decide +kernel
theorem d_LY_layTree_26 : decode b_LY_layTree 26 = .ok (.iconst 0, 1) := by decide +kernel
theorem d_LY_layTree_27 : decode b_LY_layTree 27 = .ok (.istore 9, 2) := by decide +kernel
theorem d_LY_layTree_29 : decode b_LY_layTree 29 = .ok (.iconst 0, 1) := by decide +kernel
theorem d_LY_layTree_30 : decode b_LY_layTree 30 = .ok (.istore 10, 2) := by decide +kernel
theorem d_LY_layTree_32 : decode b_LY_layTree 32 = .ok (.iload 10, 2) := by decide +kernel
theorem d_LY_layTree_34 : decode b_LY_layTree 34 = .ok (.bipush 16, 2) := by decide +kernel
theorem d_LY_layTree_36 : decode b_LY_layTree 36 = .ok (.if_icmp .ge 214, 3) := by decide +kernel
theorem d_LY_layTree_39 : decode b_LY_layTree 39 = .ok (.iload 9, 2) := by decide +kernel
theorem d_LY_layTree_41 : decode b_LY_layTree 41 = .ok (.iload 7, 2) := by decide +kernel
theorem d_LY_layTree_43 : decode b_LY_layTree 43 = .ok (.if_icmp .ge 207, 3) := by decide +kernel
theorem d_LY_layTree_46 : decode b_LY_layTree 46 = .ok (.iload 5, 2) := by decide +kernel
theorem d_LY_layTree_48 : decode b_LY_layTree 48 = .ok (.ifCond .ne 10, 3) := by decide +kernel
theorem d_LY_layTree_51 : decode b_LY_layTree 51 = .ok (.iload_n 1, 1) := by decide +kernel
theorem d_LY_layTree_52 : decode b_LY_layTree 52 = .ok (.iload 9, 2) := by decide +kernel
theorem d_LY_layTree_54 : decode b_LY_layTree 54 = .ok (.iadd, 1) := by decide +kernel
theorem d_LY_layTree_55 : decode b_LY_layTree 55 = .ok (.goto 4, 3) := by decide +kernel
theorem d_LY_layTree_58 : decode b_LY_layTree 58 = .ok (.iload_n 1, 1) := by decide +kernel
theorem d_LY_layTree_59 : decode b_LY_layTree 59 = .ok (.istore 11, 2) := by decide +kernel
theorem d_LY_layTree_61 : decode b_LY_layTree 61 = .ok (.iload 5, 2) := by decide +kernel
theorem d_LY_layTree_63 : decode b_LY_layTree 63 = .ok (.ifCond .ne 7, 3) := by decide +kernel
theorem d_LY_layTree_66 : decode b_LY_layTree 66 = .ok (.iload_n 2, 1) := by decide +kernel
theorem d_LY_layTree_67 : decode b_LY_layTree 67 = .ok (.goto 7, 3) := by decide +kernel
theorem d_LY_layTree_70 : decode b_LY_layTree 70 = .ok (.iload_n 2, 1) := by decide +kernel
theorem d_LY_layTree_71 : decode b_LY_layTree 71 = .ok (.iload 9, 2) := by decide +kernel
theorem d_LY_layTree_73 : decode b_LY_layTree 73 = .ok (.iadd, 1) := by decide +kernel
theorem d_LY_layTree_74 : decode b_LY_layTree 74 = .ok (.istore 12, 2) := by decide +kernel
theorem d_LY_layTree_76 : decode b_LY_layTree 76 = .ok (.iload 5, 2) := by decide +kernel
theorem d_LY_layTree_78 : decode b_LY_layTree 78 = .ok (.ifCond .ne 11, 3) := by decide +kernel
theorem d_LY_layTree_81 : decode b_LY_layTree 81 = .ok (.iload 7, 2) := by decide +kernel
theorem d_LY_layTree_83 : decode b_LY_layTree 83 = .ok (.iload 9, 2) := by decide +kernel
theorem d_LY_layTree_85 : decode b_LY_layTree 85 = .ok (.isub, 1) := by decide +kernel
theorem d_LY_layTree_86 : decode b_LY_layTree 86 = .ok (.goto 4, 3) := by decide +kernel
theorem d_LY_layTree_89 : decode b_LY_layTree 89 = .ok (.iload_n 3, 1) := by decide +kernel
theorem d_LY_layTree_90 : decode b_LY_layTree 90 = .ok (.istore 13, 2) := by decide +kernel
theorem d_LY_layTree_92 : decode b_LY_layTree 92 = .ok (.iload 5, 2) := by decide +kernel
theorem d_LY_layTree_94 : decode b_LY_layTree 94 = .ok (.ifCond .ne 8, 3) := by decide +kernel
theorem d_LY_layTree_97 : decode b_LY_layTree 97 = .ok (.iload 4, 2) := by decide +kernel
theorem d_LY_layTree_99 : decode b_LY_layTree 99 = .ok (.goto 8, 3) := by decide +kernel
theorem d_LY_layTree_102 : decode b_LY_layTree 102 = .ok (.iload 7, 2) := by decide +kernel
theorem d_LY_layTree_104 : decode b_LY_layTree 104 = .ok (.iload 9, 2) := by decide +kernel
theorem d_LY_layTree_106 : decode b_LY_layTree 106 = .ok (.isub, 1) := by decide +kernel
theorem d_LY_layTree_107 : decode b_LY_layTree 107 = .ok (.istore 14, 2) := by decide +kernel
theorem d_LY_layTree_109 : decode b_LY_layTree 109 = .ok (.aload_n 0, 1) := by decide +kernel
theorem d_LY_layTree_110 : decode b_LY_layTree 110 = .ok (.getfield 31, 3) := by decide +kernel
theorem d_LY_layTree_113 : decode b_LY_layTree 113 = .ok (.iload 6, 2) := by decide +kernel
theorem d_LY_layTree_115 : decode b_LY_layTree 115 = .ok (.iload 5, 2) := by decide +kernel
theorem d_LY_layTree_117 : decode b_LY_layTree 117 = .ok (.iload 13, 2) := by decide +kernel
theorem d_LY_layTree_119 : decode b_LY_layTree 119 = .ok (.iload 14, 2) := by decide +kernel
theorem d_LY_layTree_121 : decode b_LY_layTree 121 = .ok (.invokevirtual 59, 3) := by decide +kernel
theorem d_LY_layTree_124 : decode b_LY_layTree 124 = .ok (.istore 15, 2) := by decide +kernel
theorem d_LY_layTree_126 : decode b_LY_layTree 126 = .ok (.iload 15, 2) := by decide +kernel
theorem d_LY_layTree_128 : decode b_LY_layTree 128 = .ok (.bipush 8, 2) := by decide +kernel
theorem d_LY_layTree_130 : decode b_LY_layTree 130 = .ok (.if_icmp .le 9, 3) := by decide +kernel
theorem d_LY_layTree_133 : decode b_LY_layTree 133 = .ok (.iload 6, 2) := by decide +kernel
theorem d_LY_layTree_135 : decode b_LY_layTree 135 = .ok (.iconst 1, 1) := by decide +kernel
theorem d_LY_layTree_136 : decode b_LY_layTree 136 = .ok (.if_icmp .ge 23, 3) := by decide +kernel
theorem d_LY_layTree_139 : decode b_LY_layTree 139 = .ok (.aload_n 0, 1) := by decide +kernel
theorem d_LY_layTree_140 : decode b_LY_layTree 140 = .ok (.iload 15, 2) := by decide +kernel
theorem d_LY_layTree_142 : decode b_LY_layTree 142 = .ok (.iload 15, 2) := by decide +kernel
theorem d_LY_layTree_144 : decode b_LY_layTree 144 = .ok (.iload 11, 2) := by decide +kernel
theorem d_LY_layTree_146 : decode b_LY_layTree 146 = .ok (.iload 12, 2) := by decide +kernel
theorem d_LY_layTree_148 : decode b_LY_layTree 148 = .ok (.iload 13, 2) := by decide +kernel
theorem d_LY_layTree_150 : decode b_LY_layTree 150 = .ok (.iload 14, 2) := by decide +kernel
theorem d_LY_layTree_152 : decode b_LY_layTree 152 = .ok (.invokestatic 62, 3) := by decide +kernel
theorem d_LY_layTree_155 : decode b_LY_layTree 155 = .ok (.invokevirtual 68, 3) := by decide +kernel
theorem d_LY_layTree_158 : decode b_LY_layTree 158 = .ok (.return_, 1) := by decide +kernel
theorem d_LY_layTree_159 : decode b_LY_layTree 159 = .ok (.iload 15, 2) := by decide +kernel
theorem d_LY_layTree_161 : decode b_LY_layTree 161 = .ok (.bipush 8, 2) := by decide +kernel
theorem d_LY_layTree_163 : decode b_LY_layTree 163 = .ok (.isub, 1) := by decide +kernel
theorem d_LY_layTree_164 : decode b_LY_layTree 164 = .ok (.istore 16, 2) := by decide +kernel
theorem d_LY_layTree_166 : decode b_LY_layTree 166 = .ok (.aload_n 0, 1) := by decide +kernel
theorem d_LY_layTree_167 : decode b_LY_layTree 167 = .ok (.dup, 1) := by decide +kernel
theorem d_LY_layTree_168 : decode b_LY_layTree 168 = .ok (.getfield 25, 3) := by decide +kernel
theorem d_LY_layTree_171 : decode b_LY_layTree 171 = .ok (.iconst 1, 1) := by decide +kernel
theorem d_LY_layTree_172 : decode b_LY_layTree 172 = .ok (.iadd, 1) := by decide +kernel
theorem d_LY_layTree_173 : decode b_LY_layTree 173 = .ok (.putfield 25, 3) := by decide +kernel
theorem d_LY_layTree_176 : decode b_LY_layTree 176 = .ok (.aload_n 0, 1) := by decide +kernel
theorem d_LY_layTree_177 : decode b_LY_layTree 177 = .ok (.dup, 1) := by decide +kernel
theorem d_LY_layTree_178 : decode b_LY_layTree 178 = .ok (.getfield 28, 3) := by decide +kernel
theorem d_LY_layTree_181 : decode b_LY_layTree 181 = .ok (.iload 8, 2) := by decide +kernel
theorem d_LY_layTree_183 : decode b_LY_layTree 183 = .ok (.iadd, 1) := by decide +kernel
theorem d_LY_layTree_184 : decode b_LY_layTree 184 = .ok (.putfield 28, 3) := by decide +kernel
theorem d_LY_layTree_187 : decode b_LY_layTree 187 = .ok (.iload 5, 2) := by decide +kernel
theorem d_LY_layTree_189 : decode b_LY_layTree 189 = .ok (.ifCond .ne 23, 3) := by decide +kernel
theorem d_LY_layTree_192 : decode b_LY_layTree 192 = .ok (.aload_n 0, 1) := by decide +kernel
theorem d_LY_layTree_193 : decode b_LY_layTree 193 = .ok (.iload 11, 2) := by decide +kernel
theorem d_LY_layTree_195 : decode b_LY_layTree 195 = .ok (.iload 12, 2) := by decide +kernel
theorem d_LY_layTree_197 : decode b_LY_layTree 197 = .ok (.iload 16, 2) := by decide +kernel
theorem d_LY_layTree_199 : decode b_LY_layTree 199 = .ok (.iload 14, 2) := by decide +kernel
theorem d_LY_layTree_201 : decode b_LY_layTree 201 = .ok (.iconst 1, 1) := by decide +kernel
theorem d_LY_layTree_202 : decode b_LY_layTree 202 = .ok (.iload 6, 2) := by decide +kernel
theorem d_LY_layTree_204 : decode b_LY_layTree 204 = .ok (.iconst 1, 1) := by decide +kernel
theorem d_LY_layTree_205 : decode b_LY_layTree 205 = .ok (.isub, 1) := by decide +kernel
theorem d_LY_layTree_206 : decode b_LY_layTree 206 = .ok (.invokevirtual 55, 3) := by decide +kernel
theorem d_LY_layTree_209 : decode b_LY_layTree 209 = .ok (.goto 20, 3) := by decide +kernel
theorem d_LY_layTree_212 : decode b_LY_layTree 212 = .ok (.aload_n 0, 1) := by decide +kernel
theorem d_LY_layTree_213 : decode b_LY_layTree 213 = .ok (.iload 11, 2) := by decide +kernel
theorem d_LY_layTree_215 : decode b_LY_layTree 215 = .ok (.iload 12, 2) := by decide +kernel
theorem d_LY_layTree_217 : decode b_LY_layTree 217 = .ok (.iload 13, 2) := by decide +kernel
theorem d_LY_layTree_219 : decode b_LY_layTree 219 = .ok (.iload 16, 2) := by decide +kernel
theorem d_LY_layTree_221 : decode b_LY_layTree 221 = .ok (.iconst 0, 1) := by decide +kernel
theorem d_LY_layTree_222 : decode b_LY_layTree 222 = .ok (.iload 6, 2) := by decide +kernel
theorem d_LY_layTree_224 : decode b_LY_layTree 224 = .ok (.iconst 1, 1) := by decide +kernel
theorem d_LY_layTree_225 : decode b_LY_layTree 225 = .ok (.isub, 1) := by decide +kernel
theorem d_LY_layTree_226 : decode b_LY_layTree 226 = .ok (.invokevirtual 55, 3) := by decide +kernel
theorem d_LY_layTree_229 : decode b_LY_layTree 229 = .ok (.iload 9, 2) := by decide +kernel
theorem d_LY_layTree_231 : decode b_LY_layTree 231 = .ok (.iload 16, 2) := by decide +kernel
theorem d_LY_layTree_233 : decode b_LY_layTree 233 = .ok (.aload_n 0, 1) := by decide +kernel
theorem d_LY_layTree_234 : decode b_LY_layTree 234 = .ok (.getfield 31, 3) := by decide +kernel
theorem d_LY_layTree_237 : decode b_LY_layTree 237 = .ok (.getfield 72, 3) := by decide +kernel
theorem d_LY_layTree_240 : decode b_LY_layTree 240 = .ok (.iadd, 1) := by decide +kernel
theorem d_LY_layTree_241 : decode b_LY_layTree 241 = .ok (.iadd, 1) := by decide +kernel
theorem d_LY_layTree_242 : decode b_LY_layTree 242 = .ok (.istore 9, 2) := by decide +kernel
theorem d_LY_layTree_244 : decode b_LY_layTree 244 = .ok (.iinc 10 1, 3) := by decide +kernel
theorem d_LY_layTree_247 : decode b_LY_layTree 247 = .ok (.goto (-215), 3) := by decide +kernel
theorem d_LY_layTree_250 : decode b_LY_layTree 250 = .ok (.return_, 1) := by decide +kernel
theorem d_LY_addPiece_0 : decode b_LY_addPiece 0 = .ok (.aload_n 0, 1) := by decide +kernel
theorem d_LY_addPiece_1 : decode b_LY_addPiece 1 = .ok (.getfield 18, 3) := by decide +kernel
theorem d_LY_addPiece_4 : decode b_LY_addPiece 4 = .ok (.aload_n 0, 1) := by decide +kernel
theorem d_LY_addPiece_5 : decode b_LY_addPiece 5 = .ok (.getfield 9, 3) := by decide +kernel
theorem d_LY_addPiece_8 : decode b_LY_addPiece 8 = .ok (.arraylength, 1) := by decide +kernel
theorem d_LY_addPiece_9 : decode b_LY_addPiece 9 = .ok (.if_icmp .ge 20, 3) := by decide +kernel
theorem d_LY_addPiece_12 : decode b_LY_addPiece 12 = .ok (.aload_n 0, 1) := by decide +kernel
theorem d_LY_addPiece_13 : decode b_LY_addPiece 13 = .ok (.getfield 9, 3) := by decide +kernel
theorem d_LY_addPiece_16 : decode b_LY_addPiece 16 = .ok (.aload_n 0, 1) := by decide +kernel
theorem d_LY_addPiece_17 : decode b_LY_addPiece 17 = .ok (.dup, 1) := by decide +kernel
theorem d_LY_addPiece_18 : decode b_LY_addPiece 18 = .ok (.getfield 18, 3) := by decide +kernel
theorem d_LY_addPiece_21 : decode b_LY_addPiece 21 = .ok (.dup_x1, 1) := by decide +kernel
theorem d_LY_addPiece_22 : decode b_LY_addPiece 22 = .ok (.iconst 1, 1) := by decide +kernel
theorem d_LY_addPiece_23 : decode b_LY_addPiece 23 = .ok (.iadd, 1) := by decide +kernel
theorem d_LY_addPiece_24 : decode b_LY_addPiece 24 = .ok (.putfield 18, 3) := by decide +kernel
theorem d_LY_addPiece_27 : decode b_LY_addPiece 27 = .ok (.iload_n 2, 1) := by decide +kernel
theorem d_LY_addPiece_28 : decode b_LY_addPiece 28 = .ok (.iastore, 1) := by decide +kernel
theorem d_LY_addPiece_29 : decode b_LY_addPiece 29 = .ok (.iload_n 1, 1) := by decide +kernel
theorem d_LY_addPiece_30 : decode b_LY_addPiece 30 = .ok (.ifCond .lt 22, 3) := by decide +kernel
theorem d_LY_addPiece_33 : decode b_LY_addPiece 33 = .ok (.iload_n 1, 1) := by decide +kernel
theorem d_LY_addPiece_34 : decode b_LY_addPiece 34 = .ok (.aload_n 0, 1) := by decide +kernel
theorem d_LY_addPiece_35 : decode b_LY_addPiece 35 = .ok (.getfield 15, 3) := by decide +kernel
theorem d_LY_addPiece_38 : decode b_LY_addPiece 38 = .ok (.arraylength, 1) := by decide +kernel
theorem d_LY_addPiece_39 : decode b_LY_addPiece 39 = .ok (.if_icmp .ge 13, 3) := by decide +kernel
theorem d_LY_addPiece_42 : decode b_LY_addPiece 42 = .ok (.aload_n 0, 1) := by decide +kernel
theorem d_LY_addPiece_43 : decode b_LY_addPiece 43 = .ok (.getfield 15, 3) := by decide +kernel
theorem d_LY_addPiece_46 : decode b_LY_addPiece 46 = .ok (.iload_n 1, 1) := by decide +kernel
theorem d_LY_addPiece_47 : decode b_LY_addPiece 47 = .ok (.dup2, 1) := by decide +kernel
theorem d_LY_addPiece_48 : decode b_LY_addPiece 48 = .ok (.iaload, 1) := by decide +kernel
theorem d_LY_addPiece_49 : decode b_LY_addPiece 49 = .ok (.iconst 1, 1) := by decide +kernel
theorem d_LY_addPiece_50 : decode b_LY_addPiece 50 = .ok (.iadd, 1) := by decide +kernel
theorem d_LY_addPiece_51 : decode b_LY_addPiece 51 = .ok (.iastore, 1) := by decide +kernel
theorem d_LY_addPiece_52 : decode b_LY_addPiece 52 = .ok (.return_, 1) := by decide +kernel
theorem d_LY_areaToTake_0 : decode b_LY_areaToTake 0 = .ok (.iconst 0, 1) := by decide +kernel
theorem d_LY_areaToTake_1 : decode b_LY_areaToTake 1 = .ok (.istore_n 2, 1) := by decide +kernel
theorem d_LY_areaToTake_2 : decode b_LY_areaToTake 2 = .ok (.iconst 0, 1) := by decide +kernel
theorem d_LY_areaToTake_3 : decode b_LY_areaToTake 3 = .ok (.istore_n 3, 1) := by decide +kernel
theorem d_LY_areaToTake_4 : decode b_LY_areaToTake 4 = .ok (.iload_n 3, 1) := by decide +kernel
theorem d_LY_areaToTake_5 : decode b_LY_areaToTake 5 = .ok (.aload_n 0, 1) := by decide +kernel
theorem d_LY_areaToTake_6 : decode b_LY_areaToTake 6 = .ok (.getfield 15, 3) := by decide +kernel
theorem d_LY_areaToTake_9 : decode b_LY_areaToTake 9 = .ok (.arraylength, 1) := by decide +kernel
theorem d_LY_areaToTake_10 : decode b_LY_areaToTake 10 = .ok (.if_icmp .ge 40, 3) := by decide +kernel
theorem d_LY_areaToTake_13 : decode b_LY_areaToTake 13 = .ok (.iload_n 3, 1) := by decide +kernel
theorem d_LY_areaToTake_14 : decode b_LY_areaToTake 14 = .ok (.aload_n 1, 1) := by decide +kernel
theorem d_LY_areaToTake_15 : decode b_LY_areaToTake 15 = .ok (.arraylength, 1) := by decide +kernel
theorem d_LY_areaToTake_16 : decode b_LY_areaToTake 16 = .ok (.if_icmp .ge 34, 3) := by decide +kernel
theorem d_LY_areaToTake_19 : decode b_LY_areaToTake 19 = .ok (.iload_n 2, 1) := by decide +kernel
theorem d_LY_areaToTake_20 : decode b_LY_areaToTake 20 = .ok (.aload_n 0, 1) := by decide +kernel
theorem d_LY_areaToTake_21 : decode b_LY_areaToTake 21 = .ok (.getfield 15, 3) := by decide +kernel
theorem d_LY_areaToTake_24 : decode b_LY_areaToTake 24 = .ok (.iload_n 3, 1) := by decide +kernel
theorem d_LY_areaToTake_25 : decode b_LY_areaToTake 25 = .ok (.iaload, 1) := by decide +kernel
theorem d_LY_areaToTake_26 : decode b_LY_areaToTake 26 = .ok (.aload_n 1, 1) := by decide +kernel
theorem d_LY_areaToTake_27 : decode b_LY_areaToTake 27 = .ok (.iload_n 3, 1) := by decide +kernel
theorem d_LY_areaToTake_28 : decode b_LY_areaToTake 28 = .ok (.aaload, 1) := by decide +kernel
theorem d_LY_areaToTake_29 : decode b_LY_areaToTake 29 = .ok (.getfield 75, 3) := by decide +kernel
theorem d_LY_areaToTake_32 : decode b_LY_areaToTake 32 = .ok (.invokestatic 80, 3) := by decide +kernel
theorem d_LY_areaToTake_35 : decode b_LY_areaToTake 35 = .ok (.aload_n 1, 1) := by decide +kernel
theorem d_LY_areaToTake_36 : decode b_LY_areaToTake 36 = .ok (.iload_n 3, 1) := by decide +kernel
theorem d_LY_areaToTake_37 : decode b_LY_areaToTake 37 = .ok (.aaload, 1) := by decide +kernel
theorem d_LY_areaToTake_38 : decode b_LY_areaToTake 38 = .ok (.invokevirtual 86, 3) := by decide +kernel
theorem d_LY_areaToTake_41 : decode b_LY_areaToTake 41 = .ok (.imul, 1) := by decide +kernel
theorem d_LY_areaToTake_42 : decode b_LY_areaToTake 42 = .ok (.iadd, 1) := by decide +kernel
theorem d_LY_areaToTake_43 : decode b_LY_areaToTake 43 = .ok (.istore_n 2, 1) := by decide +kernel
theorem d_LY_areaToTake_44 : decode b_LY_areaToTake 44 = .ok (.iinc 3 1, 3) := by decide +kernel
theorem d_LY_areaToTake_47 : decode b_LY_areaToTake 47 = .ok (.goto (-43), 3) := by decide +kernel
theorem d_LY_areaToTake_50 : decode b_LY_areaToTake 50 = .ok (.iload_n 2, 1) := by decide +kernel
theorem d_LY_areaToTake_51 : decode b_LY_areaToTake 51 = .ok (.ireturn, 1) := by decide +kernel
theorem d_LY_partsUsed_0 : decode b_LY_partsUsed 0 = .ok (.iconst 0, 1) := by decide +kernel
theorem d_LY_partsUsed_1 : decode b_LY_partsUsed 1 = .ok (.istore_n 1, 1) := by decide +kernel
theorem d_LY_partsUsed_2 : decode b_LY_partsUsed 2 = .ok (.iconst 0, 1) := by decide +kernel
theorem d_LY_partsUsed_3 : decode b_LY_partsUsed 3 = .ok (.istore_n 2, 1) := by decide +kernel
theorem d_LY_partsUsed_4 : decode b_LY_partsUsed 4 = .ok (.iload_n 2, 1) := by decide +kernel
theorem d_LY_partsUsed_5 : decode b_LY_partsUsed 5 = .ok (.aload_n 0, 1) := by decide +kernel
theorem d_LY_partsUsed_6 : decode b_LY_partsUsed 6 = .ok (.getfield 15, 3) := by decide +kernel
theorem d_LY_partsUsed_9 : decode b_LY_partsUsed 9 = .ok (.arraylength, 1) := by decide +kernel
theorem d_LY_partsUsed_10 : decode b_LY_partsUsed 10 = .ok (.if_icmp .ge 28, 3) := by decide +kernel
theorem d_LY_partsUsed_13 : decode b_LY_partsUsed 13 = .ok (.iload_n 1, 1) := by decide +kernel
theorem d_LY_partsUsed_14 : decode b_LY_partsUsed 14 = .ok (.aload_n 0, 1) := by decide +kernel
theorem d_LY_partsUsed_15 : decode b_LY_partsUsed 15 = .ok (.getfield 15, 3) := by decide +kernel
theorem d_LY_partsUsed_18 : decode b_LY_partsUsed 18 = .ok (.iload_n 2, 1) := by decide +kernel
theorem d_LY_partsUsed_19 : decode b_LY_partsUsed 19 = .ok (.iaload, 1) := by decide +kernel
theorem d_LY_partsUsed_20 : decode b_LY_partsUsed 20 = .ok (.ifCond .le 9, 3) := by decide +kernel
theorem d_LY_partsUsed_23 : decode b_LY_partsUsed 23 = .ok (.iconst 1, 1) := by decide +kernel
theorem d_LY_partsUsed_24 : decode b_LY_partsUsed 24 = .ok (.iload_n 2, 1) := by decide +kernel
theorem d_LY_partsUsed_25 : decode b_LY_partsUsed 25 = .ok (.ishl, 1) := by decide +kernel
theorem d_LY_partsUsed_26 : decode b_LY_partsUsed 26 = .ok (.goto 4, 3) := by decide +kernel
theorem d_LY_partsUsed_29 : decode b_LY_partsUsed 29 = .ok (.iconst 0, 1) := by decide +kernel
theorem d_LY_partsUsed_30 : decode b_LY_partsUsed 30 = .ok (.ior, 1) := by decide +kernel
theorem d_LY_partsUsed_31 : decode b_LY_partsUsed 31 = .ok (.istore_n 1, 1) := by decide +kernel
theorem d_LY_partsUsed_32 : decode b_LY_partsUsed 32 = .ok (.iinc 2 1, 3) := by decide +kernel
theorem d_LY_partsUsed_35 : decode b_LY_partsUsed 35 = .ok (.goto (-31), 3) := by decide +kernel
theorem d_LY_partsUsed_38 : decode b_LY_partsUsed 38 = .ok (.iload_n 1, 1) := by decide +kernel
theorem d_LY_partsUsed_39 : decode b_LY_partsUsed 39 = .ok (.ireturn, 1) := by decide +kernel
