theorem dL_cell_0 : decode cL_cell 0 = .ok (.iload_n 1, 1) := by decide +kernel
theorem dL_cell_1 : decode cL_cell 1 = .ok (.aload_n 0, 1) := by decide +kernel
theorem dL_cell_2 : decode cL_cell 2 = .ok (.arraylength, 1) := by decide +kernel
theorem dL_cell_3 : decode cL_cell 3 = .ok (.if_icmp .ge 9, 3) := by decide +kernel
theorem dL_cell_6 : decode cL_cell 6 = .ok (.aload_n 0, 1) := by decide +kernel
theorem dL_cell_7 : decode cL_cell 7 = .ok (.iload_n 1, 1) := by decide +kernel
theorem dL_cell_8 : decode cL_cell 8 = .ok (.iaload, 1) := by decide +kernel
theorem dL_cell_9 : decode cL_cell 9 = .ok (.goto 10, 3) := by decide +kernel
theorem dL_cell_12 : decode cL_cell 12 = .ok (.ldc 7, 2) := by decide +kernel
theorem dL_cell_14 : decode cL_cell 14 = .ok (.iload_n 1, 1) := by decide +kernel
theorem dL_cell_15 : decode cL_cell 15 = .ok (.imul, 1) := by decide +kernel
theorem dL_cell_16 : decode cL_cell 16 = .ok (.ldc 8, 2) := by decide +kernel
theorem dL_cell_18 : decode cL_cell 18 = .ok (.iadd, 1) := by decide +kernel
theorem dL_cell_19 : decode cL_cell 19 = .ok (.ireturn, 1) := by decide +kernel
theorem dL_low_0 : decode cL_low 0 = .ok (.iload_n 0, 1) := by decide +kernel
theorem dL_low_1 : decode cL_low 1 = .ok (.ldc 9, 2) := by decide +kernel
theorem dL_low_3 : decode cL_low 3 = .ok (.iand, 1) := by decide +kernel
theorem dL_low_4 : decode cL_low 4 = .ok (.iload_n 1, 1) := by decide +kernel
theorem dL_low_5 : decode cL_low 5 = .ok (.irem, 1) := by decide +kernel
theorem dL_low_6 : decode cL_low 6 = .ok (.ireturn, 1) := by decide +kernel
theorem dL_says_0 : decode cL_says 0 = .ok (.aload_n 0, 1) := by decide +kernel
theorem dL_says_1 : decode cL_says 1 = .ok (.iconst 4, 1) := by decide +kernel
theorem dL_says_2 : decode cL_says 2 = .ok (.invokevirtual 10, 3) := by decide +kernel
theorem dL_says_5 : decode cL_says 5 = .ok (.istore 12, 2) := by decide +kernel
theorem dL_says_7 : decode cL_says 7 = .ok (.aload_n 0, 1) := by decide +kernel
theorem dL_says_8 : decode cL_says 8 = .ok (.invokevirtual 16, 3) := by decide +kernel
theorem dL_says_11 : decode cL_says 11 = .ok (.iload 12, 2) := by decide +kernel
theorem dL_says_13 : decode cL_says 13 = .ok (.if_icmp .ne 15, 3) := by decide +kernel
theorem dL_says_16 : decode cL_says 16 = .ok (.aload_n 0, 1) := by decide +kernel
theorem dL_says_17 : decode cL_says 17 = .ok (.lload_n 1, 1) := by decide +kernel
theorem dL_says_18 : decode cL_says 18 = .ok (.invokevirtual 20, 3) := by decide +kernel
theorem dL_says_21 : decode cL_says 21 = .ok (.ifCond .le 7, 3) := by decide +kernel
theorem dL_says_24 : decode cL_says 24 = .ok (.iconst 1, 1) := by decide +kernel
theorem dL_says_25 : decode cL_says 25 = .ok (.goto 4, 3) := by decide +kernel
theorem dL_says_28 : decode cL_says 28 = .ok (.iconst 0, 1) := by decide +kernel
theorem dL_says_29 : decode cL_says 29 = .ok (.istore 13, 2) := by decide +kernel
theorem dL_says_31 : decode cL_says 31 = .ok (.iload 13, 2) := by decide +kernel
theorem dL_says_33 : decode cL_says 33 = .ok (.ifCond .eq 77, 3) := by decide +kernel
theorem dL_says_36 : decode cL_says 36 = .ok (.lload_n 3, 1) := by decide +kernel
theorem dL_says_37 : decode cL_says 37 = .ok (.lconst 0, 1) := by decide +kernel
theorem dL_says_38 : decode cL_says 38 = .ok (.lcmp, 1) := by decide +kernel
theorem dL_says_39 : decode cL_says 39 = .ok (.ifCond .eq 13, 3) := by decide +kernel
theorem dL_says_42 : decode cL_says 42 = .ok (.aload_n 0, 1) := by decide +kernel
theorem dL_says_43 : decode cL_says 43 = .ok (.lload_n 3, 1) := by decide +kernel
theorem dL_says_44 : decode cL_says 44 = .ok (.invokevirtual 20, 3) := by decide +kernel
theorem dL_says_47 : decode cL_says 47 = .ok (.bipush 8, 2) := by decide +kernel
theorem dL_says_49 : decode cL_says 49 = .ok (.if_icmp .le 61, 3) := by decide +kernel
theorem dL_says_52 : decode cL_says 52 = .ok (.lload 5, 2) := by decide +kernel
theorem dL_says_54 : decode cL_says 54 = .ok (.lconst 0, 1) := by decide +kernel
theorem dL_says_55 : decode cL_says 55 = .ok (.lcmp, 1) := by decide +kernel
theorem dL_says_56 : decode cL_says 56 = .ok (.ifCond .eq 14, 3) := by decide +kernel
theorem dL_says_59 : decode cL_says 59 = .ok (.aload_n 0, 1) := by decide +kernel
theorem dL_says_60 : decode cL_says 60 = .ok (.lload 5, 2) := by decide +kernel
theorem dL_says_62 : decode cL_says 62 = .ok (.invokevirtual 20, 3) := by decide +kernel
theorem dL_says_65 : decode cL_says 65 = .ok (.bipush 16, 2) := by decide +kernel
theorem dL_says_67 : decode cL_says 67 = .ok (.if_icmp .le 43, 3) := by decide +kernel
theorem dL_says_70 : decode cL_says 70 = .ok (.lload 7, 2) := by decide +kernel
theorem dL_says_72 : decode cL_says 72 = .ok (.lconst 0, 1) := by decide +kernel
theorem dL_says_73 : decode cL_says 73 = .ok (.lcmp, 1) := by decide +kernel
theorem dL_says_74 : decode cL_says 74 = .ok (.ifCond .eq 14, 3) := by decide +kernel
theorem dL_says_77 : decode cL_says 77 = .ok (.aload_n 0, 1) := by decide +kernel
theorem dL_says_78 : decode cL_says 78 = .ok (.lload 7, 2) := by decide +kernel
theorem dL_says_80 : decode cL_says 80 = .ok (.invokevirtual 20, 3) := by decide +kernel
theorem dL_says_83 : decode cL_says 83 = .ok (.bipush 24, 2) := by decide +kernel
theorem dL_says_85 : decode cL_says 85 = .ok (.if_icmp .le 25, 3) := by decide +kernel
theorem dL_says_88 : decode cL_says 88 = .ok (.lload 9, 2) := by decide +kernel
theorem dL_says_90 : decode cL_says 90 = .ok (.lconst 0, 1) := by decide +kernel
theorem dL_says_91 : decode cL_says 91 = .ok (.lcmp, 1) := by decide +kernel
theorem dL_says_92 : decode cL_says 92 = .ok (.ifCond .eq 14, 3) := by decide +kernel
theorem dL_says_95 : decode cL_says 95 = .ok (.aload_n 0, 1) := by decide +kernel
theorem dL_says_96 : decode cL_says 96 = .ok (.lload 9, 2) := by decide +kernel
theorem dL_says_98 : decode cL_says 98 = .ok (.invokevirtual 20, 3) := by decide +kernel
theorem dL_says_101 : decode cL_says 101 = .ok (.bipush 32, 2) := by decide +kernel
theorem dL_says_103 : decode cL_says 103 = .ok (.if_icmp .le 7, 3) := by decide +kernel
theorem dL_says_106 : decode cL_says 106 = .ok (.iconst 1, 1) := by decide +kernel
theorem dL_says_107 : decode cL_says 107 = .ok (.goto 4, 3) := by decide +kernel
theorem dL_says_110 : decode cL_says 110 = .ok (.iconst 0, 1) := by decide +kernel
theorem dL_says_111 : decode cL_says 111 = .ok (.istore 13, 2) := by decide +kernel
theorem dL_says_113 : decode cL_says 113 = .ok (.iload 13, 2) := by decide +kernel
theorem dL_says_115 : decode cL_says 115 = .ok (.ifCond .eq 26, 3) := by decide +kernel
theorem dL_says_118 : decode cL_says 118 = .ok (.aload_n 0, 1) := by decide +kernel
theorem dL_says_119 : decode cL_says 119 = .ok (.iconst 4, 1) := by decide +kernel
theorem dL_says_120 : decode cL_says 120 = .ok (.invokevirtual 10, 3) := by decide +kernel
theorem dL_says_123 : decode cL_says 123 = .ok (.iload 11, 2) := by decide +kernel
theorem dL_says_125 : decode cL_says 125 = .ok (.if_icmp .ne 16, 3) := by decide +kernel
theorem dL_says_128 : decode cL_says 128 = .ok (.aload_n 0, 1) := by decide +kernel
theorem dL_says_129 : decode cL_says 129 = .ok (.invokevirtual 24, 3) := by decide +kernel
theorem dL_says_132 : decode cL_says 132 = .ok (.bipush (-6), 2) := by decide +kernel
theorem dL_says_134 : decode cL_says 134 = .ok (.if_icmp .ne 7, 3) := by decide +kernel
theorem dL_says_137 : decode cL_says 137 = .ok (.iconst 1, 1) := by decide +kernel
theorem dL_says_138 : decode cL_says 138 = .ok (.goto 4, 3) := by decide +kernel
theorem dL_says_141 : decode cL_says 141 = .ok (.iconst 0, 1) := by decide +kernel
theorem dL_says_142 : decode cL_says 142 = .ok (.ireturn, 1) := by decide +kernel
theorem dL_build_0 : decode cL_build 0 = .ok (.aload_n 1, 1) := by decide +kernel
theorem dL_build_1 : decode cL_build 1 = .ok (.iconst 0, 1) := by decide +kernel
theorem dL_build_2 : decode cL_build 2 = .ok (.invokestatic 27, 3) := by decide +kernel
theorem dL_build_5 : decode cL_build 5 = .ok (.istore_n 2, 1) := by decide +kernel
theorem dL_build_6 : decode cL_build 6 = .ok (.iconst 2, 1) := by decide +kernel
theorem dL_build_7 : decode cL_build 7 = .ok (.iload_n 2, 1) := by decide +kernel
theorem dL_build_8 : decode cL_build 8 = .ok (.iconst 2, 1) := by decide +kernel
theorem dL_build_9 : decode cL_build 9 = .ok (.invokestatic 33, 3) := by decide +kernel
theorem dL_build_12 : decode cL_build 12 = .ok (.iadd, 1) := by decide +kernel
theorem dL_build_13 : decode cL_build 13 = .ok (.istore_n 3, 1) := by decide +kernel
theorem dL_build_14 : decode cL_build 14 = .ok (.iload_n 2, 1) := by decide +kernel
theorem dL_build_15 : decode cL_build 15 = .ok (.iconst 1, 1) := by decide +kernel
theorem dL_build_16 : decode cL_build 16 = .ok (.ishr, 1) := by decide +kernel
theorem dL_build_17 : decode cL_build 17 = .ok (.iconst 4, 1) := by decide +kernel
theorem dL_build_18 : decode cL_build 18 = .ok (.invokestatic 33, 3) := by decide +kernel
theorem dL_build_21 : decode cL_build 21 = .ok (.istore 4, 2) := by decide +kernel
theorem dL_build_23 : decode cL_build 23 = .ok (.iload 4, 2) := by decide +kernel
theorem dL_build_25 : decode cL_build 25 = .ok (.ifCond .ne 7, 3) := by decide +kernel
theorem dL_build_28 : decode cL_build 28 = .ok (.iconst 3, 1) := by decide +kernel
theorem dL_build_29 : decode cL_build 29 = .ok (.goto 26, 3) := by decide +kernel
theorem dL_build_32 : decode cL_build 32 = .ok (.iload 4, 2) := by decide +kernel
theorem dL_build_34 : decode cL_build 34 = .ok (.iconst 1, 1) := by decide +kernel
theorem dL_build_35 : decode cL_build 35 = .ok (.if_icmp .ne 7, 3) := by decide +kernel
theorem dL_build_38 : decode cL_build 38 = .ok (.iconst 5, 1) := by decide +kernel
theorem dL_build_39 : decode cL_build 39 = .ok (.goto 16, 3) := by decide +kernel
theorem dL_build_42 : decode cL_build 42 = .ok (.iload 4, 2) := by decide +kernel
theorem dL_build_44 : decode cL_build 44 = .ok (.iconst 2, 1) := by decide +kernel
theorem dL_build_45 : decode cL_build 45 = .ok (.if_icmp .ne 8, 3) := by decide +kernel
theorem dL_build_48 : decode cL_build 48 = .ok (.bipush 7, 2) := by decide +kernel
theorem dL_build_50 : decode cL_build 50 = .ok (.goto 5, 3) := by decide +kernel
theorem dL_build_53 : decode cL_build 53 = .ok (.bipush 11, 2) := by decide +kernel
theorem dL_build_55 : decode cL_build 55 = .ok (.istore 5, 2) := by decide +kernel
theorem dL_build_57 : decode cL_build 57 = .ok (.aload_n 0, 1) := by decide +kernel
theorem dL_build_58 : decode cL_build 58 = .ok (.iconst 0, 1) := by decide +kernel
theorem dL_build_59 : decode cL_build 59 = .ok (.invokevirtual 10, 3) := by decide +kernel
theorem dL_build_62 : decode cL_build 62 = .ok (.istore 6, 2) := by decide +kernel
theorem dL_build_64 : decode cL_build 64 = .ok (.aload_n 0, 1) := by decide +kernel
theorem dL_build_65 : decode cL_build 65 = .ok (.iload_n 3, 1) := by decide +kernel
theorem dL_build_66 : decode cL_build 66 = .ok (.iload 5, 2) := by decide +kernel
theorem dL_build_68 : decode cL_build 68 = .ok (.invokevirtual 37, 3) := by decide +kernel
theorem dL_build_71 : decode cL_build 71 = .ok (.iload 6, 2) := by decide +kernel
theorem dL_build_73 : decode cL_build 73 = .ok (.if_icmp .ne 45, 3) := by decide +kernel
theorem dL_build_76 : decode cL_build 76 = .ok (.aload_n 0, 1) := by decide +kernel
theorem dL_build_77 : decode cL_build 77 = .ok (.iconst 0, 1) := by decide +kernel
theorem dL_build_78 : decode cL_build 78 = .ok (.invokevirtual 10, 3) := by decide +kernel
theorem dL_build_81 : decode cL_build 81 = .ok (.iload_n 3, 1) := by decide +kernel
theorem dL_build_82 : decode cL_build 82 = .ok (.if_icmp .ne 36, 3) := by decide +kernel
theorem dL_build_85 : decode cL_build 85 = .ok (.aload_n 0, 1) := by decide +kernel
theorem dL_build_86 : decode cL_build 86 = .ok (.iconst 1, 1) := by decide +kernel
theorem dL_build_87 : decode cL_build 87 = .ok (.invokevirtual 10, 3) := by decide +kernel
theorem dL_build_90 : decode cL_build 90 = .ok (.iload 5, 2) := by decide +kernel
theorem dL_build_92 : decode cL_build 92 = .ok (.if_icmp .ne 26, 3) := by decide +kernel
theorem dL_build_95 : decode cL_build 95 = .ok (.aload_n 0, 1) := by decide +kernel
theorem dL_build_96 : decode cL_build 96 = .ok (.iconst 2, 1) := by decide +kernel
theorem dL_build_97 : decode cL_build 97 = .ok (.invokevirtual 10, 3) := by decide +kernel
theorem dL_build_100 : decode cL_build 100 = .ok (.ifCond .ne 18, 3) := by decide +kernel
theorem dL_build_103 : decode cL_build 103 = .ok (.aload_n 0, 1) := by decide +kernel
theorem dL_build_104 : decode cL_build 104 = .ok (.iconst 3, 1) := by decide +kernel
theorem dL_build_105 : decode cL_build 105 = .ok (.invokevirtual 10, 3) := by decide +kernel
theorem dL_build_108 : decode cL_build 108 = .ok (.sipush 255, 3) := by decide +kernel
theorem dL_build_111 : decode cL_build 111 = .ok (.if_icmp .ne 7, 3) := by decide +kernel
theorem dL_build_114 : decode cL_build 114 = .ok (.iconst 1, 1) := by decide +kernel
theorem dL_build_115 : decode cL_build 115 = .ok (.goto 4, 3) := by decide +kernel
theorem dL_build_118 : decode cL_build 118 = .ok (.iconst 0, 1) := by decide +kernel
theorem dL_build_119 : decode cL_build 119 = .ok (.istore 7, 2) := by decide +kernel
theorem dL_build_121 : decode cL_build 121 = .ok (.iconst 0, 1) := by decide +kernel
theorem dL_build_122 : decode cL_build 122 = .ok (.istore 8, 2) := by decide +kernel
theorem dL_build_124 : decode cL_build 124 = .ok (.iload 8, 2) := by decide +kernel
theorem dL_build_126 : decode cL_build 126 = .ok (.iconst 4, 1) := by decide +kernel
theorem dL_build_127 : decode cL_build 127 = .ok (.if_icmp .ge 145, 3) := by decide +kernel
theorem dL_build_130 : decode cL_build 130 = .ok (.iload 7, 2) := by decide +kernel
theorem dL_build_132 : decode cL_build 132 = .ok (.ifCond .eq 140, 3) := by decide +kernel
theorem dL_build_135 : decode cL_build 135 = .ok (.aload_n 1, 1) := by decide +kernel
theorem dL_build_136 : decode cL_build 136 = .ok (.iconst 1, 1) := by decide +kernel
theorem dL_build_137 : decode cL_build 137 = .ok (.iload 8, 2) := by decide +kernel
theorem dL_build_139 : decode cL_build 139 = .ok (.iadd, 1) := by decide +kernel
theorem dL_build_140 : decode cL_build 140 = .ok (.invokestatic 27, 3) := by decide +kernel
theorem dL_build_143 : decode cL_build 143 = .ok (.istore 9, 2) := by decide +kernel
theorem dL_build_145 : decode cL_build 145 = .ok (.iconst 0, 1) := by decide +kernel
theorem dL_build_146 : decode cL_build 146 = .ok (.istore 10, 2) := by decide +kernel
theorem dL_build_148 : decode cL_build 148 = .ok (.iload 10, 2) := by decide +kernel
theorem dL_build_150 : decode cL_build 150 = .ok (.bipush 9, 2) := by decide +kernel
theorem dL_build_152 : decode cL_build 152 = .ok (.if_icmp .ge 114, 3) := by decide +kernel
theorem dL_build_155 : decode cL_build 155 = .ok (.iload 7, 2) := by decide +kernel
theorem dL_build_157 : decode cL_build 157 = .ok (.ifCond .eq 109, 3) := by decide +kernel
theorem dL_build_160 : decode cL_build 160 = .ok (.iload 10, 2) := by decide +kernel
theorem dL_build_162 : decode cL_build 162 = .ok (.iconst 3, 1) := by decide +kernel
theorem dL_build_163 : decode cL_build 163 = .ok (.idiv, 1) := by decide +kernel
theorem dL_build_164 : decode cL_build 164 = .ok (.istore 11, 2) := by decide +kernel
theorem dL_build_166 : decode cL_build 166 = .ok (.iload 10, 2) := by decide +kernel
theorem dL_build_168 : decode cL_build 168 = .ok (.iconst 3, 1) := by decide +kernel
theorem dL_build_169 : decode cL_build 169 = .ok (.irem, 1) := by decide +kernel
theorem dL_build_170 : decode cL_build 170 = .ok (.istore 12, 2) := by decide +kernel
theorem dL_build_172 : decode cL_build 172 = .ok (.iload 11, 2) := by decide +kernel
theorem dL_build_174 : decode cL_build 174 = .ok (.iload_n 3, 1) := by decide +kernel
theorem dL_build_175 : decode cL_build 175 = .ok (.if_icmp .ge 85, 3) := by decide +kernel
theorem dL_build_178 : decode cL_build 178 = .ok (.iload 12, 2) := by decide +kernel
theorem dL_build_180 : decode cL_build 180 = .ok (.iload_n 3, 1) := by decide +kernel
theorem dL_build_181 : decode cL_build 181 = .ok (.if_icmp .ge 79, 3) := by decide +kernel
theorem dL_build_184 : decode cL_build 184 = .ok (.iload 11, 2) := by decide +kernel
theorem dL_build_186 : decode cL_build 186 = .ok (.iload 12, 2) := by decide +kernel
theorem dL_build_188 : decode cL_build 188 = .ok (.if_icmp .gt 72, 3) := by decide +kernel
theorem dL_build_191 : decode cL_build 191 = .ok (.iload 9, 2) := by decide +kernel
theorem dL_build_193 : decode cL_build 193 = .ok (.iconst 2, 1) := by decide +kernel
theorem dL_build_194 : decode cL_build 194 = .ok (.iload 10, 2) := by decide +kernel
theorem dL_build_196 : decode cL_build 196 = .ok (.imul, 1) := by decide +kernel
theorem dL_build_197 : decode cL_build 197 = .ok (.iload 12, 2) := by decide +kernel
theorem dL_build_199 : decode cL_build 199 = .ok (.iadd, 1) := by decide +kernel
theorem dL_build_200 : decode cL_build 200 = .ok (.ishr, 1) := by decide +kernel
theorem dL_build_201 : decode cL_build 201 = .ok (.iload 5, 2) := by decide +kernel
theorem dL_build_203 : decode cL_build 203 = .ok (.invokestatic 33, 3) := by decide +kernel
theorem dL_build_206 : decode cL_build 206 = .ok (.istore 13, 2) := by decide +kernel
theorem dL_build_208 : decode cL_build 208 = .ok (.aload_n 0, 1) := by decide +kernel
theorem dL_build_209 : decode cL_build 209 = .ok (.iload 8, 2) := by decide +kernel
theorem dL_build_211 : decode cL_build 211 = .ok (.iload 11, 2) := by decide +kernel
theorem dL_build_213 : decode cL_build 213 = .ok (.iload 12, 2) := by decide +kernel
theorem dL_build_215 : decode cL_build 215 = .ok (.iload 13, 2) := by decide +kernel
theorem dL_build_217 : decode cL_build 217 = .ok (.invokevirtual 40, 3) := by decide +kernel
theorem dL_build_220 : decode cL_build 220 = .ok (.ifCond .ne 37, 3) := by decide +kernel
theorem dL_build_223 : decode cL_build 223 = .ok (.aload_n 0, 1) := by decide +kernel
theorem dL_build_224 : decode cL_build 224 = .ok (.iload 8, 2) := by decide +kernel
theorem dL_build_226 : decode cL_build 226 = .ok (.iload 11, 2) := by decide +kernel
theorem dL_build_228 : decode cL_build 228 = .ok (.iload 12, 2) := by decide +kernel
theorem dL_build_230 : decode cL_build 230 = .ok (.invokevirtual 44, 3) := by decide +kernel
theorem dL_build_233 : decode cL_build 233 = .ok (.iload 13, 2) := by decide +kernel
theorem dL_build_235 : decode cL_build 235 = .ok (.if_icmp .ne 22, 3) := by decide +kernel
theorem dL_build_238 : decode cL_build 238 = .ok (.aload_n 0, 1) := by decide +kernel
theorem dL_build_239 : decode cL_build 239 = .ok (.iload 8, 2) := by decide +kernel
theorem dL_build_241 : decode cL_build 241 = .ok (.iload 12, 2) := by decide +kernel
theorem dL_build_243 : decode cL_build 243 = .ok (.iload 11, 2) := by decide +kernel
theorem dL_build_245 : decode cL_build 245 = .ok (.invokevirtual 44, 3) := by decide +kernel
theorem dL_build_248 : decode cL_build 248 = .ok (.iload 13, 2) := by decide +kernel
theorem dL_build_250 : decode cL_build 250 = .ok (.if_icmp .ne 7, 3) := by decide +kernel
theorem dL_build_253 : decode cL_build 253 = .ok (.iconst 1, 1) := by decide +kernel
theorem dL_build_254 : decode cL_build 254 = .ok (.goto 4, 3) := by decide +kernel
theorem dL_build_257 : decode cL_build 257 = .ok (.iconst 0, 1) := by decide +kernel
theorem dL_build_258 : decode cL_build 258 = .ok (.istore 7, 2) := by decide +kernel
theorem dL_build_260 : decode cL_build 260 = .ok (.iinc 10 1, 3) := by decide +kernel
theorem dL_build_263 : decode cL_build 263 = .ok (.goto (-115), 3) := by decide +kernel
theorem dL_build_266 : decode cL_build 266 = .ok (.iinc 8 1, 3) := by decide +kernel
theorem dL_build_269 : decode cL_build 269 = .ok (.goto (-145), 3) := by decide +kernel
theorem dL_build_272 : decode cL_build 272 = .ok (.aload_n 0, 1) := by decide +kernel
theorem dL_build_273 : decode cL_build 273 = .ok (.iconst 3, 1) := by decide +kernel
theorem dL_build_274 : decode cL_build 274 = .ok (.iconst 1, 1) := by decide +kernel
theorem dL_build_275 : decode cL_build 275 = .ok (.invokevirtual 48, 3) := by decide +kernel
theorem dL_build_278 : decode cL_build 278 = .ok (.istore 8, 2) := by decide +kernel
theorem dL_build_280 : decode cL_build 280 = .ok (.aload_n 0, 1) := by decide +kernel
theorem dL_build_281 : decode cL_build 281 = .ok (.iconst 3, 1) := by decide +kernel
theorem dL_build_282 : decode cL_build 282 = .ok (.invokevirtual 51, 3) := by decide +kernel
theorem dL_build_285 : decode cL_build 285 = .ok (.istore 9, 2) := by decide +kernel
theorem dL_build_287 : decode cL_build 287 = .ok (.iload 7, 2) := by decide +kernel
theorem dL_build_289 : decode cL_build 289 = .ok (.ifCond .eq 45, 3) := by decide +kernel
theorem dL_build_292 : decode cL_build 292 = .ok (.iload 9, 2) := by decide +kernel
theorem dL_build_294 : decode cL_build 294 = .ok (.iload 8, 2) := by decide +kernel
theorem dL_build_296 : decode cL_build 296 = .ok (.ifCond .ne 8, 3) := by decide +kernel
theorem dL_build_299 : decode cL_build 299 = .ok (.bipush (-5), 2) := by decide +kernel
theorem dL_build_301 : decode cL_build 301 = .ok (.goto 5, 3) := by decide +kernel
theorem dL_build_304 : decode cL_build 304 = .ok (.iload 8, 2) := by decide +kernel
theorem dL_build_306 : decode cL_build 306 = .ok (.if_icmp .ne 28, 3) := by decide +kernel
theorem dL_build_309 : decode cL_build 309 = .ok (.aload_n 0, 1) := by decide +kernel
theorem dL_build_310 : decode cL_build 310 = .ok (.bipush 8, 2) := by decide +kernel
theorem dL_build_312 : decode cL_build 312 = .ok (.iconst 1, 1) := by decide +kernel
theorem dL_build_313 : decode cL_build 313 = .ok (.invokevirtual 48, 3) := by decide +kernel
theorem dL_build_316 : decode cL_build 316 = .ok (.iload 8, 2) := by decide +kernel
theorem dL_build_318 : decode cL_build 318 = .ok (.ifCond .ne 7, 3) := by decide +kernel
theorem dL_build_321 : decode cL_build 321 = .ok (.iconst 1, 1) := by decide +kernel
theorem dL_build_322 : decode cL_build 322 = .ok (.goto 5, 3) := by decide +kernel
theorem dL_build_325 : decode cL_build 325 = .ok (.iload 8, 2) := by decide +kernel
theorem dL_build_327 : decode cL_build 327 = .ok (.if_icmp .ne 7, 3) := by decide +kernel
theorem dL_build_330 : decode cL_build 330 = .ok (.iconst 1, 1) := by decide +kernel
theorem dL_build_331 : decode cL_build 331 = .ok (.goto 4, 3) := by decide +kernel
theorem dL_build_334 : decode cL_build 334 = .ok (.iconst 0, 1) := by decide +kernel
theorem dL_build_335 : decode cL_build 335 = .ok (.ireturn, 1) := by decide +kernel
theorem dL_before_0 : decode cL_before 0 = .ok (.aload_n 0, 1) := by decide +kernel
theorem dL_before_1 : decode cL_before 1 = .ok (.iconst 3, 1) := by decide +kernel
theorem dL_before_2 : decode cL_before 2 = .ok (.bipush 11, 2) := by decide +kernel
theorem dL_before_4 : decode cL_before 4 = .ok (.invokevirtual 37, 3) := by decide +kernel
theorem dL_before_7 : decode cL_before 7 = .ok (.iconst 2, 1) := by decide +kernel
theorem dL_before_8 : decode cL_before 8 = .ok (.if_icmp .ne 45, 3) := by decide +kernel
theorem dL_before_11 : decode cL_before 11 = .ok (.aload_n 0, 1) := by decide +kernel
theorem dL_before_12 : decode cL_before 12 = .ok (.iconst 0, 1) := by decide +kernel
theorem dL_before_13 : decode cL_before 13 = .ok (.iconst 0, 1) := by decide +kernel
theorem dL_before_14 : decode cL_before 14 = .ok (.iconst 2, 1) := by decide +kernel
theorem dL_before_15 : decode cL_before 15 = .ok (.iconst 1, 1) := by decide +kernel
theorem dL_before_16 : decode cL_before 16 = .ok (.iload_n 1, 1) := by decide +kernel
theorem dL_before_17 : decode cL_before 17 = .ok (.bipush 10, 2) := by decide +kernel
theorem dL_before_19 : decode cL_before 19 = .ok (.invokestatic 33, 3) := by decide +kernel
theorem dL_before_22 : decode cL_before 22 = .ok (.iadd, 1) := by decide +kernel
theorem dL_before_23 : decode cL_before 23 = .ok (.invokevirtual 40, 3) := by decide +kernel
theorem dL_before_26 : decode cL_before 26 = .ok (.ifCond .ne 27, 3) := by decide +kernel
theorem dL_before_29 : decode cL_before 29 = .ok (.aload_n 0, 1) := by decide +kernel
theorem dL_before_30 : decode cL_before 30 = .ok (.iconst 1, 1) := by decide +kernel
theorem dL_before_31 : decode cL_before 31 = .ok (.iconst 2, 1) := by decide +kernel
theorem dL_before_32 : decode cL_before 32 = .ok (.iconst 2, 1) := by decide +kernel
theorem dL_before_33 : decode cL_before 33 = .ok (.iconst 1, 1) := by decide +kernel
theorem dL_before_34 : decode cL_before 34 = .ok (.iload_n 1, 1) := by decide +kernel
theorem dL_before_35 : decode cL_before 35 = .ok (.iconst 4, 1) := by decide +kernel
theorem dL_before_36 : decode cL_before 36 = .ok (.ishr, 1) := by decide +kernel
theorem dL_before_37 : decode cL_before 37 = .ok (.bipush 10, 2) := by decide +kernel
theorem dL_before_39 : decode cL_before 39 = .ok (.invokestatic 33, 3) := by decide +kernel
theorem dL_before_42 : decode cL_before 42 = .ok (.iadd, 1) := by decide +kernel
theorem dL_before_43 : decode cL_before 43 = .ok (.invokevirtual 40, 3) := by decide +kernel
theorem dL_before_46 : decode cL_before 46 = .ok (.ifCond .ne 7, 3) := by decide +kernel
theorem dL_before_49 : decode cL_before 49 = .ok (.iconst 1, 1) := by decide +kernel
theorem dL_before_50 : decode cL_before 50 = .ok (.goto 4, 3) := by decide +kernel
theorem dL_before_53 : decode cL_before 53 = .ok (.iconst 0, 1) := by decide +kernel
theorem dL_before_54 : decode cL_before 54 = .ok (.istore_n 2, 1) := by decide +kernel
theorem dL_before_55 : decode cL_before 55 = .ok (.iload_n 2, 1) := by decide +kernel
theorem dL_before_56 : decode cL_before 56 = .ok (.ifCond .eq 39, 3) := by decide +kernel
theorem dL_before_59 : decode cL_before 59 = .ok (.aload_n 0, 1) := by decide +kernel
theorem dL_before_60 : decode cL_before 60 = .ok (.iconst 0, 1) := by decide +kernel
theorem dL_before_61 : decode cL_before 61 = .ok (.iconst 3, 1) := by decide +kernel
theorem dL_before_62 : decode cL_before 62 = .ok (.invokevirtual 48, 3) := by decide +kernel
theorem dL_before_65 : decode cL_before 65 = .ok (.ifCond .ne 30, 3) := by decide +kernel
theorem dL_before_68 : decode cL_before 68 = .ok (.aload_n 0, 1) := by decide +kernel
theorem dL_before_69 : decode cL_before 69 = .ok (.iconst 0, 1) := by decide +kernel
theorem dL_before_70 : decode cL_before 70 = .ok (.iconst 1, 1) := by decide +kernel
theorem dL_before_71 : decode cL_before 71 = .ok (.iconst 0, 1) := by decide +kernel
theorem dL_before_72 : decode cL_before 72 = .ok (.iconst 0, 1) := by decide +kernel
theorem dL_before_73 : decode cL_before 73 = .ok (.invokevirtual 54, 3) := by decide +kernel
theorem dL_before_76 : decode cL_before 76 = .ok (.iconst 1, 1) := by decide +kernel
theorem dL_before_77 : decode cL_before 77 = .ok (.if_icmp .ne 18, 3) := by decide +kernel
theorem dL_before_80 : decode cL_before 80 = .ok (.aload_n 0, 1) := by decide +kernel
theorem dL_before_81 : decode cL_before 81 = .ok (.iconst 1, 1) := by decide +kernel
theorem dL_before_82 : decode cL_before 82 = .ok (.bipush 6, 2) := by decide +kernel
theorem dL_before_84 : decode cL_before 84 = .ok (.invokevirtual 48, 3) := by decide +kernel
theorem dL_before_87 : decode cL_before 87 = .ok (.iconst 1, 1) := by decide +kernel
theorem dL_before_88 : decode cL_before 88 = .ok (.if_icmp .lt 7, 3) := by decide +kernel
theorem dL_before_91 : decode cL_before 91 = .ok (.iconst 1, 1) := by decide +kernel
theorem dL_before_92 : decode cL_before 92 = .ok (.goto 4, 3) := by decide +kernel
theorem dL_before_95 : decode cL_before 95 = .ok (.iconst 0, 1) := by decide +kernel
theorem dL_before_96 : decode cL_before 96 = .ok (.ireturn, 1) := by decide +kernel
theorem dL_equations_0 : decode cL_equations 0 = .ok (.aload_n 0, 1) := by decide +kernel
theorem dL_equations_1 : decode cL_equations 1 = .ok (.ldc2_w 57, 3) := by decide +kernel
theorem dL_equations_4 : decode cL_equations 4 = .ok (.ldc2_w 59, 3) := by decide +kernel
theorem dL_equations_7 : decode cL_equations 7 = .ok (.lconst 0, 1) := by decide +kernel
theorem dL_equations_8 : decode cL_equations 8 = .ok (.lconst 0, 1) := by decide +kernel
theorem dL_equations_9 : decode cL_equations 9 = .ok (.lconst 0, 1) := by decide +kernel
theorem dL_equations_10 : decode cL_equations 10 = .ok (.bipush 13, 2) := by decide +kernel
theorem dL_equations_12 : decode cL_equations 12 = .ok (.invokestatic 61, 3) := by decide +kernel
theorem dL_equations_15 : decode cL_equations 15 = .ok (.ifCond .eq 15, 3) := by decide +kernel
theorem dL_equations_18 : decode cL_equations 18 = .ok (.aload_n 0, 1) := by decide +kernel
theorem dL_equations_19 : decode cL_equations 19 = .ok (.invokevirtual 65, 3) := by decide +kernel
theorem dL_equations_22 : decode cL_equations 22 = .ok (.iconst 1, 1) := by decide +kernel
theorem dL_equations_23 : decode cL_equations 23 = .ok (.if_icmp .ne 7, 3) := by decide +kernel
theorem dL_equations_26 : decode cL_equations 26 = .ok (.iconst 1, 1) := by decide +kernel
theorem dL_equations_27 : decode cL_equations 27 = .ok (.goto 4, 3) := by decide +kernel
theorem dL_equations_30 : decode cL_equations 30 = .ok (.iconst 0, 1) := by decide +kernel
theorem dL_equations_31 : decode cL_equations 31 = .ok (.istore_n 1, 1) := by decide +kernel
theorem dL_equations_32 : decode cL_equations 32 = .ok (.iload_n 1, 1) := by decide +kernel
theorem dL_equations_33 : decode cL_equations 33 = .ok (.ifCond .eq 31, 3) := by decide +kernel
theorem dL_equations_36 : decode cL_equations 36 = .ok (.aload_n 0, 1) := by decide +kernel
theorem dL_equations_37 : decode cL_equations 37 = .ok (.ldc2_w 68, 3) := by decide +kernel
theorem dL_equations_40 : decode cL_equations 40 = .ok (.lconst 0, 1) := by decide +kernel
theorem dL_equations_41 : decode cL_equations 41 = .ok (.lconst 0, 1) := by decide +kernel
theorem dL_equations_42 : decode cL_equations 42 = .ok (.lconst 0, 1) := by decide +kernel
theorem dL_equations_43 : decode cL_equations 43 = .ok (.lconst 0, 1) := by decide +kernel
theorem dL_equations_44 : decode cL_equations 44 = .ok (.bipush 8, 2) := by decide +kernel
theorem dL_equations_46 : decode cL_equations 46 = .ok (.invokestatic 61, 3) := by decide +kernel
theorem dL_equations_49 : decode cL_equations 49 = .ok (.ifCond .eq 15, 3) := by decide +kernel
theorem dL_equations_52 : decode cL_equations 52 = .ok (.aload_n 0, 1) := by decide +kernel
theorem dL_equations_53 : decode cL_equations 53 = .ok (.invokevirtual 65, 3) := by decide +kernel
theorem dL_equations_56 : decode cL_equations 56 = .ok (.iconst 1, 1) := by decide +kernel
theorem dL_equations_57 : decode cL_equations 57 = .ok (.if_icmp .ne 7, 3) := by decide +kernel
theorem dL_equations_60 : decode cL_equations 60 = .ok (.iconst 1, 1) := by decide +kernel
theorem dL_equations_61 : decode cL_equations 61 = .ok (.goto 4, 3) := by decide +kernel
theorem dL_equations_64 : decode cL_equations 64 = .ok (.iconst 0, 1) := by decide +kernel
theorem dL_equations_65 : decode cL_equations 65 = .ok (.istore_n 1, 1) := by decide +kernel
theorem dL_equations_66 : decode cL_equations 66 = .ok (.iload_n 1, 1) := by decide +kernel
theorem dL_equations_67 : decode cL_equations 67 = .ok (.ifCond .eq 37, 3) := by decide +kernel
theorem dL_equations_70 : decode cL_equations 70 = .ok (.aload_n 0, 1) := by decide +kernel
theorem dL_equations_71 : decode cL_equations 71 = .ok (.ldc2_w 70, 3) := by decide +kernel
theorem dL_equations_74 : decode cL_equations 74 = .ok (.ldc2_w 72, 3) := by decide +kernel
theorem dL_equations_77 : decode cL_equations 77 = .ok (.ldc2_w 74, 3) := by decide +kernel
theorem dL_equations_80 : decode cL_equations 80 = .ok (.ldc2_w 76, 3) := by decide +kernel
theorem dL_equations_83 : decode cL_equations 83 = .ok (.lconst 0, 1) := by decide +kernel
theorem dL_equations_84 : decode cL_equations 84 = .ok (.bipush 32, 2) := by decide +kernel
theorem dL_equations_86 : decode cL_equations 86 = .ok (.invokestatic 61, 3) := by decide +kernel
theorem dL_equations_89 : decode cL_equations 89 = .ok (.ifCond .eq 15, 3) := by decide +kernel
theorem dL_equations_92 : decode cL_equations 92 = .ok (.aload_n 0, 1) := by decide +kernel
theorem dL_equations_93 : decode cL_equations 93 = .ok (.invokevirtual 65, 3) := by decide +kernel
theorem dL_equations_96 : decode cL_equations 96 = .ok (.iconst 1, 1) := by decide +kernel
theorem dL_equations_97 : decode cL_equations 97 = .ok (.if_icmp .ne 7, 3) := by decide +kernel
theorem dL_equations_100 : decode cL_equations 100 = .ok (.iconst 1, 1) := by decide +kernel
theorem dL_equations_101 : decode cL_equations 101 = .ok (.goto 4, 3) := by decide +kernel
theorem dL_equations_104 : decode cL_equations 104 = .ok (.iconst 0, 1) := by decide +kernel
theorem dL_equations_105 : decode cL_equations 105 = .ok (.istore_n 1, 1) := by decide +kernel
theorem dL_equations_106 : decode cL_equations 106 = .ok (.iload_n 1, 1) := by decide +kernel
theorem dL_equations_107 : decode cL_equations 107 = .ok (.ifCond .eq 33, 3) := by decide +kernel
theorem dL_equations_110 : decode cL_equations 110 = .ok (.aload_n 0, 1) := by decide +kernel
theorem dL_equations_111 : decode cL_equations 111 = .ok (.ldc2_w 78, 3) := by decide +kernel
theorem dL_equations_114 : decode cL_equations 114 = .ok (.ldc2_w 80, 3) := by decide +kernel
theorem dL_equations_117 : decode cL_equations 117 = .ok (.lconst 0, 1) := by decide +kernel
theorem dL_equations_118 : decode cL_equations 118 = .ok (.lconst 0, 1) := by decide +kernel
theorem dL_equations_119 : decode cL_equations 119 = .ok (.lconst 0, 1) := by decide +kernel
theorem dL_equations_120 : decode cL_equations 120 = .ok (.bipush 15, 2) := by decide +kernel
theorem dL_equations_122 : decode cL_equations 122 = .ok (.invokestatic 61, 3) := by decide +kernel
theorem dL_equations_125 : decode cL_equations 125 = .ok (.ifCond .eq 15, 3) := by decide +kernel
theorem dL_equations_128 : decode cL_equations 128 = .ok (.aload_n 0, 1) := by decide +kernel
theorem dL_equations_129 : decode cL_equations 129 = .ok (.invokevirtual 65, 3) := by decide +kernel
theorem dL_equations_132 : decode cL_equations 132 = .ok (.iconst 1, 1) := by decide +kernel
theorem dL_equations_133 : decode cL_equations 133 = .ok (.if_icmp .ne 7, 3) := by decide +kernel
theorem dL_equations_136 : decode cL_equations 136 = .ok (.iconst 1, 1) := by decide +kernel
theorem dL_equations_137 : decode cL_equations 137 = .ok (.goto 4, 3) := by decide +kernel
theorem dL_equations_140 : decode cL_equations 140 = .ok (.iconst 0, 1) := by decide +kernel
theorem dL_equations_141 : decode cL_equations 141 = .ok (.istore_n 1, 1) := by decide +kernel
theorem dL_equations_142 : decode cL_equations 142 = .ok (.iload_n 1, 1) := by decide +kernel
theorem dL_equations_143 : decode cL_equations 143 = .ok (.ifCond .eq 37, 3) := by decide +kernel
theorem dL_equations_146 : decode cL_equations 146 = .ok (.aload_n 0, 1) := by decide +kernel
theorem dL_equations_147 : decode cL_equations 147 = .ok (.ldc2_w 82, 3) := by decide +kernel
theorem dL_equations_150 : decode cL_equations 150 = .ok (.ldc2_w 84, 3) := by decide +kernel
theorem dL_equations_153 : decode cL_equations 153 = .ok (.ldc2_w 86, 3) := by decide +kernel
theorem dL_equations_156 : decode cL_equations 156 = .ok (.ldc2_w 88, 3) := by decide +kernel
theorem dL_equations_159 : decode cL_equations 159 = .ok (.lconst 0, 1) := by decide +kernel
theorem dL_equations_160 : decode cL_equations 160 = .ok (.bipush 28, 2) := by decide +kernel
theorem dL_equations_162 : decode cL_equations 162 = .ok (.invokestatic 61, 3) := by decide +kernel
theorem dL_equations_165 : decode cL_equations 165 = .ok (.ifCond .eq 15, 3) := by decide +kernel
theorem dL_equations_168 : decode cL_equations 168 = .ok (.aload_n 0, 1) := by decide +kernel
theorem dL_equations_169 : decode cL_equations 169 = .ok (.invokevirtual 65, 3) := by decide +kernel
theorem dL_equations_172 : decode cL_equations 172 = .ok (.iconst 1, 1) := by decide +kernel
theorem dL_equations_173 : decode cL_equations 173 = .ok (.if_icmp .ne 7, 3) := by decide +kernel
theorem dL_equations_176 : decode cL_equations 176 = .ok (.iconst 1, 1) := by decide +kernel
theorem dL_equations_177 : decode cL_equations 177 = .ok (.goto 4, 3) := by decide +kernel
theorem dL_equations_180 : decode cL_equations 180 = .ok (.iconst 0, 1) := by decide +kernel
theorem dL_equations_181 : decode cL_equations 181 = .ok (.istore_n 1, 1) := by decide +kernel
theorem dL_equations_182 : decode cL_equations 182 = .ok (.iload_n 1, 1) := by decide +kernel
theorem dL_equations_183 : decode cL_equations 183 = .ok (.ifCond .eq 39, 3) := by decide +kernel
theorem dL_equations_186 : decode cL_equations 186 = .ok (.aload_n 0, 1) := by decide +kernel
theorem dL_equations_187 : decode cL_equations 187 = .ok (.ldc2_w 90, 3) := by decide +kernel
theorem dL_equations_190 : decode cL_equations 190 = .ok (.ldc2_w 92, 3) := by decide +kernel
theorem dL_equations_193 : decode cL_equations 193 = .ok (.ldc2_w 94, 3) := by decide +kernel
theorem dL_equations_196 : decode cL_equations 196 = .ok (.ldc2_w 96, 3) := by decide +kernel
theorem dL_equations_199 : decode cL_equations 199 = .ok (.ldc2_w 98, 3) := by decide +kernel
theorem dL_equations_202 : decode cL_equations 202 = .ok (.bipush 33, 2) := by decide +kernel
theorem dL_equations_204 : decode cL_equations 204 = .ok (.invokestatic 61, 3) := by decide +kernel
theorem dL_equations_207 : decode cL_equations 207 = .ok (.ifCond .eq 15, 3) := by decide +kernel
theorem dL_equations_210 : decode cL_equations 210 = .ok (.aload_n 0, 1) := by decide +kernel
theorem dL_equations_211 : decode cL_equations 211 = .ok (.invokevirtual 65, 3) := by decide +kernel
theorem dL_equations_214 : decode cL_equations 214 = .ok (.iconst 1, 1) := by decide +kernel
theorem dL_equations_215 : decode cL_equations 215 = .ok (.if_icmp .ne 7, 3) := by decide +kernel
theorem dL_equations_218 : decode cL_equations 218 = .ok (.iconst 1, 1) := by decide +kernel
theorem dL_equations_219 : decode cL_equations 219 = .ok (.goto 4, 3) := by decide +kernel
theorem dL_equations_222 : decode cL_equations 222 = .ok (.iconst 0, 1) := by decide +kernel
theorem dL_equations_223 : decode cL_equations 223 = .ok (.istore_n 1, 1) := by decide +kernel
theorem dL_equations_224 : decode cL_equations 224 = .ok (.iload_n 1, 1) := by decide +kernel
theorem dL_equations_225 : decode cL_equations 225 = .ok (.ifCond .eq 39, 3) := by decide +kernel
theorem dL_equations_228 : decode cL_equations 228 = .ok (.aload_n 0, 1) := by decide +kernel
theorem dL_equations_229 : decode cL_equations 229 = .ok (.ldc2_w 100, 3) := by decide +kernel
theorem dL_equations_232 : decode cL_equations 232 = .ok (.ldc2_w 102, 3) := by decide +kernel
theorem dL_equations_235 : decode cL_equations 235 = .ok (.ldc2_w 104, 3) := by decide +kernel
theorem dL_equations_238 : decode cL_equations 238 = .ok (.ldc2_w 76, 3) := by decide +kernel
theorem dL_equations_241 : decode cL_equations 241 = .ok (.ldc2_w 98, 3) := by decide +kernel
theorem dL_equations_244 : decode cL_equations 244 = .ok (.bipush 33, 2) := by decide +kernel
theorem dL_equations_246 : decode cL_equations 246 = .ok (.invokestatic 61, 3) := by decide +kernel
theorem dL_equations_249 : decode cL_equations 249 = .ok (.ifCond .eq 15, 3) := by decide +kernel
theorem dL_equations_252 : decode cL_equations 252 = .ok (.aload_n 0, 1) := by decide +kernel
theorem dL_equations_253 : decode cL_equations 253 = .ok (.invokevirtual 65, 3) := by decide +kernel
theorem dL_equations_256 : decode cL_equations 256 = .ok (.iconst 1, 1) := by decide +kernel
theorem dL_equations_257 : decode cL_equations 257 = .ok (.if_icmp .ne 7, 3) := by decide +kernel
theorem dL_equations_260 : decode cL_equations 260 = .ok (.iconst 1, 1) := by decide +kernel
theorem dL_equations_261 : decode cL_equations 261 = .ok (.goto 4, 3) := by decide +kernel
theorem dL_equations_264 : decode cL_equations 264 = .ok (.iconst 0, 1) := by decide +kernel
theorem dL_equations_265 : decode cL_equations 265 = .ok (.istore_n 1, 1) := by decide +kernel
theorem dL_equations_266 : decode cL_equations 266 = .ok (.iload_n 1, 1) := by decide +kernel
theorem dL_equations_267 : decode cL_equations 267 = .ok (.ifCond .eq 49, 3) := by decide +kernel
theorem dL_equations_270 : decode cL_equations 270 = .ok (.aload_n 0, 1) := by decide +kernel
theorem dL_equations_271 : decode cL_equations 271 = .ok (.invokevirtual 106, 3) := by decide +kernel
theorem dL_equations_274 : decode cL_equations 274 = .ok (.bipush (-6), 2) := by decide +kernel
theorem dL_equations_276 : decode cL_equations 276 = .ok (.if_icmp .ne 40, 3) := by decide +kernel
theorem dL_equations_279 : decode cL_equations 279 = .ok (.aload_n 0, 1) := by decide +kernel
theorem dL_equations_280 : decode cL_equations 280 = .ok (.invokevirtual 109, 3) := by decide +kernel
theorem dL_equations_283 : decode cL_equations 283 = .ok (.bipush (-5), 2) := by decide +kernel
theorem dL_equations_285 : decode cL_equations 285 = .ok (.if_icmp .ne 31, 3) := by decide +kernel
theorem dL_equations_288 : decode cL_equations 288 = .ok (.aload_n 0, 1) := by decide +kernel
theorem dL_equations_289 : decode cL_equations 289 = .ok (.iconst 0, 1) := by decide +kernel
theorem dL_equations_290 : decode cL_equations 290 = .ok (.iconst 1, 1) := by decide +kernel
theorem dL_equations_291 : decode cL_equations 291 = .ok (.iconst 2, 1) := by decide +kernel
theorem dL_equations_292 : decode cL_equations 292 = .ok (.iconst 0, 1) := by decide +kernel
theorem dL_equations_293 : decode cL_equations 293 = .ok (.invokevirtual 54, 3) := by decide +kernel
theorem dL_equations_296 : decode cL_equations 296 = .ok (.iconst 1, 1) := by decide +kernel
theorem dL_equations_297 : decode cL_equations 297 = .ok (.if_icmp .ne 19, 3) := by decide +kernel
theorem dL_equations_300 : decode cL_equations 300 = .ok (.aload_n 0, 1) := by decide +kernel
theorem dL_equations_301 : decode cL_equations 301 = .ok (.iconst 2, 1) := by decide +kernel
theorem dL_equations_302 : decode cL_equations 302 = .ok (.iconst 0, 1) := by decide +kernel
theorem dL_equations_303 : decode cL_equations 303 = .ok (.iconst 1, 1) := by decide +kernel
theorem dL_equations_304 : decode cL_equations 304 = .ok (.iconst 0, 1) := by decide +kernel
theorem dL_equations_305 : decode cL_equations 305 = .ok (.invokevirtual 54, 3) := by decide +kernel
theorem dL_equations_308 : decode cL_equations 308 = .ok (.iconst 1, 1) := by decide +kernel
theorem dL_equations_309 : decode cL_equations 309 = .ok (.if_icmp .ne 7, 3) := by decide +kernel
theorem dL_equations_312 : decode cL_equations 312 = .ok (.iconst 1, 1) := by decide +kernel
theorem dL_equations_313 : decode cL_equations 313 = .ok (.goto 4, 3) := by decide +kernel
theorem dL_equations_316 : decode cL_equations 316 = .ok (.iconst 0, 1) := by decide +kernel
theorem dL_equations_317 : decode cL_equations 317 = .ok (.ireturn, 1) := by decide +kernel
theorem dL_inverses_0 : decode cL_inverses 0 = .ok (.aload_n 0, 1) := by decide +kernel
theorem dL_inverses_1 : decode cL_inverses 1 = .ok (.iconst 0, 1) := by decide +kernel
theorem dL_inverses_2 : decode cL_inverses 2 = .ok (.iconst 4, 1) := by decide +kernel
theorem dL_inverses_3 : decode cL_inverses 3 = .ok (.invokevirtual 48, 3) := by decide +kernel
theorem dL_inverses_6 : decode cL_inverses 6 = .ok (.iconst 1, 1) := by decide +kernel
theorem dL_inverses_7 : decode cL_inverses 7 = .ok (.if_icmp .ne 7, 3) := by decide +kernel
theorem dL_inverses_10 : decode cL_inverses 10 = .ok (.iconst 1, 1) := by decide +kernel
theorem dL_inverses_11 : decode cL_inverses 11 = .ok (.goto 4, 3) := by decide +kernel
theorem dL_inverses_14 : decode cL_inverses 14 = .ok (.iconst 0, 1) := by decide +kernel
theorem dL_inverses_15 : decode cL_inverses 15 = .ok (.istore_n 1, 1) := by decide +kernel
theorem dL_inverses_16 : decode cL_inverses 16 = .ok (.iload_n 1, 1) := by decide +kernel
theorem dL_inverses_17 : decode cL_inverses 17 = .ok (.aload_n 0, 1) := by decide +kernel
theorem dL_inverses_18 : decode cL_inverses 18 = .ok (.iconst 0, 1) := by decide +kernel
theorem dL_inverses_19 : decode cL_inverses 19 = .ok (.iconst 1, 1) := by decide +kernel
theorem dL_inverses_20 : decode cL_inverses 20 = .ok (.invokevirtual 48, 3) := by decide +kernel
theorem dL_inverses_23 : decode cL_inverses 23 = .ok (.ifCond .eq 7, 3) := by decide +kernel
theorem dL_inverses_26 : decode cL_inverses 26 = .ok (.iconst 1, 1) := by decide +kernel
theorem dL_inverses_27 : decode cL_inverses 27 = .ok (.goto 4, 3) := by decide +kernel
theorem dL_inverses_30 : decode cL_inverses 30 = .ok (.iconst 0, 1) := by decide +kernel
theorem dL_inverses_31 : decode cL_inverses 31 = .ok (.if_icmp .ne 30, 3) := by decide +kernel
theorem dL_inverses_34 : decode cL_inverses 34 = .ok (.iload_n 1, 1) := by decide +kernel
theorem dL_inverses_35 : decode cL_inverses 35 = .ok (.aload_n 0, 1) := by decide +kernel
theorem dL_inverses_36 : decode cL_inverses 36 = .ok (.iconst 0, 1) := by decide +kernel
theorem dL_inverses_37 : decode cL_inverses 37 = .ok (.iconst 2, 1) := by decide +kernel
theorem dL_inverses_38 : decode cL_inverses 38 = .ok (.invokevirtual 48, 3) := by decide +kernel
theorem dL_inverses_41 : decode cL_inverses 41 = .ok (.aload_n 0, 1) := by decide +kernel
theorem dL_inverses_42 : decode cL_inverses 42 = .ok (.iconst 0, 1) := by decide +kernel
theorem dL_inverses_43 : decode cL_inverses 43 = .ok (.invokevirtual 10, 3) := by decide +kernel
theorem dL_inverses_46 : decode cL_inverses 46 = .ok (.if_icmp .ne 7, 3) := by decide +kernel
theorem dL_inverses_49 : decode cL_inverses 49 = .ok (.iconst 1, 1) := by decide +kernel
theorem dL_inverses_50 : decode cL_inverses 50 = .ok (.goto 4, 3) := by decide +kernel
theorem dL_inverses_53 : decode cL_inverses 53 = .ok (.iconst 0, 1) := by decide +kernel
theorem dL_inverses_54 : decode cL_inverses 54 = .ok (.if_icmp .ne 7, 3) := by decide +kernel
theorem dL_inverses_57 : decode cL_inverses 57 = .ok (.iconst 1, 1) := by decide +kernel
theorem dL_inverses_58 : decode cL_inverses 58 = .ok (.goto 4, 3) := by decide +kernel
theorem dL_inverses_61 : decode cL_inverses 61 = .ok (.iconst 0, 1) := by decide +kernel
theorem dL_inverses_62 : decode cL_inverses 62 = .ok (.istore_n 2, 1) := by decide +kernel
theorem dL_inverses_63 : decode cL_inverses 63 = .ok (.iload_n 2, 1) := by decide +kernel
theorem dL_inverses_64 : decode cL_inverses 64 = .ok (.ifCond .eq 59, 3) := by decide +kernel
theorem dL_inverses_67 : decode cL_inverses 67 = .ok (.aload_n 0, 1) := by decide +kernel
theorem dL_inverses_68 : decode cL_inverses 68 = .ok (.ldc2_w 112, 3) := by decide +kernel
theorem dL_inverses_71 : decode cL_inverses 71 = .ok (.ldc2_w 114, 3) := by decide +kernel
theorem dL_inverses_74 : decode cL_inverses 74 = .ok (.lconst 0, 1) := by decide +kernel
theorem dL_inverses_75 : decode cL_inverses 75 = .ok (.lconst 0, 1) := by decide +kernel
theorem dL_inverses_76 : decode cL_inverses 76 = .ok (.lconst 0, 1) := by decide +kernel
theorem dL_inverses_77 : decode cL_inverses 77 = .ok (.bipush 11, 2) := by decide +kernel
theorem dL_inverses_79 : decode cL_inverses 79 = .ok (.invokestatic 61, 3) := by decide +kernel
theorem dL_inverses_82 : decode cL_inverses 82 = .ok (.ifCond .eq 41, 3) := by decide +kernel
theorem dL_inverses_85 : decode cL_inverses 85 = .ok (.aload_n 0, 1) := by decide +kernel
theorem dL_inverses_86 : decode cL_inverses 86 = .ok (.invokevirtual 106, 3) := by decide +kernel
theorem dL_inverses_89 : decode cL_inverses 89 = .ok (.iload_n 1, 1) := by decide +kernel
theorem dL_inverses_90 : decode cL_inverses 90 = .ok (.ifCond .eq 8, 3) := by decide +kernel
theorem dL_inverses_93 : decode cL_inverses 93 = .ok (.bipush (-6), 2) := by decide +kernel
theorem dL_inverses_95 : decode cL_inverses 95 = .ok (.goto 4, 3) := by decide +kernel
theorem dL_inverses_98 : decode cL_inverses 98 = .ok (.iconst 4, 1) := by decide +kernel
theorem dL_inverses_99 : decode cL_inverses 99 = .ok (.if_icmp .ne 24, 3) := by decide +kernel
theorem dL_inverses_102 : decode cL_inverses 102 = .ok (.aload_n 0, 1) := by decide +kernel
theorem dL_inverses_103 : decode cL_inverses 103 = .ok (.invokevirtual 65, 3) := by decide +kernel
theorem dL_inverses_106 : decode cL_inverses 106 = .ok (.iload_n 1, 1) := by decide +kernel
theorem dL_inverses_107 : decode cL_inverses 107 = .ok (.ifCond .eq 7, 3) := by decide +kernel
theorem dL_inverses_110 : decode cL_inverses 110 = .ok (.iconst 1, 1) := by decide +kernel
theorem dL_inverses_111 : decode cL_inverses 111 = .ok (.goto 5, 3) := by decide +kernel
theorem dL_inverses_114 : decode cL_inverses 114 = .ok (.bipush (-5), 2) := by decide +kernel
theorem dL_inverses_116 : decode cL_inverses 116 = .ok (.if_icmp .ne 7, 3) := by decide +kernel
theorem dL_inverses_119 : decode cL_inverses 119 = .ok (.iconst 1, 1) := by decide +kernel
theorem dL_inverses_120 : decode cL_inverses 120 = .ok (.goto 4, 3) := by decide +kernel
theorem dL_inverses_123 : decode cL_inverses 123 = .ok (.iconst 0, 1) := by decide +kernel
theorem dL_inverses_124 : decode cL_inverses 124 = .ok (.istore_n 2, 1) := by decide +kernel
theorem dL_inverses_125 : decode cL_inverses 125 = .ok (.iload_n 2, 1) := by decide +kernel
theorem dL_inverses_126 : decode cL_inverses 126 = .ok (.ifCond .eq 42, 3) := by decide +kernel
theorem dL_inverses_129 : decode cL_inverses 129 = .ok (.aload_n 0, 1) := by decide +kernel
theorem dL_inverses_130 : decode cL_inverses 130 = .ok (.ldc2_w 116, 3) := by decide +kernel
theorem dL_inverses_133 : decode cL_inverses 133 = .ok (.ldc2_w 118, 3) := by decide +kernel
theorem dL_inverses_136 : decode cL_inverses 136 = .ok (.lconst 0, 1) := by decide +kernel
theorem dL_inverses_137 : decode cL_inverses 137 = .ok (.lconst 0, 1) := by decide +kernel
theorem dL_inverses_138 : decode cL_inverses 138 = .ok (.lconst 0, 1) := by decide +kernel
theorem dL_inverses_139 : decode cL_inverses 139 = .ok (.bipush 11, 2) := by decide +kernel
theorem dL_inverses_141 : decode cL_inverses 141 = .ok (.invokestatic 61, 3) := by decide +kernel
theorem dL_inverses_144 : decode cL_inverses 144 = .ok (.ifCond .eq 24, 3) := by decide +kernel
theorem dL_inverses_147 : decode cL_inverses 147 = .ok (.aload_n 0, 1) := by decide +kernel
theorem dL_inverses_148 : decode cL_inverses 148 = .ok (.invokevirtual 65, 3) := by decide +kernel
theorem dL_inverses_151 : decode cL_inverses 151 = .ok (.iload_n 1, 1) := by decide +kernel
theorem dL_inverses_152 : decode cL_inverses 152 = .ok (.ifCond .eq 7, 3) := by decide +kernel
theorem dL_inverses_155 : decode cL_inverses 155 = .ok (.iconst 1, 1) := by decide +kernel
theorem dL_inverses_156 : decode cL_inverses 156 = .ok (.goto 5, 3) := by decide +kernel
theorem dL_inverses_159 : decode cL_inverses 159 = .ok (.bipush (-5), 2) := by decide +kernel
theorem dL_inverses_161 : decode cL_inverses 161 = .ok (.if_icmp .ne 7, 3) := by decide +kernel
theorem dL_inverses_164 : decode cL_inverses 164 = .ok (.iconst 1, 1) := by decide +kernel
theorem dL_inverses_165 : decode cL_inverses 165 = .ok (.goto 4, 3) := by decide +kernel
theorem dL_inverses_168 : decode cL_inverses 168 = .ok (.iconst 0, 1) := by decide +kernel
theorem dL_inverses_169 : decode cL_inverses 169 = .ok (.istore_n 2, 1) := by decide +kernel
theorem dL_inverses_170 : decode cL_inverses 170 = .ok (.iload_n 2, 1) := by decide +kernel
theorem dL_inverses_171 : decode cL_inverses 171 = .ok (.ifCond .eq 59, 3) := by decide +kernel
theorem dL_inverses_174 : decode cL_inverses 174 = .ok (.aload_n 0, 1) := by decide +kernel
theorem dL_inverses_175 : decode cL_inverses 175 = .ok (.ldc2_w 120, 3) := by decide +kernel
theorem dL_inverses_178 : decode cL_inverses 178 = .ok (.ldc2_w 122, 3) := by decide +kernel
theorem dL_inverses_181 : decode cL_inverses 181 = .ok (.lconst 0, 1) := by decide +kernel
theorem dL_inverses_182 : decode cL_inverses 182 = .ok (.lconst 0, 1) := by decide +kernel
theorem dL_inverses_183 : decode cL_inverses 183 = .ok (.lconst 0, 1) := by decide +kernel
theorem dL_inverses_184 : decode cL_inverses 184 = .ok (.bipush 9, 2) := by decide +kernel
theorem dL_inverses_186 : decode cL_inverses 186 = .ok (.invokestatic 61, 3) := by decide +kernel
theorem dL_inverses_189 : decode cL_inverses 189 = .ok (.ifCond .eq 41, 3) := by decide +kernel
theorem dL_inverses_192 : decode cL_inverses 192 = .ok (.aload_n 0, 1) := by decide +kernel
theorem dL_inverses_193 : decode cL_inverses 193 = .ok (.invokevirtual 106, 3) := by decide +kernel
theorem dL_inverses_196 : decode cL_inverses 196 = .ok (.iload_n 1, 1) := by decide +kernel
theorem dL_inverses_197 : decode cL_inverses 197 = .ok (.ifCond .eq 8, 3) := by decide +kernel
theorem dL_inverses_200 : decode cL_inverses 200 = .ok (.bipush (-6), 2) := by decide +kernel
theorem dL_inverses_202 : decode cL_inverses 202 = .ok (.goto 4, 3) := by decide +kernel
theorem dL_inverses_205 : decode cL_inverses 205 = .ok (.iconst 2, 1) := by decide +kernel
theorem dL_inverses_206 : decode cL_inverses 206 = .ok (.if_icmp .ne 24, 3) := by decide +kernel
theorem dL_inverses_209 : decode cL_inverses 209 = .ok (.aload_n 0, 1) := by decide +kernel
theorem dL_inverses_210 : decode cL_inverses 210 = .ok (.invokevirtual 65, 3) := by decide +kernel
theorem dL_inverses_213 : decode cL_inverses 213 = .ok (.iload_n 1, 1) := by decide +kernel
theorem dL_inverses_214 : decode cL_inverses 214 = .ok (.ifCond .eq 7, 3) := by decide +kernel
theorem dL_inverses_217 : decode cL_inverses 217 = .ok (.iconst 1, 1) := by decide +kernel
theorem dL_inverses_218 : decode cL_inverses 218 = .ok (.goto 5, 3) := by decide +kernel
theorem dL_inverses_221 : decode cL_inverses 221 = .ok (.bipush (-5), 2) := by decide +kernel
theorem dL_inverses_223 : decode cL_inverses 223 = .ok (.if_icmp .ne 7, 3) := by decide +kernel
theorem dL_inverses_226 : decode cL_inverses 226 = .ok (.iconst 1, 1) := by decide +kernel
theorem dL_inverses_227 : decode cL_inverses 227 = .ok (.goto 4, 3) := by decide +kernel
theorem dL_inverses_230 : decode cL_inverses 230 = .ok (.iconst 0, 1) := by decide +kernel
theorem dL_inverses_231 : decode cL_inverses 231 = .ok (.istore_n 2, 1) := by decide +kernel
theorem dL_inverses_232 : decode cL_inverses 232 = .ok (.aload_n 0, 1) := by decide +kernel
theorem dL_inverses_233 : decode cL_inverses 233 = .ok (.iconst 0, 1) := by decide +kernel
theorem dL_inverses_234 : decode cL_inverses 234 = .ok (.iconst 5, 1) := by decide +kernel
theorem dL_inverses_235 : decode cL_inverses 235 = .ok (.invokevirtual 48, 3) := by decide +kernel
theorem dL_inverses_238 : decode cL_inverses 238 = .ok (.istore_n 3, 1) := by decide +kernel
theorem dL_inverses_239 : decode cL_inverses 239 = .ok (.iload_n 2, 1) := by decide +kernel
theorem dL_inverses_240 : decode cL_inverses 240 = .ok (.ifCond .eq 48, 3) := by decide +kernel
theorem dL_inverses_243 : decode cL_inverses 243 = .ok (.iload_n 1, 1) := by decide +kernel
theorem dL_inverses_244 : decode cL_inverses 244 = .ok (.ifCond .ne 9, 3) := by decide +kernel
theorem dL_inverses_247 : decode cL_inverses 247 = .ok (.iload_n 3, 1) := by decide +kernel
theorem dL_inverses_248 : decode cL_inverses 248 = .ok (.bipush (-6), 2) := by decide +kernel
theorem dL_inverses_250 : decode cL_inverses 250 = .ok (.if_icmp .ne 38, 3) := by decide +kernel
theorem dL_inverses_253 : decode cL_inverses 253 = .ok (.iload_n 3, 1) := by decide +kernel
theorem dL_inverses_254 : decode cL_inverses 254 = .ok (.bipush (-6), 2) := by decide +kernel
theorem dL_inverses_256 : decode cL_inverses 256 = .ok (.if_icmp .eq 28, 3) := by decide +kernel
theorem dL_inverses_259 : decode cL_inverses 259 = .ok (.aload_n 0, 1) := by decide +kernel
theorem dL_inverses_260 : decode cL_inverses 260 = .ok (.iconst 0, 1) := by decide +kernel
theorem dL_inverses_261 : decode cL_inverses 261 = .ok (.iload_n 3, 1) := by decide +kernel
theorem dL_inverses_262 : decode cL_inverses 262 = .ok (.invokestatic 124, 3) := by decide +kernel
theorem dL_inverses_265 : decode cL_inverses 265 = .ok (.ifCond .eq 23, 3) := by decide +kernel
theorem dL_inverses_268 : decode cL_inverses 268 = .ok (.iload_n 3, 1) := by decide +kernel
theorem dL_inverses_269 : decode cL_inverses 269 = .ok (.iconst 1, 1) := by decide +kernel
theorem dL_inverses_270 : decode cL_inverses 270 = .ok (.if_icmp .eq 14, 3) := by decide +kernel
theorem dL_inverses_273 : decode cL_inverses 273 = .ok (.aload_n 0, 1) := by decide +kernel
theorem dL_inverses_274 : decode cL_inverses 274 = .ok (.iconst 0, 1) := by decide +kernel
theorem dL_inverses_275 : decode cL_inverses 275 = .ok (.iload_n 3, 1) := by decide +kernel
theorem dL_inverses_276 : decode cL_inverses 276 = .ok (.iconst 1, 1) := by decide +kernel
theorem dL_inverses_277 : decode cL_inverses 277 = .ok (.isub, 1) := by decide +kernel
theorem dL_inverses_278 : decode cL_inverses 278 = .ok (.invokestatic 124, 3) := by decide +kernel
theorem dL_inverses_281 : decode cL_inverses 281 = .ok (.ifCond .ne 7, 3) := by decide +kernel
theorem dL_inverses_284 : decode cL_inverses 284 = .ok (.iconst 1, 1) := by decide +kernel
theorem dL_inverses_285 : decode cL_inverses 285 = .ok (.goto 4, 3) := by decide +kernel
theorem dL_inverses_288 : decode cL_inverses 288 = .ok (.iconst 0, 1) := by decide +kernel
theorem dL_inverses_289 : decode cL_inverses 289 = .ok (.ireturn, 1) := by decide +kernel
