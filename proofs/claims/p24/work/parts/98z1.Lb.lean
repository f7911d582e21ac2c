theorem dL_isUnit_0 : decode cL_isUnit 0 = .ok (.iconst 1, 1) := by decide +kernel
theorem dL_isUnit_1 : decode cL_isUnit 1 = .ok (.istore_n 3, 1) := by decide +kernel
theorem dL_isUnit_2 : decode cL_isUnit 2 = .ok (.iconst 0, 1) := by decide +kernel
theorem dL_isUnit_3 : decode cL_isUnit 3 = .ok (.istore 4, 2) := by decide +kernel
theorem dL_isUnit_5 : decode cL_isUnit 5 = .ok (.iload 4, 2) := by decide +kernel
theorem dL_isUnit_7 : decode cL_isUnit 7 = .ok (.aload_n 0, 1) := by decide +kernel
theorem dL_isUnit_8 : decode cL_isUnit 8 = .ok (.iconst 0, 1) := by decide +kernel
theorem dL_isUnit_9 : decode cL_isUnit 9 = .ok (.invokevirtual 10, 3) := by decide +kernel
theorem dL_isUnit_12 : decode cL_isUnit 12 = .ok (.if_icmp .ge 61, 3) := by decide +kernel
theorem dL_isUnit_15 : decode cL_isUnit 15 = .ok (.iconst 0, 1) := by decide +kernel
theorem dL_isUnit_16 : decode cL_isUnit 16 = .ok (.istore 5, 2) := by decide +kernel
theorem dL_isUnit_18 : decode cL_isUnit 18 = .ok (.iload 5, 2) := by decide +kernel
theorem dL_isUnit_20 : decode cL_isUnit 20 = .ok (.aload_n 0, 1) := by decide +kernel
theorem dL_isUnit_21 : decode cL_isUnit 21 = .ok (.iconst 0, 1) := by decide +kernel
theorem dL_isUnit_22 : decode cL_isUnit 22 = .ok (.invokevirtual 10, 3) := by decide +kernel
theorem dL_isUnit_25 : decode cL_isUnit 25 = .ok (.if_icmp .ge 42, 3) := by decide +kernel
theorem dL_isUnit_28 : decode cL_isUnit 28 = .ok (.iload_n 3, 1) := by decide +kernel
theorem dL_isUnit_29 : decode cL_isUnit 29 = .ok (.ifCond .eq 30, 3) := by decide +kernel
theorem dL_isUnit_32 : decode cL_isUnit 32 = .ok (.aload_n 0, 1) := by decide +kernel
theorem dL_isUnit_33 : decode cL_isUnit 33 = .ok (.iload_n 1, 1) := by decide +kernel
theorem dL_isUnit_34 : decode cL_isUnit 34 = .ok (.iload_n 2, 1) := by decide +kernel
theorem dL_isUnit_35 : decode cL_isUnit 35 = .ok (.iload 4, 2) := by decide +kernel
theorem dL_isUnit_37 : decode cL_isUnit 37 = .ok (.iload 5, 2) := by decide +kernel
theorem dL_isUnit_39 : decode cL_isUnit 39 = .ok (.invokevirtual 128, 3) := by decide +kernel
theorem dL_isUnit_42 : decode cL_isUnit 42 = .ok (.aload_n 0, 1) := by decide +kernel
theorem dL_isUnit_43 : decode cL_isUnit 43 = .ok (.bipush 9, 2) := by decide +kernel
theorem dL_isUnit_45 : decode cL_isUnit 45 = .ok (.iload 4, 2) := by decide +kernel
theorem dL_isUnit_47 : decode cL_isUnit 47 = .ok (.iload 5, 2) := by decide +kernel
theorem dL_isUnit_49 : decode cL_isUnit 49 = .ok (.invokevirtual 44, 3) := by decide +kernel
theorem dL_isUnit_52 : decode cL_isUnit 52 = .ok (.if_icmp .ne 7, 3) := by decide +kernel
theorem dL_isUnit_55 : decode cL_isUnit 55 = .ok (.iconst 1, 1) := by decide +kernel
theorem dL_isUnit_56 : decode cL_isUnit 56 = .ok (.goto 4, 3) := by decide +kernel
theorem dL_isUnit_59 : decode cL_isUnit 59 = .ok (.iconst 0, 1) := by decide +kernel
theorem dL_isUnit_60 : decode cL_isUnit 60 = .ok (.istore_n 3, 1) := by decide +kernel
theorem dL_isUnit_61 : decode cL_isUnit 61 = .ok (.iinc 5 1, 3) := by decide +kernel
theorem dL_isUnit_64 : decode cL_isUnit 64 = .ok (.goto (-46), 3) := by decide +kernel
theorem dL_isUnit_67 : decode cL_isUnit 67 = .ok (.iinc 4 1, 3) := by decide +kernel
theorem dL_isUnit_70 : decode cL_isUnit 70 = .ok (.goto (-65), 3) := by decide +kernel
theorem dL_isUnit_73 : decode cL_isUnit 73 = .ok (.iload_n 3, 1) := by decide +kernel
theorem dL_isUnit_74 : decode cL_isUnit 74 = .ok (.ireturn, 1) := by decide +kernel
theorem dL_powers_0 : decode cL_powers 0 = .ok (.aload_n 0, 1) := by decide +kernel
theorem dL_powers_1 : decode cL_powers 1 = .ok (.iconst 1, 1) := by decide +kernel
theorem dL_powers_2 : decode cL_powers 2 = .ok (.iconst 0, 1) := by decide +kernel
theorem dL_powers_3 : decode cL_powers 3 = .ok (.invokestatic 124, 3) := by decide +kernel
theorem dL_powers_6 : decode cL_powers 6 = .ok (.istore_n 1, 1) := by decide +kernel
theorem dL_powers_7 : decode cL_powers 7 = .ok (.aload_n 0, 1) := by decide +kernel
theorem dL_powers_8 : decode cL_powers 8 = .ok (.iconst 1, 1) := by decide +kernel
theorem dL_powers_9 : decode cL_powers 9 = .ok (.bipush 7, 2) := by decide +kernel
theorem dL_powers_11 : decode cL_powers 11 = .ok (.invokevirtual 48, 3) := by decide +kernel
theorem dL_powers_14 : decode cL_powers 14 = .ok (.istore_n 2, 1) := by decide +kernel
theorem dL_powers_15 : decode cL_powers 15 = .ok (.iconst 1, 1) := by decide +kernel
theorem dL_powers_16 : decode cL_powers 16 = .ok (.istore_n 3, 1) := by decide +kernel
theorem dL_powers_17 : decode cL_powers 17 = .ok (.iload_n 3, 1) := by decide +kernel
theorem dL_powers_18 : decode cL_powers 18 = .ok (.bipush 12, 2) := by decide +kernel
theorem dL_powers_20 : decode cL_powers 20 = .ok (.if_icmp .ge 151, 3) := by decide +kernel
theorem dL_powers_23 : decode cL_powers 23 = .ok (.iload_n 1, 1) := by decide +kernel
theorem dL_powers_24 : decode cL_powers 24 = .ok (.ifCond .eq 147, 3) := by decide +kernel
theorem dL_powers_27 : decode cL_powers 27 = .ok (.iconst 0, 1) := by decide +kernel
theorem dL_powers_28 : decode cL_powers 28 = .ok (.istore 4, 2) := by decide +kernel
theorem dL_powers_30 : decode cL_powers 30 = .ok (.iconst 0, 1) := by decide +kernel
theorem dL_powers_31 : decode cL_powers 31 = .ok (.istore 5, 2) := by decide +kernel
theorem dL_powers_33 : decode cL_powers 33 = .ok (.iload 5, 2) := by decide +kernel
theorem dL_powers_35 : decode cL_powers 35 = .ok (.aload_n 0, 1) := by decide +kernel
theorem dL_powers_36 : decode cL_powers 36 = .ok (.iconst 0, 1) := by decide +kernel
theorem dL_powers_37 : decode cL_powers 37 = .ok (.invokevirtual 10, 3) := by decide +kernel
theorem dL_powers_40 : decode cL_powers 40 = .ok (.if_icmp .ge 80, 3) := by decide +kernel
theorem dL_powers_43 : decode cL_powers 43 = .ok (.iconst 0, 1) := by decide +kernel
theorem dL_powers_44 : decode cL_powers 44 = .ok (.istore 6, 2) := by decide +kernel
theorem dL_powers_46 : decode cL_powers 46 = .ok (.iload 6, 2) := by decide +kernel
theorem dL_powers_48 : decode cL_powers 48 = .ok (.aload_n 0, 1) := by decide +kernel
theorem dL_powers_49 : decode cL_powers 49 = .ok (.iconst 0, 1) := by decide +kernel
theorem dL_powers_50 : decode cL_powers 50 = .ok (.invokevirtual 10, 3) := by decide +kernel
theorem dL_powers_53 : decode cL_powers 53 = .ok (.if_icmp .ge 61, 3) := by decide +kernel
theorem dL_powers_56 : decode cL_powers 56 = .ok (.iload 4, 2) := by decide +kernel
theorem dL_powers_58 : decode cL_powers 58 = .ok (.aload_n 0, 1) := by decide +kernel
theorem dL_powers_59 : decode cL_powers 59 = .ok (.iconst 1, 1) := by decide +kernel
theorem dL_powers_60 : decode cL_powers 60 = .ok (.iload_n 3, 1) := by decide +kernel
theorem dL_powers_61 : decode cL_powers 61 = .ok (.iload 5, 2) := by decide +kernel
theorem dL_powers_63 : decode cL_powers 63 = .ok (.iload 6, 2) := by decide +kernel
theorem dL_powers_65 : decode cL_powers 65 = .ok (.invokevirtual 128, 3) := by decide +kernel
theorem dL_powers_68 : decode cL_powers 68 = .ok (.ior, 1) := by decide +kernel
theorem dL_powers_69 : decode cL_powers 69 = .ok (.istore 4, 2) := by decide +kernel
theorem dL_powers_71 : decode cL_powers 71 = .ok (.iload_n 1, 1) := by decide +kernel
theorem dL_powers_72 : decode cL_powers 72 = .ok (.ifCond .eq 34, 3) := by decide +kernel
theorem dL_powers_75 : decode cL_powers 75 = .ok (.iload_n 3, 1) := by decide +kernel
theorem dL_powers_76 : decode cL_powers 76 = .ok (.iconst 1, 1) := by decide +kernel
theorem dL_powers_77 : decode cL_powers 77 = .ok (.if_icmp .gt 25, 3) := by decide +kernel
theorem dL_powers_80 : decode cL_powers 80 = .ok (.aload_n 0, 1) := by decide +kernel
theorem dL_powers_81 : decode cL_powers 81 = .ok (.iconst 1, 1) := by decide +kernel
theorem dL_powers_82 : decode cL_powers 82 = .ok (.iconst 1, 1) := by decide +kernel
theorem dL_powers_83 : decode cL_powers 83 = .ok (.iload 5, 2) := by decide +kernel
theorem dL_powers_85 : decode cL_powers 85 = .ok (.iload 6, 2) := by decide +kernel
theorem dL_powers_87 : decode cL_powers 87 = .ok (.invokevirtual 128, 3) := by decide +kernel
theorem dL_powers_90 : decode cL_powers 90 = .ok (.aload_n 0, 1) := by decide +kernel
theorem dL_powers_91 : decode cL_powers 91 = .ok (.iconst 1, 1) := by decide +kernel
theorem dL_powers_92 : decode cL_powers 92 = .ok (.iload 5, 2) := by decide +kernel
theorem dL_powers_94 : decode cL_powers 94 = .ok (.iload 6, 2) := by decide +kernel
theorem dL_powers_96 : decode cL_powers 96 = .ok (.invokevirtual 44, 3) := by decide +kernel
theorem dL_powers_99 : decode cL_powers 99 = .ok (.if_icmp .ne 7, 3) := by decide +kernel
theorem dL_powers_102 : decode cL_powers 102 = .ok (.iconst 1, 1) := by decide +kernel
theorem dL_powers_103 : decode cL_powers 103 = .ok (.goto 4, 3) := by decide +kernel
theorem dL_powers_106 : decode cL_powers 106 = .ok (.iconst 0, 1) := by decide +kernel
theorem dL_powers_107 : decode cL_powers 107 = .ok (.istore_n 1, 1) := by decide +kernel
theorem dL_powers_108 : decode cL_powers 108 = .ok (.iinc 6 1, 3) := by decide +kernel
theorem dL_powers_111 : decode cL_powers 111 = .ok (.goto (-65), 3) := by decide +kernel
theorem dL_powers_114 : decode cL_powers 114 = .ok (.iinc 5 1, 3) := by decide +kernel
theorem dL_powers_117 : decode cL_powers 117 = .ok (.goto (-84), 3) := by decide +kernel
theorem dL_powers_120 : decode cL_powers 120 = .ok (.iload_n 1, 1) := by decide +kernel
theorem dL_powers_121 : decode cL_powers 121 = .ok (.ifCond .eq 42, 3) := by decide +kernel
theorem dL_powers_124 : decode cL_powers 124 = .ok (.iload_n 3, 1) := by decide +kernel
theorem dL_powers_125 : decode cL_powers 125 = .ok (.bipush 10, 2) := by decide +kernel
theorem dL_powers_127 : decode cL_powers 127 = .ok (.if_icmp .gt 32, 3) := by decide +kernel
theorem dL_powers_130 : decode cL_powers 130 = .ok (.iload 4, 2) := by decide +kernel
theorem dL_powers_132 : decode cL_powers 132 = .ok (.ifCond .ne 7, 3) := by decide +kernel
theorem dL_powers_135 : decode cL_powers 135 = .ok (.iconst 1, 1) := by decide +kernel
theorem dL_powers_136 : decode cL_powers 136 = .ok (.goto 4, 3) := by decide +kernel
theorem dL_powers_139 : decode cL_powers 139 = .ok (.iconst 0, 1) := by decide +kernel
theorem dL_powers_140 : decode cL_powers 140 = .ok (.iload_n 2, 1) := by decide +kernel
theorem dL_powers_141 : decode cL_powers 141 = .ok (.bipush (-6), 2) := by decide +kernel
theorem dL_powers_143 : decode cL_powers 143 = .ok (.if_icmp .eq 12, 3) := by decide +kernel
theorem dL_powers_146 : decode cL_powers 146 = .ok (.iload_n 3, 1) := by decide +kernel
theorem dL_powers_147 : decode cL_powers 147 = .ok (.iload_n 2, 1) := by decide +kernel
theorem dL_powers_148 : decode cL_powers 148 = .ok (.if_icmp .lt 7, 3) := by decide +kernel
theorem dL_powers_151 : decode cL_powers 151 = .ok (.iconst 1, 1) := by decide +kernel
theorem dL_powers_152 : decode cL_powers 152 = .ok (.goto 4, 3) := by decide +kernel
theorem dL_powers_155 : decode cL_powers 155 = .ok (.iconst 0, 1) := by decide +kernel
theorem dL_powers_156 : decode cL_powers 156 = .ok (.if_icmp .ne 7, 3) := by decide +kernel
theorem dL_powers_159 : decode cL_powers 159 = .ok (.iconst 1, 1) := by decide +kernel
theorem dL_powers_160 : decode cL_powers 160 = .ok (.goto 4, 3) := by decide +kernel
theorem dL_powers_163 : decode cL_powers 163 = .ok (.iconst 0, 1) := by decide +kernel
theorem dL_powers_164 : decode cL_powers 164 = .ok (.istore_n 1, 1) := by decide +kernel
theorem dL_powers_165 : decode cL_powers 165 = .ok (.iinc 3 1, 3) := by decide +kernel
theorem dL_powers_168 : decode cL_powers 168 = .ok (.goto (-151), 3) := by decide +kernel
theorem dL_powers_171 : decode cL_powers 171 = .ok (.aload_n 0, 1) := by decide +kernel
theorem dL_powers_172 : decode cL_powers 172 = .ok (.iconst 1, 1) := by decide +kernel
theorem dL_powers_173 : decode cL_powers 173 = .ok (.bipush 6, 2) := by decide +kernel
theorem dL_powers_175 : decode cL_powers 175 = .ok (.invokevirtual 48, 3) := by decide +kernel
theorem dL_powers_178 : decode cL_powers 178 = .ok (.istore_n 3, 1) := by decide +kernel
theorem dL_powers_179 : decode cL_powers 179 = .ok (.iload_n 1, 1) := by decide +kernel
theorem dL_powers_180 : decode cL_powers 180 = .ok (.ifCond .eq 41, 3) := by decide +kernel
theorem dL_powers_183 : decode cL_powers 183 = .ok (.iload_n 3, 1) := by decide +kernel
theorem dL_powers_184 : decode cL_powers 184 = .ok (.iconst 1, 1) := by decide +kernel
theorem dL_powers_185 : decode cL_powers 185 = .ok (.if_icmp .lt 36, 3) := by decide +kernel
theorem dL_powers_188 : decode cL_powers 188 = .ok (.iload_n 3, 1) := by decide +kernel
theorem dL_powers_189 : decode cL_powers 189 = .ok (.aload_n 0, 1) := by decide +kernel
theorem dL_powers_190 : decode cL_powers 190 = .ok (.iconst 0, 1) := by decide +kernel
theorem dL_powers_191 : decode cL_powers 191 = .ok (.invokevirtual 10, 3) := by decide +kernel
theorem dL_powers_194 : decode cL_powers 194 = .ok (.if_icmp .gt 27, 3) := by decide +kernel
theorem dL_powers_197 : decode cL_powers 197 = .ok (.iload_n 2, 1) := by decide +kernel
theorem dL_powers_198 : decode cL_powers 198 = .ok (.bipush (-6), 2) := by decide +kernel
theorem dL_powers_200 : decode cL_powers 200 = .ok (.if_icmp .eq 17, 3) := by decide +kernel
theorem dL_powers_203 : decode cL_powers 203 = .ok (.iload_n 2, 1) := by decide +kernel
theorem dL_powers_204 : decode cL_powers 204 = .ok (.iload_n 3, 1) := by decide +kernel
theorem dL_powers_205 : decode cL_powers 205 = .ok (.if_icmp .gt 16, 3) := by decide +kernel
theorem dL_powers_208 : decode cL_powers 208 = .ok (.aload_n 0, 1) := by decide +kernel
theorem dL_powers_209 : decode cL_powers 209 = .ok (.iconst 1, 1) := by decide +kernel
theorem dL_powers_210 : decode cL_powers 210 = .ok (.iconst 4, 1) := by decide +kernel
theorem dL_powers_211 : decode cL_powers 211 = .ok (.invokevirtual 48, 3) := by decide +kernel
theorem dL_powers_214 : decode cL_powers 214 = .ok (.ifCond .ne 7, 3) := by decide +kernel
theorem dL_powers_217 : decode cL_powers 217 = .ok (.iconst 1, 1) := by decide +kernel
theorem dL_powers_218 : decode cL_powers 218 = .ok (.goto 4, 3) := by decide +kernel
theorem dL_powers_221 : decode cL_powers 221 = .ok (.iconst 0, 1) := by decide +kernel
theorem dL_powers_222 : decode cL_powers 222 = .ok (.ireturn, 1) := by decide +kernel
theorem dL_squares_0 : decode cL_squares 0 = .ok (.iload_n 1, 1) := by decide +kernel
theorem dL_squares_1 : decode cL_squares 1 = .ok (.aload_n 0, 1) := by decide +kernel
theorem dL_squares_2 : decode cL_squares 2 = .ok (.iconst 0, 1) := by decide +kernel
theorem dL_squares_3 : decode cL_squares 3 = .ok (.invokevirtual 10, 3) := by decide +kernel
theorem dL_squares_6 : decode cL_squares 6 = .ok (.invokestatic 33, 3) := by decide +kernel
theorem dL_squares_9 : decode cL_squares 9 = .ok (.istore_n 2, 1) := by decide +kernel
theorem dL_squares_10 : decode cL_squares 10 = .ok (.aload_n 0, 1) := by decide +kernel
theorem dL_squares_11 : decode cL_squares 11 = .ok (.bipush 8, 2) := by decide +kernel
theorem dL_squares_13 : decode cL_squares 13 = .ok (.iload_n 2, 1) := by decide +kernel
theorem dL_squares_14 : decode cL_squares 14 = .ok (.iload_n 2, 1) := by decide +kernel
theorem dL_squares_15 : decode cL_squares 15 = .ok (.invokevirtual 44, 3) := by decide +kernel
theorem dL_squares_18 : decode cL_squares 18 = .ok (.istore_n 3, 1) := by decide +kernel
theorem dL_squares_19 : decode cL_squares 19 = .ok (.iconst 0, 1) := by decide +kernel
theorem dL_squares_20 : decode cL_squares 20 = .ok (.istore 4, 2) := by decide +kernel
theorem dL_squares_22 : decode cL_squares 22 = .ok (.iconst 1, 1) := by decide +kernel
theorem dL_squares_23 : decode cL_squares 23 = .ok (.istore 5, 2) := by decide +kernel
theorem dL_squares_25 : decode cL_squares 25 = .ok (.iload 5, 2) := by decide +kernel
theorem dL_squares_27 : decode cL_squares 27 = .ok (.aload_n 0, 1) := by decide +kernel
theorem dL_squares_28 : decode cL_squares 28 = .ok (.iconst 1, 1) := by decide +kernel
theorem dL_squares_29 : decode cL_squares 29 = .ok (.invokevirtual 10, 3) := by decide +kernel
theorem dL_squares_32 : decode cL_squares 32 = .ok (.if_icmp .ge 32, 3) := by decide +kernel
theorem dL_squares_35 : decode cL_squares 35 = .ok (.iload 5, 2) := by decide +kernel
theorem dL_squares_37 : decode cL_squares 37 = .ok (.iload_n 3, 1) := by decide +kernel
theorem dL_squares_38 : decode cL_squares 38 = .ok (.imul, 1) := by decide +kernel
theorem dL_squares_39 : decode cL_squares 39 = .ok (.aload_n 0, 1) := by decide +kernel
theorem dL_squares_40 : decode cL_squares 40 = .ok (.iconst 1, 1) := by decide +kernel
theorem dL_squares_41 : decode cL_squares 41 = .ok (.invokevirtual 10, 3) := by decide +kernel
theorem dL_squares_44 : decode cL_squares 44 = .ok (.irem, 1) := by decide +kernel
theorem dL_squares_45 : decode cL_squares 45 = .ok (.iconst 1, 1) := by decide +kernel
theorem dL_squares_46 : decode cL_squares 46 = .ok (.if_icmp .ne 8, 3) := by decide +kernel
theorem dL_squares_49 : decode cL_squares 49 = .ok (.iload 5, 2) := by decide +kernel
theorem dL_squares_51 : decode cL_squares 51 = .ok (.goto 5, 3) := by decide +kernel
theorem dL_squares_54 : decode cL_squares 54 = .ok (.iload 4, 2) := by decide +kernel
theorem dL_squares_56 : decode cL_squares 56 = .ok (.istore 4, 2) := by decide +kernel
theorem dL_squares_58 : decode cL_squares 58 = .ok (.iinc 5 1, 3) := by decide +kernel
theorem dL_squares_61 : decode cL_squares 61 = .ok (.goto (-36), 3) := by decide +kernel
theorem dL_squares_64 : decode cL_squares 64 = .ok (.aload_n 0, 1) := by decide +kernel
theorem dL_squares_65 : decode cL_squares 65 = .ok (.iconst 4, 1) := by decide +kernel
theorem dL_squares_66 : decode cL_squares 66 = .ok (.iload_n 2, 1) := by decide +kernel
theorem dL_squares_67 : decode cL_squares 67 = .ok (.iload_n 2, 1) := by decide +kernel
theorem dL_squares_68 : decode cL_squares 68 = .ok (.iload 4, 2) := by decide +kernel
theorem dL_squares_70 : decode cL_squares 70 = .ok (.invokevirtual 40, 3) := by decide +kernel
theorem dL_squares_73 : decode cL_squares 73 = .ok (.ifCond .lt 54, 3) := by decide +kernel
theorem dL_squares_76 : decode cL_squares 76 = .ok (.aload_n 0, 1) := by decide +kernel
theorem dL_squares_77 : decode cL_squares 77 = .ok (.iconst 4, 1) := by decide +kernel
theorem dL_squares_78 : decode cL_squares 78 = .ok (.iconst 3, 1) := by decide +kernel
theorem dL_squares_79 : decode cL_squares 79 = .ok (.invokevirtual 48, 3) := by decide +kernel
theorem dL_squares_82 : decode cL_squares 82 = .ok (.iconst 1, 1) := by decide +kernel
theorem dL_squares_83 : decode cL_squares 83 = .ok (.if_icmp .ne 44, 3) := by decide +kernel
theorem dL_squares_86 : decode cL_squares 86 = .ok (.aload_n 0, 1) := by decide +kernel
theorem dL_squares_87 : decode cL_squares 87 = .ok (.iconst 3, 1) := by decide +kernel
theorem dL_squares_88 : decode cL_squares 88 = .ok (.invokevirtual 10, 3) := by decide +kernel
theorem dL_squares_91 : decode cL_squares 91 = .ok (.iconst 4, 1) := by decide +kernel
theorem dL_squares_92 : decode cL_squares 92 = .ok (.ishr, 1) := by decide +kernel
theorem dL_squares_93 : decode cL_squares 93 = .ok (.iconst 1, 1) := by decide +kernel
theorem dL_squares_94 : decode cL_squares 94 = .ok (.iand, 1) := by decide +kernel
theorem dL_squares_95 : decode cL_squares 95 = .ok (.iconst 1, 1) := by decide +kernel
theorem dL_squares_96 : decode cL_squares 96 = .ok (.if_icmp .ne 31, 3) := by decide +kernel
theorem dL_squares_99 : decode cL_squares 99 = .ok (.aload_n 0, 1) := by decide +kernel
theorem dL_squares_100 : decode cL_squares 100 = .ok (.ldc2_w 131, 3) := by decide +kernel
theorem dL_squares_103 : decode cL_squares 103 = .ok (.lconst 0, 1) := by decide +kernel
theorem dL_squares_104 : decode cL_squares 104 = .ok (.lconst 0, 1) := by decide +kernel
theorem dL_squares_105 : decode cL_squares 105 = .ok (.lconst 0, 1) := by decide +kernel
theorem dL_squares_106 : decode cL_squares 106 = .ok (.lconst 0, 1) := by decide +kernel
theorem dL_squares_107 : decode cL_squares 107 = .ok (.bipush 8, 2) := by decide +kernel
theorem dL_squares_109 : decode cL_squares 109 = .ok (.invokestatic 61, 3) := by decide +kernel
theorem dL_squares_112 : decode cL_squares 112 = .ok (.ifCond .eq 15, 3) := by decide +kernel
theorem dL_squares_115 : decode cL_squares 115 = .ok (.aload_n 0, 1) := by decide +kernel
theorem dL_squares_116 : decode cL_squares 116 = .ok (.invokevirtual 65, 3) := by decide +kernel
theorem dL_squares_119 : decode cL_squares 119 = .ok (.iconst 1, 1) := by decide +kernel
theorem dL_squares_120 : decode cL_squares 120 = .ok (.if_icmp .ne 7, 3) := by decide +kernel
theorem dL_squares_123 : decode cL_squares 123 = .ok (.iconst 1, 1) := by decide +kernel
theorem dL_squares_124 : decode cL_squares 124 = .ok (.goto 4, 3) := by decide +kernel
theorem dL_squares_127 : decode cL_squares 127 = .ok (.iconst 0, 1) := by decide +kernel
theorem dL_squares_128 : decode cL_squares 128 = .ok (.istore 5, 2) := by decide +kernel
theorem dL_squares_130 : decode cL_squares 130 = .ok (.aload_n 0, 1) := by decide +kernel
theorem dL_squares_131 : decode cL_squares 131 = .ok (.iconst 5, 1) := by decide +kernel
theorem dL_squares_132 : decode cL_squares 132 = .ok (.invokevirtual 10, 3) := by decide +kernel
theorem dL_squares_135 : decode cL_squares 135 = .ok (.istore 6, 2) := by decide +kernel
theorem dL_squares_137 : decode cL_squares 137 = .ok (.aload_n 0, 1) := by decide +kernel
theorem dL_squares_138 : decode cL_squares 138 = .ok (.iconst 4, 1) := by decide +kernel
theorem dL_squares_139 : decode cL_squares 139 = .ok (.iconst 1, 1) := by decide +kernel
theorem dL_squares_140 : decode cL_squares 140 = .ok (.iconst 5, 1) := by decide +kernel
theorem dL_squares_141 : decode cL_squares 141 = .ok (.invokevirtual 133, 3) := by decide +kernel
theorem dL_squares_144 : decode cL_squares 144 = .ok (.istore 7, 2) := by decide +kernel
theorem dL_squares_146 : decode cL_squares 146 = .ok (.iload 5, 2) := by decide +kernel
theorem dL_squares_148 : decode cL_squares 148 = .ok (.ifCond .eq 42, 3) := by decide +kernel
theorem dL_squares_151 : decode cL_squares 151 = .ok (.iload 7, 2) := by decide +kernel
theorem dL_squares_153 : decode cL_squares 153 = .ok (.ifCond .lt 37, 3) := by decide +kernel
theorem dL_squares_156 : decode cL_squares 156 = .ok (.iload 7, 2) := by decide +kernel
theorem dL_squares_158 : decode cL_squares 158 = .ok (.iconst 3, 1) := by decide +kernel
theorem dL_squares_159 : decode cL_squares 159 = .ok (.if_icmp .gt 31, 3) := by decide +kernel
theorem dL_squares_162 : decode cL_squares 162 = .ok (.aload_n 0, 1) := by decide +kernel
theorem dL_squares_163 : decode cL_squares 163 = .ok (.iconst 5, 1) := by decide +kernel
theorem dL_squares_164 : decode cL_squares 164 = .ok (.invokevirtual 10, 3) := by decide +kernel
theorem dL_squares_167 : decode cL_squares 167 = .ok (.iload 6, 2) := by decide +kernel
theorem dL_squares_169 : decode cL_squares 169 = .ok (.bipush 6, 2) := by decide +kernel
theorem dL_squares_171 : decode cL_squares 171 = .ok (.if_icmp .ge 10, 3) := by decide +kernel
theorem dL_squares_174 : decode cL_squares 174 = .ok (.iload 6, 2) := by decide +kernel
theorem dL_squares_176 : decode cL_squares 176 = .ok (.iconst 1, 1) := by decide +kernel
theorem dL_squares_177 : decode cL_squares 177 = .ok (.iadd, 1) := by decide +kernel
theorem dL_squares_178 : decode cL_squares 178 = .ok (.goto 5, 3) := by decide +kernel
theorem dL_squares_181 : decode cL_squares 181 = .ok (.bipush 6, 2) := by decide +kernel
theorem dL_squares_183 : decode cL_squares 183 = .ok (.if_icmp .ne 7, 3) := by decide +kernel
theorem dL_squares_186 : decode cL_squares 186 = .ok (.iconst 1, 1) := by decide +kernel
theorem dL_squares_187 : decode cL_squares 187 = .ok (.goto 4, 3) := by decide +kernel
theorem dL_squares_190 : decode cL_squares 190 = .ok (.iconst 0, 1) := by decide +kernel
theorem dL_squares_191 : decode cL_squares 191 = .ok (.istore 5, 2) := by decide +kernel
theorem dL_squares_193 : decode cL_squares 193 = .ok (.aload_n 0, 1) := by decide +kernel
theorem dL_squares_194 : decode cL_squares 194 = .ok (.iconst 2, 1) := by decide +kernel
theorem dL_squares_195 : decode cL_squares 195 = .ok (.invokevirtual 10, 3) := by decide +kernel
theorem dL_squares_198 : decode cL_squares 198 = .ok (.iconst 5, 1) := by decide +kernel
theorem dL_squares_199 : decode cL_squares 199 = .ok (.ishr, 1) := by decide +kernel
theorem dL_squares_200 : decode cL_squares 200 = .ok (.iconst 1, 1) := by decide +kernel
theorem dL_squares_201 : decode cL_squares 201 = .ok (.iand, 1) := by decide +kernel
theorem dL_squares_202 : decode cL_squares 202 = .ok (.aload_n 0, 1) := by decide +kernel
theorem dL_squares_203 : decode cL_squares 203 = .ok (.iconst 2, 1) := by decide +kernel
theorem dL_squares_204 : decode cL_squares 204 = .ok (.invokevirtual 10, 3) := by decide +kernel
theorem dL_squares_207 : decode cL_squares 207 = .ok (.bipush 6, 2) := by decide +kernel
theorem dL_squares_209 : decode cL_squares 209 = .ok (.ishr, 1) := by decide +kernel
theorem dL_squares_210 : decode cL_squares 210 = .ok (.iconst 1, 1) := by decide +kernel
theorem dL_squares_211 : decode cL_squares 211 = .ok (.iand, 1) := by decide +kernel
theorem dL_squares_212 : decode cL_squares 212 = .ok (.iadd, 1) := by decide +kernel
theorem dL_squares_213 : decode cL_squares 213 = .ok (.aload_n 0, 1) := by decide +kernel
theorem dL_squares_214 : decode cL_squares 214 = .ok (.iconst 2, 1) := by decide +kernel
theorem dL_squares_215 : decode cL_squares 215 = .ok (.invokevirtual 10, 3) := by decide +kernel
theorem dL_squares_218 : decode cL_squares 218 = .ok (.bipush 7, 2) := by decide +kernel
theorem dL_squares_220 : decode cL_squares 220 = .ok (.ishr, 1) := by decide +kernel
theorem dL_squares_221 : decode cL_squares 221 = .ok (.iconst 1, 1) := by decide +kernel
theorem dL_squares_222 : decode cL_squares 222 = .ok (.iand, 1) := by decide +kernel
theorem dL_squares_223 : decode cL_squares 223 = .ok (.iadd, 1) := by decide +kernel
theorem dL_squares_224 : decode cL_squares 224 = .ok (.istore 8, 2) := by decide +kernel
theorem dL_squares_226 : decode cL_squares 226 = .ok (.iload 5, 2) := by decide +kernel
theorem dL_squares_228 : decode cL_squares 228 = .ok (.ifCond .eq 14, 3) := by decide +kernel
theorem dL_squares_231 : decode cL_squares 231 = .ok (.iload 8, 2) := by decide +kernel
theorem dL_squares_233 : decode cL_squares 233 = .ok (.iload 7, 2) := by decide +kernel
theorem dL_squares_235 : decode cL_squares 235 = .ok (.if_icmp .ne 7, 3) := by decide +kernel
theorem dL_squares_238 : decode cL_squares 238 = .ok (.iconst 1, 1) := by decide +kernel
theorem dL_squares_239 : decode cL_squares 239 = .ok (.goto 4, 3) := by decide +kernel
theorem dL_squares_242 : decode cL_squares 242 = .ok (.iconst 0, 1) := by decide +kernel
theorem dL_squares_243 : decode cL_squares 243 = .ok (.istore 5, 2) := by decide +kernel
theorem dL_squares_245 : decode cL_squares 245 = .ok (.iload 5, 2) := by decide +kernel
theorem dL_squares_247 : decode cL_squares 247 = .ok (.ifCond .eq 31, 3) := by decide +kernel
theorem dL_squares_250 : decode cL_squares 250 = .ok (.aload_n 0, 1) := by decide +kernel
theorem dL_squares_251 : decode cL_squares 251 = .ok (.ldc2_w 136, 3) := by decide +kernel
theorem dL_squares_254 : decode cL_squares 254 = .ok (.lconst 0, 1) := by decide +kernel
theorem dL_squares_255 : decode cL_squares 255 = .ok (.lconst 0, 1) := by decide +kernel
theorem dL_squares_256 : decode cL_squares 256 = .ok (.lconst 0, 1) := by decide +kernel
theorem dL_squares_257 : decode cL_squares 257 = .ok (.lconst 0, 1) := by decide +kernel
theorem dL_squares_258 : decode cL_squares 258 = .ok (.bipush 7, 2) := by decide +kernel
theorem dL_squares_260 : decode cL_squares 260 = .ok (.invokestatic 61, 3) := by decide +kernel
theorem dL_squares_263 : decode cL_squares 263 = .ok (.ifCond .eq 15, 3) := by decide +kernel
theorem dL_squares_266 : decode cL_squares 266 = .ok (.aload_n 0, 1) := by decide +kernel
theorem dL_squares_267 : decode cL_squares 267 = .ok (.invokevirtual 65, 3) := by decide +kernel
theorem dL_squares_270 : decode cL_squares 270 = .ok (.iconst 1, 1) := by decide +kernel
theorem dL_squares_271 : decode cL_squares 271 = .ok (.if_icmp .ne 7, 3) := by decide +kernel
theorem dL_squares_274 : decode cL_squares 274 = .ok (.iconst 1, 1) := by decide +kernel
theorem dL_squares_275 : decode cL_squares 275 = .ok (.goto 4, 3) := by decide +kernel
theorem dL_squares_278 : decode cL_squares 278 = .ok (.iconst 0, 1) := by decide +kernel
theorem dL_squares_279 : decode cL_squares 279 = .ok (.istore 5, 2) := by decide +kernel
theorem dL_squares_281 : decode cL_squares 281 = .ok (.iload 5, 2) := by decide +kernel
theorem dL_squares_283 : decode cL_squares 283 = .ok (.ifCond .eq 31, 3) := by decide +kernel
theorem dL_squares_286 : decode cL_squares 286 = .ok (.aload_n 0, 1) := by decide +kernel
theorem dL_squares_287 : decode cL_squares 287 = .ok (.ldc2_w 138, 3) := by decide +kernel
theorem dL_squares_290 : decode cL_squares 290 = .ok (.lconst 0, 1) := by decide +kernel
theorem dL_squares_291 : decode cL_squares 291 = .ok (.lconst 0, 1) := by decide +kernel
theorem dL_squares_292 : decode cL_squares 292 = .ok (.lconst 0, 1) := by decide +kernel
theorem dL_squares_293 : decode cL_squares 293 = .ok (.lconst 0, 1) := by decide +kernel
theorem dL_squares_294 : decode cL_squares 294 = .ok (.bipush 8, 2) := by decide +kernel
theorem dL_squares_296 : decode cL_squares 296 = .ok (.invokestatic 61, 3) := by decide +kernel
theorem dL_squares_299 : decode cL_squares 299 = .ok (.ifCond .eq 15, 3) := by decide +kernel
theorem dL_squares_302 : decode cL_squares 302 = .ok (.aload_n 0, 1) := by decide +kernel
theorem dL_squares_303 : decode cL_squares 303 = .ok (.invokevirtual 65, 3) := by decide +kernel
theorem dL_squares_306 : decode cL_squares 306 = .ok (.iconst 1, 1) := by decide +kernel
theorem dL_squares_307 : decode cL_squares 307 = .ok (.if_icmp .ne 7, 3) := by decide +kernel
theorem dL_squares_310 : decode cL_squares 310 = .ok (.iconst 1, 1) := by decide +kernel
theorem dL_squares_311 : decode cL_squares 311 = .ok (.goto 4, 3) := by decide +kernel
theorem dL_squares_314 : decode cL_squares 314 = .ok (.iconst 0, 1) := by decide +kernel
theorem dL_squares_315 : decode cL_squares 315 = .ok (.istore 5, 2) := by decide +kernel
theorem dL_squares_317 : decode cL_squares 317 = .ok (.iload 5, 2) := by decide +kernel
theorem dL_squares_319 : decode cL_squares 319 = .ok (.ifCond .eq 33, 3) := by decide +kernel
theorem dL_squares_322 : decode cL_squares 322 = .ok (.aload_n 0, 1) := by decide +kernel
theorem dL_squares_323 : decode cL_squares 323 = .ok (.ldc2_w 140, 3) := by decide +kernel
theorem dL_squares_326 : decode cL_squares 326 = .ok (.ldc2_w 142, 3) := by decide +kernel
theorem dL_squares_329 : decode cL_squares 329 = .ok (.lconst 0, 1) := by decide +kernel
theorem dL_squares_330 : decode cL_squares 330 = .ok (.lconst 0, 1) := by decide +kernel
theorem dL_squares_331 : decode cL_squares 331 = .ok (.lconst 0, 1) := by decide +kernel
theorem dL_squares_332 : decode cL_squares 332 = .ok (.bipush 10, 2) := by decide +kernel
theorem dL_squares_334 : decode cL_squares 334 = .ok (.invokestatic 61, 3) := by decide +kernel
theorem dL_squares_337 : decode cL_squares 337 = .ok (.ifCond .eq 15, 3) := by decide +kernel
theorem dL_squares_340 : decode cL_squares 340 = .ok (.aload_n 0, 1) := by decide +kernel
theorem dL_squares_341 : decode cL_squares 341 = .ok (.invokevirtual 65, 3) := by decide +kernel
theorem dL_squares_344 : decode cL_squares 344 = .ok (.iconst 1, 1) := by decide +kernel
theorem dL_squares_345 : decode cL_squares 345 = .ok (.if_icmp .ne 7, 3) := by decide +kernel
theorem dL_squares_348 : decode cL_squares 348 = .ok (.iconst 1, 1) := by decide +kernel
theorem dL_squares_349 : decode cL_squares 349 = .ok (.goto 4, 3) := by decide +kernel
theorem dL_squares_352 : decode cL_squares 352 = .ok (.iconst 0, 1) := by decide +kernel
theorem dL_squares_353 : decode cL_squares 353 = .ok (.istore 5, 2) := by decide +kernel
theorem dL_squares_355 : decode cL_squares 355 = .ok (.iload 5, 2) := by decide +kernel
theorem dL_squares_357 : decode cL_squares 357 = .ok (.ifCond .eq 33, 3) := by decide +kernel
theorem dL_squares_360 : decode cL_squares 360 = .ok (.aload_n 0, 1) := by decide +kernel
theorem dL_squares_361 : decode cL_squares 361 = .ok (.ldc2_w 144, 3) := by decide +kernel
theorem dL_squares_364 : decode cL_squares 364 = .ok (.ldc2_w 146, 3) := by decide +kernel
theorem dL_squares_367 : decode cL_squares 367 = .ok (.lconst 0, 1) := by decide +kernel
theorem dL_squares_368 : decode cL_squares 368 = .ok (.lconst 0, 1) := by decide +kernel
theorem dL_squares_369 : decode cL_squares 369 = .ok (.lconst 0, 1) := by decide +kernel
theorem dL_squares_370 : decode cL_squares 370 = .ok (.bipush 10, 2) := by decide +kernel
theorem dL_squares_372 : decode cL_squares 372 = .ok (.invokestatic 61, 3) := by decide +kernel
theorem dL_squares_375 : decode cL_squares 375 = .ok (.ifCond .eq 15, 3) := by decide +kernel
theorem dL_squares_378 : decode cL_squares 378 = .ok (.aload_n 0, 1) := by decide +kernel
theorem dL_squares_379 : decode cL_squares 379 = .ok (.invokevirtual 65, 3) := by decide +kernel
theorem dL_squares_382 : decode cL_squares 382 = .ok (.iconst 1, 1) := by decide +kernel
theorem dL_squares_383 : decode cL_squares 383 = .ok (.if_icmp .ne 7, 3) := by decide +kernel
theorem dL_squares_386 : decode cL_squares 386 = .ok (.iconst 1, 1) := by decide +kernel
theorem dL_squares_387 : decode cL_squares 387 = .ok (.goto 4, 3) := by decide +kernel
theorem dL_squares_390 : decode cL_squares 390 = .ok (.iconst 0, 1) := by decide +kernel
theorem dL_squares_391 : decode cL_squares 391 = .ok (.istore 5, 2) := by decide +kernel
theorem dL_squares_393 : decode cL_squares 393 = .ok (.iload 5, 2) := by decide +kernel
theorem dL_squares_395 : decode cL_squares 395 = .ok (.ifCond .eq 31, 3) := by decide +kernel
theorem dL_squares_398 : decode cL_squares 398 = .ok (.aload_n 0, 1) := by decide +kernel
theorem dL_squares_399 : decode cL_squares 399 = .ok (.ldc2_w 148, 3) := by decide +kernel
theorem dL_squares_402 : decode cL_squares 402 = .ok (.lconst 0, 1) := by decide +kernel
theorem dL_squares_403 : decode cL_squares 403 = .ok (.lconst 0, 1) := by decide +kernel
theorem dL_squares_404 : decode cL_squares 404 = .ok (.lconst 0, 1) := by decide +kernel
theorem dL_squares_405 : decode cL_squares 405 = .ok (.lconst 0, 1) := by decide +kernel
theorem dL_squares_406 : decode cL_squares 406 = .ok (.bipush 8, 2) := by decide +kernel
theorem dL_squares_408 : decode cL_squares 408 = .ok (.invokestatic 61, 3) := by decide +kernel
theorem dL_squares_411 : decode cL_squares 411 = .ok (.ifCond .eq 15, 3) := by decide +kernel
theorem dL_squares_414 : decode cL_squares 414 = .ok (.aload_n 0, 1) := by decide +kernel
theorem dL_squares_415 : decode cL_squares 415 = .ok (.invokevirtual 65, 3) := by decide +kernel
theorem dL_squares_418 : decode cL_squares 418 = .ok (.iconst 1, 1) := by decide +kernel
theorem dL_squares_419 : decode cL_squares 419 = .ok (.if_icmp .ne 7, 3) := by decide +kernel
theorem dL_squares_422 : decode cL_squares 422 = .ok (.iconst 1, 1) := by decide +kernel
theorem dL_squares_423 : decode cL_squares 423 = .ok (.goto 4, 3) := by decide +kernel
theorem dL_squares_426 : decode cL_squares 426 = .ok (.iconst 0, 1) := by decide +kernel
theorem dL_squares_427 : decode cL_squares 427 = .ok (.istore 5, 2) := by decide +kernel
theorem dL_squares_429 : decode cL_squares 429 = .ok (.iload 5, 2) := by decide +kernel
theorem dL_squares_431 : decode cL_squares 431 = .ok (.ifCond .eq 33, 3) := by decide +kernel
theorem dL_squares_434 : decode cL_squares 434 = .ok (.aload_n 0, 1) := by decide +kernel
theorem dL_squares_435 : decode cL_squares 435 = .ok (.ldc2_w 150, 3) := by decide +kernel
theorem dL_squares_438 : decode cL_squares 438 = .ok (.ldc2_w 152, 3) := by decide +kernel
theorem dL_squares_441 : decode cL_squares 441 = .ok (.lconst 0, 1) := by decide +kernel
theorem dL_squares_442 : decode cL_squares 442 = .ok (.lconst 0, 1) := by decide +kernel
theorem dL_squares_443 : decode cL_squares 443 = .ok (.lconst 0, 1) := by decide +kernel
theorem dL_squares_444 : decode cL_squares 444 = .ok (.bipush 10, 2) := by decide +kernel
theorem dL_squares_446 : decode cL_squares 446 = .ok (.invokestatic 61, 3) := by decide +kernel
theorem dL_squares_449 : decode cL_squares 449 = .ok (.ifCond .eq 15, 3) := by decide +kernel
theorem dL_squares_452 : decode cL_squares 452 = .ok (.aload_n 0, 1) := by decide +kernel
theorem dL_squares_453 : decode cL_squares 453 = .ok (.invokevirtual 65, 3) := by decide +kernel
theorem dL_squares_456 : decode cL_squares 456 = .ok (.iconst 1, 1) := by decide +kernel
theorem dL_squares_457 : decode cL_squares 457 = .ok (.if_icmp .ne 7, 3) := by decide +kernel
theorem dL_squares_460 : decode cL_squares 460 = .ok (.iconst 1, 1) := by decide +kernel
theorem dL_squares_461 : decode cL_squares 461 = .ok (.goto 4, 3) := by decide +kernel
theorem dL_squares_464 : decode cL_squares 464 = .ok (.iconst 0, 1) := by decide +kernel
theorem dL_squares_465 : decode cL_squares 465 = .ok (.istore 5, 2) := by decide +kernel
theorem dL_squares_467 : decode cL_squares 467 = .ok (.aload_n 0, 1) := by decide +kernel
theorem dL_squares_468 : decode cL_squares 468 = .ok (.iconst 0, 1) := by decide +kernel
theorem dL_squares_469 : decode cL_squares 469 = .ok (.invokevirtual 10, 3) := by decide +kernel
theorem dL_squares_472 : decode cL_squares 472 = .ok (.istore 9, 2) := by decide +kernel
theorem dL_squares_474 : decode cL_squares 474 = .ok (.aload_n 0, 1) := by decide +kernel
theorem dL_squares_475 : decode cL_squares 475 = .ok (.iconst 4, 1) := by decide +kernel
theorem dL_squares_476 : decode cL_squares 476 = .ok (.iconst 0, 1) := by decide +kernel
theorem dL_squares_477 : decode cL_squares 477 = .ok (.invokevirtual 154, 3) := by decide +kernel
theorem dL_squares_480 : decode cL_squares 480 = .ok (.aload_n 0, 1) := by decide +kernel
theorem dL_squares_481 : decode cL_squares 481 = .ok (.iconst 4, 1) := by decide +kernel
theorem dL_squares_482 : decode cL_squares 482 = .ok (.iconst 1, 1) := by decide +kernel
theorem dL_squares_483 : decode cL_squares 483 = .ok (.invokevirtual 154, 3) := by decide +kernel
theorem dL_squares_486 : decode cL_squares 486 = .ok (.iadd, 1) := by decide +kernel
theorem dL_squares_487 : decode cL_squares 487 = .ok (.aload_n 0, 1) := by decide +kernel
theorem dL_squares_488 : decode cL_squares 488 = .ok (.iconst 4, 1) := by decide +kernel
theorem dL_squares_489 : decode cL_squares 489 = .ok (.iconst 2, 1) := by decide +kernel
theorem dL_squares_490 : decode cL_squares 490 = .ok (.invokevirtual 154, 3) := by decide +kernel
theorem dL_squares_493 : decode cL_squares 493 = .ok (.iadd, 1) := by decide +kernel
theorem dL_squares_494 : decode cL_squares 494 = .ok (.istore 10, 2) := by decide +kernel
theorem dL_squares_496 : decode cL_squares 496 = .ok (.iload 5, 2) := by decide +kernel
theorem dL_squares_498 : decode cL_squares 498 = .ok (.ifCond .eq 61, 3) := by decide +kernel
theorem dL_squares_501 : decode cL_squares 501 = .ok (.iload 10, 2) := by decide +kernel
theorem dL_squares_503 : decode cL_squares 503 = .ok (.iload 9, 2) := by decide +kernel
theorem dL_squares_505 : decode cL_squares 505 = .ok (.iload 9, 2) := by decide +kernel
theorem dL_squares_507 : decode cL_squares 507 = .ok (.iconst 1, 1) := by decide +kernel
theorem dL_squares_508 : decode cL_squares 508 = .ok (.iadd, 1) := by decide +kernel
theorem dL_squares_509 : decode cL_squares 509 = .ok (.imul, 1) := by decide +kernel
theorem dL_squares_510 : decode cL_squares 510 = .ok (.iconst 2, 1) := by decide +kernel
theorem dL_squares_511 : decode cL_squares 511 = .ok (.idiv, 1) := by decide +kernel
theorem dL_squares_512 : decode cL_squares 512 = .ok (.if_icmp .ne 47, 3) := by decide +kernel
theorem dL_squares_515 : decode cL_squares 515 = .ok (.iload 4, 2) := by decide +kernel
theorem dL_squares_517 : decode cL_squares 517 = .ok (.ifCond .ne 15, 3) := by decide +kernel
theorem dL_squares_520 : decode cL_squares 520 = .ok (.aload_n 0, 1) := by decide +kernel
theorem dL_squares_521 : decode cL_squares 521 = .ok (.iconst 4, 1) := by decide +kernel
theorem dL_squares_522 : decode cL_squares 522 = .ok (.iconst 2, 1) := by decide +kernel
theorem dL_squares_523 : decode cL_squares 523 = .ok (.invokevirtual 154, 3) := by decide +kernel
theorem dL_squares_526 : decode cL_squares 526 = .ok (.ifCond .ne 33, 3) := by decide +kernel
theorem dL_squares_529 : decode cL_squares 529 = .ok (.goto 26, 3) := by decide +kernel
theorem dL_squares_532 : decode cL_squares 532 = .ok (.aload_n 0, 1) := by decide +kernel
theorem dL_squares_533 : decode cL_squares 533 = .ok (.iconst 4, 1) := by decide +kernel
theorem dL_squares_534 : decode cL_squares 534 = .ok (.iconst 2, 1) := by decide +kernel
theorem dL_squares_535 : decode cL_squares 535 = .ok (.invokevirtual 154, 3) := by decide +kernel
theorem dL_squares_538 : decode cL_squares 538 = .ok (.iconst 1, 1) := by decide +kernel
theorem dL_squares_539 : decode cL_squares 539 = .ok (.if_icmp .ne 20, 3) := by decide +kernel
theorem dL_squares_542 : decode cL_squares 542 = .ok (.aload_n 0, 1) := by decide +kernel
theorem dL_squares_543 : decode cL_squares 543 = .ok (.iconst 4, 1) := by decide +kernel
theorem dL_squares_544 : decode cL_squares 544 = .ok (.iconst 1, 1) := by decide +kernel
theorem dL_squares_545 : decode cL_squares 545 = .ok (.invokevirtual 154, 3) := by decide +kernel
theorem dL_squares_548 : decode cL_squares 548 = .ok (.iload 9, 2) := by decide +kernel
theorem dL_squares_550 : decode cL_squares 550 = .ok (.iconst 1, 1) := by decide +kernel
theorem dL_squares_551 : decode cL_squares 551 = .ok (.isub, 1) := by decide +kernel
theorem dL_squares_552 : decode cL_squares 552 = .ok (.if_icmp .ne 7, 3) := by decide +kernel
theorem dL_squares_555 : decode cL_squares 555 = .ok (.iconst 1, 1) := by decide +kernel
theorem dL_squares_556 : decode cL_squares 556 = .ok (.goto 4, 3) := by decide +kernel
theorem dL_squares_559 : decode cL_squares 559 = .ok (.iconst 0, 1) := by decide +kernel
theorem dL_squares_560 : decode cL_squares 560 = .ok (.istore 5, 2) := by decide +kernel
theorem dL_squares_562 : decode cL_squares 562 = .ok (.iload 5, 2) := by decide +kernel
theorem dL_squares_564 : decode cL_squares 564 = .ok (.ifCond .eq 24, 3) := by decide +kernel
theorem dL_squares_567 : decode cL_squares 567 = .ok (.aload_n 0, 1) := by decide +kernel
theorem dL_squares_568 : decode cL_squares 568 = .ok (.invokevirtual 157, 3) := by decide +kernel
theorem dL_squares_571 : decode cL_squares 571 = .ok (.ifCond .lt 17, 3) := by decide +kernel
theorem dL_squares_574 : decode cL_squares 574 = .ok (.aload_n 0, 1) := by decide +kernel
theorem dL_squares_575 : decode cL_squares 575 = .ok (.iconst 2, 1) := by decide +kernel
theorem dL_squares_576 : decode cL_squares 576 = .ok (.invokevirtual 10, 3) := by decide +kernel
theorem dL_squares_579 : decode cL_squares 579 = .ok (.iconst 5, 1) := by decide +kernel
theorem dL_squares_580 : decode cL_squares 580 = .ok (.ishr, 1) := by decide +kernel
theorem dL_squares_581 : decode cL_squares 581 = .ok (.ifCond .ne 7, 3) := by decide +kernel
theorem dL_squares_584 : decode cL_squares 584 = .ok (.iconst 1, 1) := by decide +kernel
theorem dL_squares_585 : decode cL_squares 585 = .ok (.goto 4, 3) := by decide +kernel
theorem dL_squares_588 : decode cL_squares 588 = .ok (.iconst 0, 1) := by decide +kernel
theorem dL_squares_589 : decode cL_squares 589 = .ok (.ireturn, 1) := by decide +kernel
theorem dL_law_0 : decode cL_law 0 = .ok (.new 11, 3) := by decide +kernel
theorem dL_law_3 : decode cL_law 3 = .ok (.dup, 1) := by decide +kernel
theorem dL_law_4 : decode cL_law 4 = .ok (.invokespecial 160, 3) := by decide +kernel
theorem dL_law_7 : decode cL_law 7 = .ok (.astore_n 1, 1) := by decide +kernel
theorem dL_law_8 : decode cL_law 8 = .ok (.aload_n 0, 1) := by decide +kernel
theorem dL_law_9 : decode cL_law 9 = .ok (.bipush 6, 2) := by decide +kernel
theorem dL_law_11 : decode cL_law 11 = .ok (.invokestatic 27, 3) := by decide +kernel
theorem dL_law_14 : decode cL_law 14 = .ok (.iconst 2, 1) := by decide +kernel
theorem dL_law_15 : decode cL_law 15 = .ok (.invokestatic 33, 3) := by decide +kernel
theorem dL_law_18 : decode cL_law 18 = .ok (.ifCond .ne 18, 3) := by decide +kernel
theorem dL_law_21 : decode cL_law 21 = .ok (.aload_n 1, 1) := by decide +kernel
theorem dL_law_22 : decode cL_law 22 = .ok (.aload_n 0, 1) := by decide +kernel
theorem dL_law_23 : decode cL_law 23 = .ok (.bipush 7, 2) := by decide +kernel
theorem dL_law_25 : decode cL_law 25 = .ok (.invokestatic 27, 3) := by decide +kernel
theorem dL_law_28 : decode cL_law 28 = .ok (.invokestatic 161, 3) := by decide +kernel
theorem dL_law_31 : decode cL_law 31 = .ok (.ifCond .ne 5, 3) := by decide +kernel
theorem dL_law_34 : decode cL_law 34 = .ok (.iconst 0, 1) := by decide +kernel
theorem dL_law_35 : decode cL_law 35 = .ok (.ireturn, 1) := by decide +kernel
theorem dL_law_36 : decode cL_law 36 = .ok (.aload_n 1, 1) := by decide +kernel
theorem dL_law_37 : decode cL_law 37 = .ok (.aload_n 0, 1) := by decide +kernel
theorem dL_law_38 : decode cL_law 38 = .ok (.invokestatic 165, 3) := by decide +kernel
theorem dL_law_41 : decode cL_law 41 = .ok (.ifCond .eq 36, 3) := by decide +kernel
theorem dL_law_44 : decode cL_law 44 = .ok (.aload_n 1, 1) := by decide +kernel
theorem dL_law_45 : decode cL_law 45 = .ok (.invokestatic 169, 3) := by decide +kernel
theorem dL_law_48 : decode cL_law 48 = .ok (.ifCond .eq 29, 3) := by decide +kernel
theorem dL_law_51 : decode cL_law 51 = .ok (.aload_n 1, 1) := by decide +kernel
theorem dL_law_52 : decode cL_law 52 = .ok (.invokestatic 173, 3) := by decide +kernel
theorem dL_law_55 : decode cL_law 55 = .ok (.ifCond .eq 22, 3) := by decide +kernel
theorem dL_law_58 : decode cL_law 58 = .ok (.aload_n 1, 1) := by decide +kernel
theorem dL_law_59 : decode cL_law 59 = .ok (.invokestatic 176, 3) := by decide +kernel
theorem dL_law_62 : decode cL_law 62 = .ok (.ifCond .eq 15, 3) := by decide +kernel
theorem dL_law_65 : decode cL_law 65 = .ok (.aload_n 1, 1) := by decide +kernel
theorem dL_law_66 : decode cL_law 66 = .ok (.aload_n 0, 1) := by decide +kernel
theorem dL_law_67 : decode cL_law 67 = .ok (.iconst 5, 1) := by decide +kernel
theorem dL_law_68 : decode cL_law 68 = .ok (.invokestatic 27, 3) := by decide +kernel
theorem dL_law_71 : decode cL_law 71 = .ok (.invokestatic 179, 3) := by decide +kernel
theorem dL_law_74 : decode cL_law 74 = .ok (.ifCond .ne 5, 3) := by decide +kernel
theorem dL_law_77 : decode cL_law 77 = .ok (.iconst 0, 1) := by decide +kernel
theorem dL_law_78 : decode cL_law 78 = .ok (.ireturn, 1) := by decide +kernel
theorem dL_law_79 : decode cL_law 79 = .ok (.aload_n 1, 1) := by decide +kernel
theorem dL_law_80 : decode cL_law 80 = .ok (.iconst 0, 1) := by decide +kernel
theorem dL_law_81 : decode cL_law 81 = .ok (.iconst 3, 1) := by decide +kernel
theorem dL_law_82 : decode cL_law 82 = .ok (.invokevirtual 48, 3) := by decide +kernel
theorem dL_law_85 : decode cL_law 85 = .ok (.iconst 1, 1) := by decide +kernel
theorem dL_law_86 : decode cL_law 86 = .ok (.if_icmp .eq 26, 3) := by decide +kernel
theorem dL_law_89 : decode cL_law 89 = .ok (.aload_n 1, 1) := by decide +kernel
theorem dL_law_90 : decode cL_law 90 = .ok (.iconst 0, 1) := by decide +kernel
theorem dL_law_91 : decode cL_law 91 = .ok (.iconst 1, 1) := by decide +kernel
theorem dL_law_92 : decode cL_law 92 = .ok (.iconst 2, 1) := by decide +kernel
theorem dL_law_93 : decode cL_law 93 = .ok (.invokevirtual 133, 3) := by decide +kernel
theorem dL_law_96 : decode cL_law 96 = .ok (.bipush (-5), 2) := by decide +kernel
theorem dL_law_98 : decode cL_law 98 = .ok (.if_icmp .ne 18, 3) := by decide +kernel
theorem dL_law_101 : decode cL_law 101 = .ok (.aload_n 1, 1) := by decide +kernel
theorem dL_law_102 : decode cL_law 102 = .ok (.iconst 0, 1) := by decide +kernel
theorem dL_law_103 : decode cL_law 103 = .ok (.iconst 1, 1) := by decide +kernel
theorem dL_law_104 : decode cL_law 104 = .ok (.invokevirtual 154, 3) := by decide +kernel
theorem dL_law_107 : decode cL_law 107 = .ok (.bipush (-5), 2) := by decide +kernel
theorem dL_law_109 : decode cL_law 109 = .ok (.if_icmp .ne 7, 3) := by decide +kernel
theorem dL_law_112 : decode cL_law 112 = .ok (.iconst 1, 1) := by decide +kernel
theorem dL_law_113 : decode cL_law 113 = .ok (.goto 4, 3) := by decide +kernel
theorem dL_law_116 : decode cL_law 116 = .ok (.iconst 0, 1) := by decide +kernel
theorem dL_law_117 : decode cL_law 117 = .ok (.istore_n 2, 1) := by decide +kernel
theorem dL_law_118 : decode cL_law 118 = .ok (.aload_n 1, 1) := by decide +kernel
theorem dL_law_119 : decode cL_law 119 = .ok (.iconst 1, 1) := by decide +kernel
theorem dL_law_120 : decode cL_law 120 = .ok (.invokevirtual 10, 3) := by decide +kernel
theorem dL_law_123 : decode cL_law 123 = .ok (.istore_n 3, 1) := by decide +kernel
theorem dL_law_124 : decode cL_law 124 = .ok (.aload_n 1, 1) := by decide +kernel
theorem dL_law_125 : decode cL_law 125 = .ok (.iconst 0, 1) := by decide +kernel
theorem dL_law_126 : decode cL_law 126 = .ok (.invokevirtual 10, 3) := by decide +kernel
theorem dL_law_129 : decode cL_law 129 = .ok (.iconst 3, 1) := by decide +kernel
theorem dL_law_130 : decode cL_law 130 = .ok (.if_icmp .ne 23, 3) := by decide +kernel
theorem dL_law_133 : decode cL_law 133 = .ok (.iload_n 2, 1) := by decide +kernel
theorem dL_law_134 : decode cL_law 134 = .ok (.ifCond .eq 17, 3) := by decide +kernel
theorem dL_law_137 : decode cL_law 137 = .ok (.aload_n 1, 1) := by decide +kernel
theorem dL_law_138 : decode cL_law 138 = .ok (.iconst 0, 1) := by decide +kernel
theorem dL_law_139 : decode cL_law 139 = .ok (.invokevirtual 182, 3) := by decide +kernel
theorem dL_law_142 : decode cL_law 142 = .ok (.bipush (-5), 2) := by decide +kernel
theorem dL_law_144 : decode cL_law 144 = .ok (.if_icmp .ne 7, 3) := by decide +kernel
theorem dL_law_147 : decode cL_law 147 = .ok (.iconst 1, 1) := by decide +kernel
theorem dL_law_148 : decode cL_law 148 = .ok (.goto 4, 3) := by decide +kernel
theorem dL_law_151 : decode cL_law 151 = .ok (.iconst 0, 1) := by decide +kernel
theorem dL_law_152 : decode cL_law 152 = .ok (.ireturn, 1) := by decide +kernel
theorem dL_law_153 : decode cL_law 153 = .ok (.aload_n 1, 1) := by decide +kernel
theorem dL_law_154 : decode cL_law 154 = .ok (.iconst 0, 1) := by decide +kernel
theorem dL_law_155 : decode cL_law 155 = .ok (.invokevirtual 182, 3) := by decide +kernel
theorem dL_law_158 : decode cL_law 158 = .ok (.istore 4, 2) := by decide +kernel
theorem dL_law_160 : decode cL_law 160 = .ok (.aload_n 1, 1) := by decide +kernel
theorem dL_law_161 : decode cL_law 161 = .ok (.iconst 1, 1) := by decide +kernel
theorem dL_law_162 : decode cL_law 162 = .ok (.invokevirtual 182, 3) := by decide +kernel
theorem dL_law_165 : decode cL_law 165 = .ok (.istore 5, 2) := by decide +kernel
theorem dL_law_167 : decode cL_law 167 = .ok (.aload_n 1, 1) := by decide +kernel
theorem dL_law_168 : decode cL_law 168 = .ok (.iconst 2, 1) := by decide +kernel
theorem dL_law_169 : decode cL_law 169 = .ok (.invokevirtual 182, 3) := by decide +kernel
theorem dL_law_172 : decode cL_law 172 = .ok (.istore 6, 2) := by decide +kernel
theorem dL_law_174 : decode cL_law 174 = .ok (.aload_n 1, 1) := by decide +kernel
theorem dL_law_175 : decode cL_law 175 = .ok (.iconst 3, 1) := by decide +kernel
theorem dL_law_176 : decode cL_law 176 = .ok (.invokevirtual 182, 3) := by decide +kernel
theorem dL_law_179 : decode cL_law 179 = .ok (.istore 7, 2) := by decide +kernel
theorem dL_law_181 : decode cL_law 181 = .ok (.iload_n 2, 1) := by decide +kernel
theorem dL_law_182 : decode cL_law 182 = .ok (.ifCond .eq 60, 3) := by decide +kernel
theorem dL_law_185 : decode cL_law 185 = .ok (.iload 4, 2) := by decide +kernel
theorem dL_law_187 : decode cL_law 187 = .ok (.iconst 2, 1) := by decide +kernel
theorem dL_law_188 : decode cL_law 188 = .ok (.if_icmp .lt 54, 3) := by decide +kernel
theorem dL_law_191 : decode cL_law 191 = .ok (.iload 7, 2) := by decide +kernel
theorem dL_law_193 : decode cL_law 193 = .ok (.iload 4, 2) := by decide +kernel
theorem dL_law_195 : decode cL_law 195 = .ok (.if_icmp .ne 47, 3) := by decide +kernel
theorem dL_law_198 : decode cL_law 198 = .ok (.iload 5, 2) := by decide +kernel
theorem dL_law_200 : decode cL_law 200 = .ok (.iload 6, 2) := by decide +kernel
theorem dL_law_202 : decode cL_law 202 = .ok (.iadd, 1) := by decide +kernel
theorem dL_law_203 : decode cL_law 203 = .ok (.iload_n 3, 1) := by decide +kernel
theorem dL_law_204 : decode cL_law 204 = .ok (.iload_n 3, 1) := by decide +kernel
theorem dL_law_205 : decode cL_law 205 = .ok (.imul, 1) := by decide +kernel
theorem dL_law_206 : decode cL_law 206 = .ok (.iload_n 3, 1) := by decide +kernel
theorem dL_law_207 : decode cL_law 207 = .ok (.imul, 1) := by decide +kernel
theorem dL_law_208 : decode cL_law 208 = .ok (.if_icmp .gt 34, 3) := by decide +kernel
theorem dL_law_211 : decode cL_law 211 = .ok (.iload 5, 2) := by decide +kernel
theorem dL_law_213 : decode cL_law 213 = .ok (.iload_n 3, 1) := by decide +kernel
theorem dL_law_214 : decode cL_law 214 = .ok (.iload_n 3, 1) := by decide +kernel
theorem dL_law_215 : decode cL_law 215 = .ok (.imul, 1) := by decide +kernel
theorem dL_law_216 : decode cL_law 216 = .ok (.iload_n 3, 1) := by decide +kernel
theorem dL_law_217 : decode cL_law 217 = .ok (.imul, 1) := by decide +kernel
theorem dL_law_218 : decode cL_law 218 = .ok (.iload_n 3, 1) := by decide +kernel
theorem dL_law_219 : decode cL_law 219 = .ok (.iload_n 3, 1) := by decide +kernel
theorem dL_law_220 : decode cL_law 220 = .ok (.imul, 1) := by decide +kernel
theorem dL_law_221 : decode cL_law 221 = .ok (.isub, 1) := by decide +kernel
theorem dL_law_222 : decode cL_law 222 = .ok (.if_icmp .ne 20, 3) := by decide +kernel
theorem dL_law_225 : decode cL_law 225 = .ok (.iload 6, 2) := by decide +kernel
theorem dL_law_227 : decode cL_law 227 = .ok (.iconst 1, 1) := by decide +kernel
theorem dL_law_228 : decode cL_law 228 = .ok (.if_icmp .lt 14, 3) := by decide +kernel
theorem dL_law_231 : decode cL_law 231 = .ok (.iload 7, 2) := by decide +kernel
theorem dL_law_233 : decode cL_law 233 = .ok (.iload 5, 2) := by decide +kernel
theorem dL_law_235 : decode cL_law 235 = .ok (.if_icmp .gt 7, 3) := by decide +kernel
theorem dL_law_238 : decode cL_law 238 = .ok (.iconst 1, 1) := by decide +kernel
theorem dL_law_239 : decode cL_law 239 = .ok (.goto 4, 3) := by decide +kernel
theorem dL_law_242 : decode cL_law 242 = .ok (.iconst 0, 1) := by decide +kernel
theorem dL_law_243 : decode cL_law 243 = .ok (.ireturn, 1) := by decide +kernel


