set_option maxRecDepth 20000 in
theorem ggX8_behind_X8_isOne : GoodIn wsX8_behind wsX8_isOne := goodIn_r _ [89] (by decide +kernel) (by decide +kernel)
set_option maxRecDepth 20000 in
theorem gX8_behind_X8_isOne : GoodIn wsX8_behind (va_wsS RX8 194 yX8_isOne wsX8_isOne) := goodIn_app (goodIn_of _ (by decide +kernel)) ggX8_behind_X8_isOne
set_option maxRecDepth 20000 in
theorem ggX8_behind_X8_copy : GoodIn wsX8_behind wsX8_copy := goodIn_r _ [58, 22, 90, 91, 92, 93, 94, 95, 96, 97, 98, 99, 100, 101, 102, 103, 104, 105, 106, 107, 108, 109] (by decide +kernel) (by decide +kernel)
set_option maxRecDepth 20000 in
theorem gX8_behind_X8_copy : GoodIn wsX8_behind (wsV RX8 96 RX8 yX8_copy wsX8_copy) := goodIn_app (goodIn_of _ (by decide +kernel)) ggX8_behind_X8_copy
theorem dX8_behind_0 : decode cX8_behind 0 = .ok (.aload_n 0, 1) := by decide +kernel
theorem dX8_behind_1 : decode cX8_behind 1 = .ok (.getfield 167, 3) := by decide +kernel
theorem dX8_behind_4 : decode cX8_behind 4 = .ok (.ifCond .ne 7, 3) := by decide +kernel
theorem dX8_behind_7 : decode cX8_behind 7 = .ok (.iconst 1, 1) := by decide +kernel
theorem dX8_behind_8 : decode cX8_behind 8 = .ok (.goto 4, 3) := by decide +kernel
theorem dX8_behind_11 : decode cX8_behind 11 = .ok (.iconst 0, 1) := by decide +kernel
theorem dX8_behind_12 : decode cX8_behind 12 = .ok (.istore_n 3, 1) := by decide +kernel
theorem dX8_behind_13 : decode cX8_behind 13 = .ok (.iload_n 3, 1) := by decide +kernel
theorem dX8_behind_14 : decode cX8_behind 14 = .ok (.ifCond .ne 34, 3) := by decide +kernel
theorem dX8_behind_17 : decode cX8_behind 17 = .ok (.aload_n 0, 1) := by decide +kernel
theorem dX8_behind_18 : decode cX8_behind 18 = .ok (.getfield 36, 3) := by decide +kernel
theorem dX8_behind_21 : decode cX8_behind 21 = .ok (.aload_n 0, 1) := by decide +kernel
theorem dX8_behind_22 : decode cX8_behind 22 = .ok (.getfield 167, 3) := by decide +kernel
theorem dX8_behind_25 : decode cX8_behind 25 = .ok (.iaload, 1) := by decide +kernel
theorem dX8_behind_26 : decode cX8_behind 26 = .ok (.iconst 1, 1) := by decide +kernel
theorem dX8_behind_27 : decode cX8_behind 27 = .ok (.iadd, 1) := by decide +kernel
theorem dX8_behind_28 : decode cX8_behind 28 = .ok (.aload_n 0, 1) := by decide +kernel
theorem dX8_behind_29 : decode cX8_behind 29 = .ok (.aload_n 0, 1) := by decide +kernel
theorem dX8_behind_30 : decode cX8_behind 30 = .ok (.getfield 33, 3) := by decide +kernel
theorem dX8_behind_33 : decode cX8_behind 33 = .ok (.aload_n 0, 1) := by decide +kernel
theorem dX8_behind_34 : decode cX8_behind 34 = .ok (.getfield 167, 3) := by decide +kernel
theorem dX8_behind_37 : decode cX8_behind 37 = .ok (.iaload, 1) := by decide +kernel
theorem dX8_behind_38 : decode cX8_behind 38 = .ok (.invokevirtual 203, 3) := by decide +kernel
theorem dX8_behind_41 : decode cX8_behind 41 = .ok (.if_icmp .ne 7, 3) := by decide +kernel
theorem dX8_behind_44 : decode cX8_behind 44 = .ok (.iconst 1, 1) := by decide +kernel
theorem dX8_behind_45 : decode cX8_behind 45 = .ok (.goto 4, 3) := by decide +kernel
theorem dX8_behind_48 : decode cX8_behind 48 = .ok (.iconst 0, 1) := by decide +kernel
theorem dX8_behind_49 : decode cX8_behind 49 = .ok (.istore 4, 2) := by decide +kernel
theorem dX8_behind_51 : decode cX8_behind 51 = .ok (.iload_n 1, 1) := by decide +kernel
theorem dX8_behind_52 : decode cX8_behind 52 = .ok (.bipush 43, 2) := by decide +kernel
theorem dX8_behind_54 : decode cX8_behind 54 = .ok (.if_icmp .eq 9, 3) := by decide +kernel
theorem dX8_behind_57 : decode cX8_behind 57 = .ok (.iload_n 1, 1) := by decide +kernel
theorem dX8_behind_58 : decode cX8_behind 58 = .ok (.bipush 45, 2) := by decide +kernel
theorem dX8_behind_60 : decode cX8_behind 60 = .ok (.if_icmp .ne 30, 3) := by decide +kernel
theorem dX8_behind_63 : decode cX8_behind 63 = .ok (.aload_n 0, 1) := by decide +kernel
theorem dX8_behind_64 : decode cX8_behind 64 = .ok (.getfield 39, 3) := by decide +kernel
theorem dX8_behind_67 : decode cX8_behind 67 = .ok (.aload_n 0, 1) := by decide +kernel
theorem dX8_behind_68 : decode cX8_behind 68 = .ok (.getfield 167, 3) := by decide +kernel
theorem dX8_behind_71 : decode cX8_behind 71 = .ok (.iload_n 1, 1) := by decide +kernel
theorem dX8_behind_72 : decode cX8_behind 72 = .ok (.bipush 43, 2) := by decide +kernel
theorem dX8_behind_74 : decode cX8_behind 74 = .ok (.if_icmp .ne 7, 3) := by decide +kernel
theorem dX8_behind_77 : decode cX8_behind 77 = .ok (.iconst 1, 1) := by decide +kernel
theorem dX8_behind_78 : decode cX8_behind 78 = .ok (.goto 4, 3) := by decide +kernel
theorem dX8_behind_81 : decode cX8_behind 81 = .ok (.iconst (-1), 1) := by decide +kernel
theorem dX8_behind_82 : decode cX8_behind 82 = .ok (.iastore, 1) := by decide +kernel
theorem dX8_behind_83 : decode cX8_behind 83 = .ok (.aload_n 0, 1) := by decide +kernel
theorem dX8_behind_84 : decode cX8_behind 84 = .ok (.iconst 0, 1) := by decide +kernel
theorem dX8_behind_85 : decode cX8_behind 85 = .ok (.putfield 178, 3) := by decide +kernel
theorem dX8_behind_88 : decode cX8_behind 88 = .ok (.iconst 1, 1) := by decide +kernel
theorem dX8_behind_89 : decode cX8_behind 89 = .ok (.ireturn, 1) := by decide +kernel
theorem dX8_behind_90 : decode cX8_behind 90 = .ok (.iload_n 1, 1) := by decide +kernel
theorem dX8_behind_91 : decode cX8_behind 91 = .ok (.bipush 44, 2) := by decide +kernel
theorem dX8_behind_93 : decode cX8_behind 93 = .ok (.if_icmp .ne 63, 3) := by decide +kernel
theorem dX8_behind_96 : decode cX8_behind 96 = .ok (.iload_n 3, 1) := by decide +kernel
theorem dX8_behind_97 : decode cX8_behind 97 = .ok (.ifCond .ne 59, 3) := by decide +kernel
theorem dX8_behind_100 : decode cX8_behind 100 = .ok (.iload 4, 2) := by decide +kernel
theorem dX8_behind_102 : decode cX8_behind 102 = .ok (.ifCond .ne 54, 3) := by decide +kernel
theorem dX8_behind_105 : decode cX8_behind 105 = .ok (.aload_n 0, 1) := by decide +kernel
theorem dX8_behind_106 : decode cX8_behind 106 = .ok (.getfield 36, 3) := by decide +kernel
theorem dX8_behind_109 : decode cX8_behind 109 = .ok (.aload_n 0, 1) := by decide +kernel
theorem dX8_behind_110 : decode cX8_behind 110 = .ok (.getfield 167, 3) := by decide +kernel
theorem dX8_behind_113 : decode cX8_behind 113 = .ok (.dup2, 1) := by decide +kernel
theorem dX8_behind_114 : decode cX8_behind 114 = .ok (.iaload, 1) := by decide +kernel
theorem dX8_behind_115 : decode cX8_behind 115 = .ok (.iconst 1, 1) := by decide +kernel
theorem dX8_behind_116 : decode cX8_behind 116 = .ok (.iadd, 1) := by decide +kernel
theorem dX8_behind_117 : decode cX8_behind 117 = .ok (.iastore, 1) := by decide +kernel
theorem dX8_behind_118 : decode cX8_behind 118 = .ok (.aload_n 0, 1) := by decide +kernel
theorem dX8_behind_119 : decode cX8_behind 119 = .ok (.aload_n 0, 1) := by decide +kernel
theorem dX8_behind_120 : decode cX8_behind 120 = .ok (.aload_n 0, 1) := by decide +kernel
theorem dX8_behind_121 : decode cX8_behind 121 = .ok (.getfield 167, 3) := by decide +kernel
theorem dX8_behind_124 : decode cX8_behind 124 = .ok (.aload_n 0, 1) := by decide +kernel
theorem dX8_behind_125 : decode cX8_behind 125 = .ok (.getfield 36, 3) := by decide +kernel
theorem dX8_behind_128 : decode cX8_behind 128 = .ok (.aload_n 0, 1) := by decide +kernel
theorem dX8_behind_129 : decode cX8_behind 129 = .ok (.getfield 167, 3) := by decide +kernel
theorem dX8_behind_132 : decode cX8_behind 132 = .ok (.iaload, 1) := by decide +kernel
theorem dX8_behind_133 : decode cX8_behind 133 = .ok (.invokevirtual 170, 3) := by decide +kernel
theorem dX8_behind_136 : decode cX8_behind 136 = .ok (.invokevirtual 60, 3) := by decide +kernel
theorem dX8_behind_139 : decode cX8_behind 139 = .ok (.aload_n 0, 1) := by decide +kernel
theorem dX8_behind_140 : decode cX8_behind 140 = .ok (.getfield 39, 3) := by decide +kernel
theorem dX8_behind_143 : decode cX8_behind 143 = .ok (.aload_n 0, 1) := by decide +kernel
theorem dX8_behind_144 : decode cX8_behind 144 = .ok (.getfield 167, 3) := by decide +kernel
theorem dX8_behind_147 : decode cX8_behind 147 = .ok (.iconst 1, 1) := by decide +kernel
theorem dX8_behind_148 : decode cX8_behind 148 = .ok (.iastore, 1) := by decide +kernel
theorem dX8_behind_149 : decode cX8_behind 149 = .ok (.aload_n 0, 1) := by decide +kernel
theorem dX8_behind_150 : decode cX8_behind 150 = .ok (.iconst 0, 1) := by decide +kernel
theorem dX8_behind_151 : decode cX8_behind 151 = .ok (.putfield 178, 3) := by decide +kernel
theorem dX8_behind_154 : decode cX8_behind 154 = .ok (.iconst 1, 1) := by decide +kernel
theorem dX8_behind_155 : decode cX8_behind 155 = .ok (.ireturn, 1) := by decide +kernel
theorem dX8_behind_156 : decode cX8_behind 156 = .ok (.iload_n 1, 1) := by decide +kernel
theorem dX8_behind_157 : decode cX8_behind 157 = .ok (.bipush 41, 2) := by decide +kernel
theorem dX8_behind_159 : decode cX8_behind 159 = .ok (.if_icmp .ne 14, 3) := by decide +kernel
theorem dX8_behind_162 : decode cX8_behind 162 = .ok (.iload 4, 2) := by decide +kernel
theorem dX8_behind_164 : decode cX8_behind 164 = .ok (.ifCond .eq 9, 3) := by decide +kernel
theorem dX8_behind_167 : decode cX8_behind 167 = .ok (.aload_n 0, 1) := by decide +kernel
theorem dX8_behind_168 : decode cX8_behind 168 = .ok (.invokevirtual 206, 3) := by decide +kernel
theorem dX8_behind_171 : decode cX8_behind 171 = .ok (.iconst 1, 1) := by decide +kernel
theorem dX8_behind_172 : decode cX8_behind 172 = .ok (.ireturn, 1) := by decide +kernel
theorem dX8_behind_173 : decode cX8_behind 173 = .ok (.iload_n 1, 1) := by decide +kernel
theorem dX8_behind_174 : decode cX8_behind 174 = .ok (.bipush 58, 2) := by decide +kernel
theorem dX8_behind_176 : decode cX8_behind 176 = .ok (.if_icmp .ne 35, 3) := by decide +kernel
theorem dX8_behind_179 : decode cX8_behind 179 = .ok (.iload_n 2, 1) := by decide +kernel
theorem dX8_behind_180 : decode cX8_behind 180 = .ok (.iconst 1, 1) := by decide +kernel
theorem dX8_behind_181 : decode cX8_behind 181 = .ok (.if_icmp .ne 30, 3) := by decide +kernel
theorem dX8_behind_184 : decode cX8_behind 184 = .ok (.aload_n 0, 1) := by decide +kernel
theorem dX8_behind_185 : decode cX8_behind 185 = .ok (.getfield 23, 3) := by decide +kernel
theorem dX8_behind_188 : decode cX8_behind 188 = .ok (.iconst 0, 1) := by decide +kernel
theorem dX8_behind_189 : decode cX8_behind 189 = .ok (.caload, 1) := by decide +kernel
theorem dX8_behind_190 : decode cX8_behind 190 = .ok (.bipush 105, 2) := by decide +kernel
theorem dX8_behind_192 : decode cX8_behind 192 = .ok (.if_icmp .eq 19, 3) := by decide +kernel
theorem dX8_behind_195 : decode cX8_behind 195 = .ok (.aload_n 0, 1) := by decide +kernel
theorem dX8_behind_196 : decode cX8_behind 196 = .ok (.getfield 23, 3) := by decide +kernel
theorem dX8_behind_199 : decode cX8_behind 199 = .ok (.iconst 0, 1) := by decide +kernel
theorem dX8_behind_200 : decode cX8_behind 200 = .ok (.caload, 1) := by decide +kernel
theorem dX8_behind_201 : decode cX8_behind 201 = .ok (.invokestatic 194, 3) := by decide +kernel
theorem dX8_behind_204 : decode cX8_behind 204 = .ok (.ifCond .eq 7, 3) := by decide +kernel
theorem dX8_behind_207 : decode cX8_behind 207 = .ok (.iconst 1, 1) := by decide +kernel
theorem dX8_behind_208 : decode cX8_behind 208 = .ok (.goto 4, 3) := by decide +kernel
theorem dX8_behind_211 : decode cX8_behind 211 = .ok (.iconst 0, 1) := by decide +kernel
theorem dX8_behind_212 : decode cX8_behind 212 = .ok (.istore 5, 2) := by decide +kernel
theorem dX8_behind_214 : decode cX8_behind 214 = .ok (.iload_n 1, 1) := by decide +kernel
theorem dX8_behind_215 : decode cX8_behind 215 = .ok (.bipush 61, 2) := by decide +kernel
theorem dX8_behind_217 : decode cX8_behind 217 = .ok (.if_icmp .ne 25, 3) := by decide +kernel
theorem dX8_behind_220 : decode cX8_behind 220 = .ok (.iload_n 3, 1) := by decide +kernel
theorem dX8_behind_221 : decode cX8_behind 221 = .ok (.ifCond .eq 21, 3) := by decide +kernel
theorem dX8_behind_224 : decode cX8_behind 224 = .ok (.aload_n 0, 1) := by decide +kernel
theorem dX8_behind_225 : decode cX8_behind 225 = .ok (.getfield 209, 3) := by decide +kernel
theorem dX8_behind_228 : decode cX8_behind 228 = .ok (.ifCond .ne 14, 3) := by decide +kernel
theorem dX8_behind_231 : decode cX8_behind 231 = .ok (.aload_n 0, 1) := by decide +kernel
theorem dX8_behind_232 : decode cX8_behind 232 = .ok (.getfield 212, 3) := by decide +kernel
theorem dX8_behind_235 : decode cX8_behind 235 = .ok (.ifCond .ne 7, 3) := by decide +kernel
theorem dX8_behind_238 : decode cX8_behind 238 = .ok (.iconst 1, 1) := by decide +kernel
theorem dX8_behind_239 : decode cX8_behind 239 = .ok (.goto 4, 3) := by decide +kernel
theorem dX8_behind_242 : decode cX8_behind 242 = .ok (.iconst 0, 1) := by decide +kernel
theorem dX8_behind_243 : decode cX8_behind 243 = .ok (.istore 6, 2) := by decide +kernel
theorem dX8_behind_245 : decode cX8_behind 245 = .ok (.iload 5, 2) := by decide +kernel
theorem dX8_behind_247 : decode cX8_behind 247 = .ok (.ifCond .ne 8, 3) := by decide +kernel
theorem dX8_behind_250 : decode cX8_behind 250 = .ok (.iload 6, 2) := by decide +kernel
theorem dX8_behind_252 : decode cX8_behind 252 = .ok (.ifCond .eq 49, 3) := by decide +kernel
theorem dX8_behind_255 : decode cX8_behind 255 = .ok (.aload_n 0, 1) := by decide +kernel
theorem dX8_behind_256 : decode cX8_behind 256 = .ok (.iload 5, 2) := by decide +kernel
theorem dX8_behind_258 : decode cX8_behind 258 = .ok (.putfield 209, 3) := by decide +kernel
theorem dX8_behind_261 : decode cX8_behind 261 = .ok (.aload_n 0, 1) := by decide +kernel
theorem dX8_behind_262 : decode cX8_behind 262 = .ok (.iload 6, 2) := by decide +kernel
theorem dX8_behind_264 : decode cX8_behind 264 = .ok (.putfield 212, 3) := by decide +kernel
theorem dX8_behind_267 : decode cX8_behind 267 = .ok (.aload_n 0, 1) := by decide +kernel
theorem dX8_behind_268 : decode cX8_behind 268 = .ok (.aload_n 0, 1) := by decide +kernel
theorem dX8_behind_269 : decode cX8_behind 269 = .ok (.iconst 0, 1) := by decide +kernel
theorem dX8_behind_270 : decode cX8_behind 270 = .ok (.iconst 0, 1) := by decide +kernel
theorem dX8_behind_271 : decode cX8_behind 271 = .ok (.invokevirtual 170, 3) := by decide +kernel
theorem dX8_behind_274 : decode cX8_behind 274 = .ok (.bipush 126, 2) := by decide +kernel
theorem dX8_behind_276 : decode cX8_behind 276 = .ok (.invokevirtual 96, 3) := by decide +kernel
theorem dX8_behind_279 : decode cX8_behind 279 = .ok (.aload_n 0, 1) := by decide +kernel
theorem dX8_behind_280 : decode cX8_behind 280 = .ok (.aload_n 0, 1) := by decide +kernel
theorem dX8_behind_281 : decode cX8_behind 281 = .ok (.iconst 0, 1) := by decide +kernel
theorem dX8_behind_282 : decode cX8_behind 282 = .ok (.iconst 0, 1) := by decide +kernel
theorem dX8_behind_283 : decode cX8_behind 283 = .ok (.invokevirtual 170, 3) := by decide +kernel
theorem dX8_behind_286 : decode cX8_behind 286 = .ok (.invokevirtual 60, 3) := by decide +kernel
theorem dX8_behind_289 : decode cX8_behind 289 = .ok (.aload_n 0, 1) := by decide +kernel
theorem dX8_behind_290 : decode cX8_behind 290 = .ok (.getfield 39, 3) := by decide +kernel
theorem dX8_behind_293 : decode cX8_behind 293 = .ok (.iconst 0, 1) := by decide +kernel
theorem dX8_behind_294 : decode cX8_behind 294 = .ok (.iconst 1, 1) := by decide +kernel
theorem dX8_behind_295 : decode cX8_behind 295 = .ok (.iastore, 1) := by decide +kernel
theorem dX8_behind_296 : decode cX8_behind 296 = .ok (.aload_n 0, 1) := by decide +kernel
theorem dX8_behind_297 : decode cX8_behind 297 = .ok (.iconst 0, 1) := by decide +kernel
theorem dX8_behind_298 : decode cX8_behind 298 = .ok (.putfield 178, 3) := by decide +kernel
theorem dX8_behind_301 : decode cX8_behind 301 = .ok (.iload 5, 2) := by decide +kernel
theorem dX8_behind_303 : decode cX8_behind 303 = .ok (.ifCond .ne 8, 3) := by decide +kernel
theorem dX8_behind_306 : decode cX8_behind 306 = .ok (.iload 6, 2) := by decide +kernel
theorem dX8_behind_308 : decode cX8_behind 308 = .ok (.ifCond .eq 7, 3) := by decide +kernel
theorem dX8_behind_311 : decode cX8_behind 311 = .ok (.iconst 1, 1) := by decide +kernel
theorem dX8_behind_312 : decode cX8_behind 312 = .ok (.goto 4, 3) := by decide +kernel
theorem dX8_behind_315 : decode cX8_behind 315 = .ok (.iconst 0, 1) := by decide +kernel
theorem dX8_behind_316 : decode cX8_behind 316 = .ok (.ireturn, 1) := by decide +kernel
set_option maxRecDepth 20000 in
theorem ggX8_stands_X8_factor : GoodIn wsX8_stands wsX8_factor := goodIn_r _ [8, 1, 9, 10, 7, 11, 12, 13, 14, 15, 16, 17, 18, 19, 20, 21, 22, 23, 24, 25, 26, 27, 28, 29, 30, 31, 32, 33, 34, 35, 36, 37, 38, 39, 40, 41, 42, 43, 44, 45, 46, 47, 48, 49, 3, 50, 51, 2, 52, 53, 54, 55, 56, 57, 58, 59, 60, 61, 62, 63, 64, 65, 66, 67, 68, 113, 114, 115, 116, 117, 118, 119, 120, 121, 122, 123, 124, 125, 126, 127, 128, 129, 130, 131, 132] (by decide +kernel) (by decide +kernel)
set_option maxRecDepth 20000 in
theorem gX8_stands_X8_factor : GoodIn wsX8_stands (wsV RX8 215 RX8 yX8_factor wsX8_factor) := goodIn_app (goodIn_of _ (by decide +kernel)) ggX8_stands_X8_factor
set_option maxRecDepth 20000 in
theorem ggX8_stands_X8_behind : GoodIn wsX8_stands wsX8_behind := goodIn_r _ [72, 3, 50, 67, 2, 1, 73, 74, 75, 76, 77, 78, 7, 79, 52, 53, 54, 55, 42, 43, 44, 45, 16, 80, 81, 82, 83, 51, 68, 84, 85, 86, 87, 88, 89, 90, 91, 92, 17, 93, 94, 95, 96, 56, 57, 58, 59, 30, 31, 32, 33, 97, 98, 99, 100, 101, 102, 103, 104, 105, 106, 107, 108, 109, 110, 111, 112, 26, 27, 28, 29, 34, 35, 36, 37, 22, 23, 24, 25, 38, 39, 40, 41, 46, 47, 48, 49, 9, 10, 11, 113, 114, 115, 116, 117, 118, 119, 120, 121, 122, 123, 124, 125, 126, 127, 128, 129, 130, 131, 132] (by decide +kernel) (by decide +kernel)
set_option maxRecDepth 20000 in
theorem gX8_stands_X8_behind : GoodIn wsX8_stands (wsV RX8 218 RX8 yX8_behind wsX8_behind) := goodIn_app (goodIn_of _ (by decide +kernel)) ggX8_stands_X8_behind
theorem dX8_stands_0 : decode cX8_stands 0 = .ok (.aload_n 0, 1) := by decide +kernel
theorem dX8_stands_1 : decode cX8_stands 1 = .ok (.getfield 178, 3) := by decide +kernel
theorem dX8_stands_4 : decode cX8_stands 4 = .ok (.tableswitch 115 0 3 #[32, 74, 91, 98], 32) := by decide +kernel
theorem dX8_stands_36 : decode cX8_stands 36 = .ok (.iload_n 1, 1) := by decide +kernel
theorem dX8_stands_37 : decode cX8_stands 37 = .ok (.bipush 48, 2) := by decide +kernel
theorem dX8_stands_39 : decode cX8_stands 39 = .ok (.if_icmp .lt 32, 3) := by decide +kernel
theorem dX8_stands_42 : decode cX8_stands 42 = .ok (.iload_n 1, 1) := by decide +kernel
theorem dX8_stands_43 : decode cX8_stands 43 = .ok (.bipush 57, 2) := by decide +kernel
theorem dX8_stands_45 : decode cX8_stands 45 = .ok (.if_icmp .gt 26, 3) := by decide +kernel
theorem dX8_stands_48 : decode cX8_stands 48 = .ok (.aload_n 0, 1) := by decide +kernel
theorem dX8_stands_49 : decode cX8_stands 49 = .ok (.getfield 39, 3) := by decide +kernel
theorem dX8_stands_52 : decode cX8_stands 52 = .ok (.aload_n 0, 1) := by decide +kernel
theorem dX8_stands_53 : decode cX8_stands 53 = .ok (.getfield 167, 3) := by decide +kernel
theorem dX8_stands_56 : decode cX8_stands 56 = .ok (.dup2, 1) := by decide +kernel
theorem dX8_stands_57 : decode cX8_stands 57 = .ok (.iaload, 1) := by decide +kernel
theorem dX8_stands_58 : decode cX8_stands 58 = .ok (.iload_n 1, 1) := by decide +kernel
theorem dX8_stands_59 : decode cX8_stands 59 = .ok (.bipush 48, 2) := by decide +kernel
theorem dX8_stands_61 : decode cX8_stands 61 = .ok (.isub, 1) := by decide +kernel
theorem dX8_stands_62 : decode cX8_stands 62 = .ok (.imul, 1) := by decide +kernel
theorem dX8_stands_63 : decode cX8_stands 63 = .ok (.iastore, 1) := by decide +kernel
theorem dX8_stands_64 : decode cX8_stands 64 = .ok (.aload_n 0, 1) := by decide +kernel
theorem dX8_stands_65 : decode cX8_stands 65 = .ok (.iconst 1, 1) := by decide +kernel
theorem dX8_stands_66 : decode cX8_stands 66 = .ok (.putfield 178, 3) := by decide +kernel
theorem dX8_stands_69 : decode cX8_stands 69 = .ok (.iconst 1, 1) := by decide +kernel
theorem dX8_stands_70 : decode cX8_stands 70 = .ok (.ireturn, 1) := by decide +kernel
theorem dX8_stands_71 : decode cX8_stands 71 = .ok (.aload_n 0, 1) := by decide +kernel
theorem dX8_stands_72 : decode cX8_stands 72 = .ok (.iload_n 1, 1) := by decide +kernel
theorem dX8_stands_73 : decode cX8_stands 73 = .ok (.iload_n 2, 1) := by decide +kernel
theorem dX8_stands_74 : decode cX8_stands 74 = .ok (.invokevirtual 215, 3) := by decide +kernel
theorem dX8_stands_77 : decode cX8_stands 77 = .ok (.ireturn, 1) := by decide +kernel
theorem dX8_stands_78 : decode cX8_stands 78 = .ok (.aload_n 0, 1) := by decide +kernel
theorem dX8_stands_79 : decode cX8_stands 79 = .ok (.iconst 2, 1) := by decide +kernel
theorem dX8_stands_80 : decode cX8_stands 80 = .ok (.putfield 178, 3) := by decide +kernel
theorem dX8_stands_83 : decode cX8_stands 83 = .ok (.iload_n 1, 1) := by decide +kernel
theorem dX8_stands_84 : decode cX8_stands 84 = .ok (.bipush 42, 2) := by decide +kernel
theorem dX8_stands_86 : decode cX8_stands 86 = .ok (.if_icmp .ne 7, 3) := by decide +kernel
theorem dX8_stands_89 : decode cX8_stands 89 = .ok (.iconst 1, 1) := by decide +kernel
theorem dX8_stands_90 : decode cX8_stands 90 = .ok (.goto 4, 3) := by decide +kernel
theorem dX8_stands_93 : decode cX8_stands 93 = .ok (.iconst 0, 1) := by decide +kernel
theorem dX8_stands_94 : decode cX8_stands 94 = .ok (.ireturn, 1) := by decide +kernel
theorem dX8_stands_95 : decode cX8_stands 95 = .ok (.aload_n 0, 1) := by decide +kernel
theorem dX8_stands_96 : decode cX8_stands 96 = .ok (.iload_n 1, 1) := by decide +kernel
theorem dX8_stands_97 : decode cX8_stands 97 = .ok (.iload_n 2, 1) := by decide +kernel
theorem dX8_stands_98 : decode cX8_stands 98 = .ok (.invokevirtual 215, 3) := by decide +kernel
theorem dX8_stands_101 : decode cX8_stands 101 = .ok (.ireturn, 1) := by decide +kernel
theorem dX8_stands_102 : decode cX8_stands 102 = .ok (.aload_n 0, 1) := by decide +kernel
theorem dX8_stands_103 : decode cX8_stands 103 = .ok (.iconst 0, 1) := by decide +kernel
theorem dX8_stands_104 : decode cX8_stands 104 = .ok (.putfield 178, 3) := by decide +kernel
theorem dX8_stands_107 : decode cX8_stands 107 = .ok (.iload_n 1, 1) := by decide +kernel
theorem dX8_stands_108 : decode cX8_stands 108 = .ok (.bipush 40, 2) := by decide +kernel
theorem dX8_stands_110 : decode cX8_stands 110 = .ok (.if_icmp .ne 7, 3) := by decide +kernel
theorem dX8_stands_113 : decode cX8_stands 113 = .ok (.iconst 1, 1) := by decide +kernel
theorem dX8_stands_114 : decode cX8_stands 114 = .ok (.goto 4, 3) := by decide +kernel
theorem dX8_stands_117 : decode cX8_stands 117 = .ok (.iconst 0, 1) := by decide +kernel
theorem dX8_stands_118 : decode cX8_stands 118 = .ok (.ireturn, 1) := by decide +kernel
theorem dX8_stands_119 : decode cX8_stands 119 = .ok (.aload_n 0, 1) := by decide +kernel
theorem dX8_stands_120 : decode cX8_stands 120 = .ok (.iload_n 1, 1) := by decide +kernel
theorem dX8_stands_121 : decode cX8_stands 121 = .ok (.iload_n 2, 1) := by decide +kernel
theorem dX8_stands_122 : decode cX8_stands 122 = .ok (.invokevirtual 218, 3) := by decide +kernel
theorem dX8_stands_125 : decode cX8_stands 125 = .ok (.ireturn, 1) := by decide +kernel
set_option maxRecDepth 20000 in
theorem ggX8_work_X8_pileOf : GoodIn wsX8_work wsX8_pileOf := goodIn_r _ [15] (by decide +kernel) (by decide +kernel)
set_option maxRecDepth 20000 in
theorem gX8_work_X8_pileOf : GoodIn wsX8_work (wsV RX8 170 RX8 yX8_pileOf wsX8_pileOf) := goodIn_app (goodIn_of _ (by decide +kernel)) ggX8_work_X8_pileOf
set_option maxRecDepth 20000 in
theorem ggX8_work_X8_blank : GoodIn wsX8_work wsX8_blank := goodIn_r _ [19, 20, 118, 119, 120, 121, 122, 123, 124, 125, 126, 127, 128, 129, 130, 131, 132, 133, 134, 135, 136, 137] (by decide +kernel) (by decide +kernel)
set_option maxRecDepth 20000 in
theorem gX8_work_X8_blank : GoodIn wsX8_work (wsV RX8 60 RX8 yX8_blank wsX8_blank) := goodIn_app (goodIn_of _ (by decide +kernel)) ggX8_work_X8_blank
set_option maxRecDepth 20000 in
theorem ggX8_work_X8_stands : GoodIn wsX8_work wsX8_stands := goodIn_r _ [24, 2, 8, 1, 25, 26, 27, 14, 28, 29, 30, 31, 32, 33, 34, 35, 20, 36, 37, 38, 39, 40, 41, 42, 43, 44, 45, 46, 47, 48, 49, 50, 51, 52, 53, 54, 55, 56, 57, 58, 59, 60, 16, 17, 18, 19, 61, 62, 63, 64, 7, 6, 11, 12, 13, 15, 65, 66, 67, 68, 69, 70, 71, 72, 73, 74, 75, 76, 77, 78, 79, 80, 81, 10, 3, 4, 82, 83, 84, 85, 86, 87, 88, 89, 5, 90, 91, 92, 93, 94, 95, 96, 97, 98, 99, 100, 101, 102, 103, 104, 105, 106, 107, 108, 109, 110, 111, 112, 113, 114, 115, 116, 117, 118, 119, 120, 121, 122, 123, 124, 125, 126, 127, 128, 129, 130, 131, 132, 133, 134, 135, 136, 137] (by decide +kernel) (by decide +kernel)
set_option maxRecDepth 20000 in
theorem gX8_work_X8_stands : GoodIn wsX8_work (wsV RX8 221 RX8 yX8_stands wsX8_stands) := goodIn_app (goodIn_of _ (by decide +kernel)) ggX8_work_X8_stands
theorem dX8_work_0 : decode cX8_work 0 = .ok (.aload_n 0, 1) := by decide +kernel
theorem dX8_work_1 : decode cX8_work 1 = .ok (.iconst 0, 1) := by decide +kernel
theorem dX8_work_2 : decode cX8_work 2 = .ok (.putfield 167, 3) := by decide +kernel
theorem dX8_work_5 : decode cX8_work 5 = .ok (.aload_n 0, 1) := by decide +kernel
theorem dX8_work_6 : decode cX8_work 6 = .ok (.iconst 0, 1) := by decide +kernel
theorem dX8_work_7 : decode cX8_work 7 = .ok (.putfield 178, 3) := by decide +kernel
theorem dX8_work_10 : decode cX8_work 10 = .ok (.aload_n 0, 1) := by decide +kernel
theorem dX8_work_11 : decode cX8_work 11 = .ok (.iconst 0, 1) := by decide +kernel
theorem dX8_work_12 : decode cX8_work 12 = .ok (.putfield 209, 3) := by decide +kernel
theorem dX8_work_15 : decode cX8_work 15 = .ok (.aload_n 0, 1) := by decide +kernel
theorem dX8_work_16 : decode cX8_work 16 = .ok (.iconst 0, 1) := by decide +kernel
theorem dX8_work_17 : decode cX8_work 17 = .ok (.putfield 212, 3) := by decide +kernel
theorem dX8_work_20 : decode cX8_work 20 = .ok (.aload_n 0, 1) := by decide +kernel
theorem dX8_work_21 : decode cX8_work 21 = .ok (.bipush (-6), 2) := by decide +kernel
theorem dX8_work_23 : decode cX8_work 23 = .ok (.putfield 188, 3) := by decide +kernel
theorem dX8_work_26 : decode cX8_work 26 = .ok (.aload_n 0, 1) := by decide +kernel
theorem dX8_work_27 : decode cX8_work 27 = .ok (.iconst 1, 1) := by decide +kernel
theorem dX8_work_28 : decode cX8_work 28 = .ok (.putfield 174, 3) := by decide +kernel
theorem dX8_work_31 : decode cX8_work 31 = .ok (.aload_n 0, 1) := by decide +kernel
theorem dX8_work_32 : decode cX8_work 32 = .ok (.getfield 36, 3) := by decide +kernel
theorem dX8_work_35 : decode cX8_work 35 = .ok (.iconst 0, 1) := by decide +kernel
theorem dX8_work_36 : decode cX8_work 36 = .ok (.iconst 0, 1) := by decide +kernel
theorem dX8_work_37 : decode cX8_work 37 = .ok (.iastore, 1) := by decide +kernel
theorem dX8_work_38 : decode cX8_work 38 = .ok (.aload_n 0, 1) := by decide +kernel
theorem dX8_work_39 : decode cX8_work 39 = .ok (.getfield 39, 3) := by decide +kernel
theorem dX8_work_42 : decode cX8_work 42 = .ok (.iconst 0, 1) := by decide +kernel
theorem dX8_work_43 : decode cX8_work 43 = .ok (.iconst 1, 1) := by decide +kernel
theorem dX8_work_44 : decode cX8_work 44 = .ok (.iastore, 1) := by decide +kernel
theorem dX8_work_45 : decode cX8_work 45 = .ok (.aload_n 0, 1) := by decide +kernel
theorem dX8_work_46 : decode cX8_work 46 = .ok (.aload_n 0, 1) := by decide +kernel
theorem dX8_work_47 : decode cX8_work 47 = .ok (.iconst 0, 1) := by decide +kernel
theorem dX8_work_48 : decode cX8_work 48 = .ok (.iconst 0, 1) := by decide +kernel
theorem dX8_work_49 : decode cX8_work 49 = .ok (.invokevirtual 170, 3) := by decide +kernel
theorem dX8_work_52 : decode cX8_work 52 = .ok (.invokevirtual 60, 3) := by decide +kernel
theorem dX8_work_55 : decode cX8_work 55 = .ok (.iconst 0, 1) := by decide +kernel
theorem dX8_work_56 : decode cX8_work 56 = .ok (.istore_n 1, 1) := by decide +kernel
theorem dX8_work_57 : decode cX8_work 57 = .ok (.iload_n 1, 1) := by decide +kernel
theorem dX8_work_58 : decode cX8_work 58 = .ok (.aload_n 0, 1) := by decide +kernel
theorem dX8_work_59 : decode cX8_work 59 = .ok (.getfield 159, 3) := by decide +kernel
theorem dX8_work_62 : decode cX8_work 62 = .ok (.if_icmp .ge 25, 3) := by decide +kernel
theorem dX8_work_65 : decode cX8_work 65 = .ok (.aload_n 0, 1) := by decide +kernel
theorem dX8_work_66 : decode cX8_work 66 = .ok (.aload_n 0, 1) := by decide +kernel
theorem dX8_work_67 : decode cX8_work 67 = .ok (.getfield 23, 3) := by decide +kernel
theorem dX8_work_70 : decode cX8_work 70 = .ok (.iload_n 1, 1) := by decide +kernel
theorem dX8_work_71 : decode cX8_work 71 = .ok (.caload, 1) := by decide +kernel
theorem dX8_work_72 : decode cX8_work 72 = .ok (.iload_n 1, 1) := by decide +kernel
theorem dX8_work_73 : decode cX8_work 73 = .ok (.invokevirtual 221, 3) := by decide +kernel
theorem dX8_work_76 : decode cX8_work 76 = .ok (.ifCond .ne 5, 3) := by decide +kernel
theorem dX8_work_79 : decode cX8_work 79 = .ok (.iload_n 1, 1) := by decide +kernel
theorem dX8_work_80 : decode cX8_work 80 = .ok (.ireturn, 1) := by decide +kernel
theorem dX8_work_81 : decode cX8_work 81 = .ok (.iinc 1 1, 3) := by decide +kernel
theorem dX8_work_84 : decode cX8_work 84 = .ok (.goto (-27), 3) := by decide +kernel
theorem dX8_work_87 : decode cX8_work 87 = .ok (.aload_n 0, 1) := by decide +kernel
theorem dX8_work_88 : decode cX8_work 88 = .ok (.getfield 178, 3) := by decide +kernel
theorem dX8_work_91 : decode cX8_work 91 = .ok (.iconst 4, 1) := by decide +kernel
theorem dX8_work_92 : decode cX8_work 92 = .ok (.if_icmp .ne 28, 3) := by decide +kernel
theorem dX8_work_95 : decode cX8_work 95 = .ok (.aload_n 0, 1) := by decide +kernel
theorem dX8_work_96 : decode cX8_work 96 = .ok (.getfield 167, 3) := by decide +kernel
theorem dX8_work_99 : decode cX8_work 99 = .ok (.ifCond .ne 21, 3) := by decide +kernel
theorem dX8_work_102 : decode cX8_work 102 = .ok (.aload_n 0, 1) := by decide +kernel
theorem dX8_work_103 : decode cX8_work 103 = .ok (.getfield 209, 3) := by decide +kernel
theorem dX8_work_106 : decode cX8_work 106 = .ok (.ifCond .ne 10, 3) := by decide +kernel
theorem dX8_work_109 : decode cX8_work 109 = .ok (.aload_n 0, 1) := by decide +kernel
theorem dX8_work_110 : decode cX8_work 110 = .ok (.getfield 212, 3) := by decide +kernel
theorem dX8_work_113 : decode cX8_work 113 = .ok (.ifCond .eq 7, 3) := by decide +kernel
theorem dX8_work_116 : decode cX8_work 116 = .ok (.iconst 1, 1) := by decide +kernel
theorem dX8_work_117 : decode cX8_work 117 = .ok (.goto 4, 3) := by decide +kernel
theorem dX8_work_120 : decode cX8_work 120 = .ok (.iconst 0, 1) := by decide +kernel
theorem dX8_work_121 : decode cX8_work 121 = .ok (.istore_n 1, 1) := by decide +kernel
theorem dX8_work_122 : decode cX8_work 122 = .ok (.iload_n 1, 1) := by decide +kernel
theorem dX8_work_123 : decode cX8_work 123 = .ok (.ifCond .eq 8, 3) := by decide +kernel
theorem dX8_work_126 : decode cX8_work 126 = .ok (.bipush (-6), 2) := by decide +kernel
theorem dX8_work_128 : decode cX8_work 128 = .ok (.goto 7, 3) := by decide +kernel
theorem dX8_work_131 : decode cX8_work 131 = .ok (.aload_n 0, 1) := by decide +kernel
theorem dX8_work_132 : decode cX8_work 132 = .ok (.getfield 159, 3) := by decide +kernel
theorem dX8_work_135 : decode cX8_work 135 = .ok (.ireturn, 1) := by decide +kernel
set_option maxRecDepth 20000 in
theorem ggX8_fault_X8_work : GoodIn wsX8_fault wsX8_work := goodIn_r _ [5, 6, 7, 8, 9, 10, 11, 12, 13, 14, 15, 16, 17, 18, 4, 19, 20, 21, 22, 23, 24, 25, 26, 27, 28, 29, 30, 31, 32, 33, 34, 35, 36, 37, 38, 39, 40, 41, 42, 43, 44, 45, 46, 47, 48, 49, 50, 51, 52, 53, 54, 55, 56, 57, 58, 59, 60, 61, 62, 63, 64, 65, 66, 67, 68, 69, 70, 71, 72, 73, 74, 75, 76, 77, 78, 79, 80, 81, 82, 83, 84, 85, 86, 87, 88, 89, 90, 91, 92, 93, 94, 95, 96, 97, 98, 99, 100, 101, 102, 103, 104, 105, 106, 107, 108, 109, 110, 111, 112, 113, 114, 115, 116, 117, 118, 119, 120, 121, 122, 123, 124, 125, 126, 127, 128, 129, 130, 131, 132, 133, 134, 135, 136, 137, 138, 139, 140, 141] (by decide +kernel) (by decide +kernel)
set_option maxRecDepth 20000 in
theorem gX8_fault_X8_work : GoodIn wsX8_fault (wsV RX8 224 RX8 yX8_work wsX8_work) := goodIn_app (goodIn_of _ (by decide +kernel)) ggX8_fault_X8_work
theorem dX8_fault_0 : decode cX8_fault 0 = .ok (.aload_n 0, 1) := by decide +kernel
theorem dX8_fault_1 : decode cX8_fault 1 = .ok (.invokevirtual 224, 3) := by decide +kernel
theorem dX8_fault_4 : decode cX8_fault 4 = .ok (.ireturn, 1) := by decide +kernel
set_option maxRecDepth 20000 in
theorem ggX8_run_X8_work : GoodIn wsX8_run wsX8_work := goodIn_r _ [9, 10, 11, 1, 12, 2, 13, 14, 15, 4, 3, 16, 17, 18, 8, 19, 20, 21, 22, 23, 24, 25, 26, 27, 28, 29, 30, 31, 32, 33, 34, 35, 36, 37, 38, 39, 40, 41, 42, 43, 44, 45, 46, 47, 48, 49, 50, 51, 52, 53, 54, 55, 56, 57, 58, 59, 60, 61, 62, 63, 64, 65, 66, 67, 68, 69, 70, 71, 72, 73, 74, 75, 76, 77, 78, 79, 80, 81, 82, 83, 84, 85, 86, 87, 88, 89, 90, 91, 92, 93, 94, 95, 96, 97, 98, 99, 100, 101, 102, 103, 104, 105, 106, 107, 108, 109, 110, 111, 112, 113, 114, 115, 116, 117, 118, 119, 120, 121, 132, 133, 134, 135, 136, 137, 138, 139, 140, 141, 142, 143, 144, 145, 146, 147, 148, 149, 150, 151] (by decide +kernel) (by decide +kernel)
set_option maxRecDepth 20000 in
theorem gX8_run_X8_work : GoodIn wsX8_run (wsV RX8 224 RX8 yX8_work wsX8_work) := goodIn_app (goodIn_of _ (by decide +kernel)) ggX8_run_X8_work
set_option maxRecDepth 20000 in
theorem ggX8_run_X8_record : GoodIn wsX8_run wsX8_record := goodIn_r _ [125, 126, 127, 40, 132, 133, 134, 135, 136, 137, 138, 139, 140, 141, 142, 143, 144, 145, 146, 147, 148, 149, 150, 151] (by decide +kernel) (by decide +kernel)
set_option maxRecDepth 20000 in
theorem gX8_run_X8_record : GoodIn wsX8_run (wsV RX8 57 RX8 yX8_record wsX8_record) := goodIn_app (goodIn_of _ (by decide +kernel)) ggX8_run_X8_record
set_option maxRecDepth 20000 in
theorem ggX8_run_X8_pileOf : GoodIn wsX8_run wsX8_pileOf := goodIn_r _ [19] (by decide +kernel) (by decide +kernel)
set_option maxRecDepth 20000 in
theorem gX8_run_X8_pileOf : GoodIn wsX8_run (wsV RX8 170 RX8 yX8_pileOf wsX8_pileOf) := goodIn_app (goodIn_of _ (by decide +kernel)) ggX8_run_X8_pileOf
set_option maxRecDepth 20000 in
theorem ggX8_run_X8_store : GoodIn wsX8_run wsX8_store := goodIn_r _ [131, 40, 24, 132, 133, 134, 135, 136, 137, 138, 139, 140, 141, 142, 143, 144, 145, 146, 147, 148, 149, 150, 151] (by decide +kernel) (by decide +kernel)
set_option maxRecDepth 20000 in
theorem gX8_run_X8_store : GoodIn wsX8_run (wsV RX8 125 RX8 yX8_store wsX8_store) := goodIn_app (goodIn_of _ (by decide +kernel)) ggX8_run_X8_store
theorem dX8_run_0 : decode cX8_run 0 = .ok (.aload_n 0, 1) := by decide +kernel
theorem dX8_run_1 : decode cX8_run 1 = .ok (.invokevirtual 224, 3) := by decide +kernel
theorem dX8_run_4 : decode cX8_run 4 = .ok (.bipush (-6), 2) := by decide +kernel
theorem dX8_run_6 : decode cX8_run 6 = .ok (.if_icmp .eq 6, 3) := by decide +kernel
theorem dX8_run_9 : decode cX8_run 9 = .ok (.bipush (-3), 2) := by decide +kernel
theorem dX8_run_11 : decode cX8_run 11 = .ok (.ireturn, 1) := by decide +kernel
theorem dX8_run_12 : decode cX8_run 12 = .ok (.aload_n 0, 1) := by decide +kernel
theorem dX8_run_13 : decode cX8_run 13 = .ok (.getfield 209, 3) := by decide +kernel
theorem dX8_run_16 : decode cX8_run 16 = .ok (.ifCond .eq 12, 3) := by decide +kernel
theorem dX8_run_19 : decode cX8_run 19 = .ok (.aload_n 0, 1) := by decide +kernel
theorem dX8_run_20 : decode cX8_run 20 = .ok (.getfield 188, 3) := by decide +kernel
theorem dX8_run_23 : decode cX8_run 23 = .ok (.bipush (-6), 2) := by decide +kernel
theorem dX8_run_25 : decode cX8_run 25 = .ok (.if_icmp .eq 6, 3) := by decide +kernel
theorem dX8_run_28 : decode cX8_run 28 = .ok (.bipush (-5), 2) := by decide +kernel
theorem dX8_run_30 : decode cX8_run 30 = .ok (.ireturn, 1) := by decide +kernel
theorem dX8_run_31 : decode cX8_run 31 = .ok (.aload_n 0, 1) := by decide +kernel
theorem dX8_run_32 : decode cX8_run 32 = .ok (.invokevirtual 57, 3) := by decide +kernel
theorem dX8_run_35 : decode cX8_run 35 = .ok (.aload_n 0, 1) := by decide +kernel
theorem dX8_run_36 : decode cX8_run 36 = .ok (.getfield 23, 3) := by decide +kernel
theorem dX8_run_39 : decode cX8_run 39 = .ok (.iconst 0, 1) := by decide +kernel
theorem dX8_run_40 : decode cX8_run 40 = .ok (.caload, 1) := by decide +kernel
theorem dX8_run_41 : decode cX8_run 41 = .ok (.bipush 65, 2) := by decide +kernel
theorem dX8_run_43 : decode cX8_run 43 = .ok (.isub, 1) := by decide +kernel
theorem dX8_run_44 : decode cX8_run 44 = .ok (.istore_n 1, 1) := by decide +kernel
theorem dX8_run_45 : decode cX8_run 45 = .ok (.aload_n 0, 1) := by decide +kernel
theorem dX8_run_46 : decode cX8_run 46 = .ok (.aload_n 0, 1) := by decide +kernel
theorem dX8_run_47 : decode cX8_run 47 = .ok (.iconst 0, 1) := by decide +kernel
theorem dX8_run_48 : decode cX8_run 48 = .ok (.iconst 0, 1) := by decide +kernel
theorem dX8_run_49 : decode cX8_run 49 = .ok (.invokevirtual 170, 3) := by decide +kernel
theorem dX8_run_52 : decode cX8_run 52 = .ok (.iload_n 1, 1) := by decide +kernel
theorem dX8_run_53 : decode cX8_run 53 = .ok (.invokevirtual 125, 3) := by decide +kernel
theorem dX8_run_56 : decode cX8_run 56 = .ok (.aload_n 0, 1) := by decide +kernel
theorem dX8_run_57 : decode cX8_run 57 = .ok (.iconst 0, 1) := by decide +kernel
theorem dX8_run_58 : decode cX8_run 58 = .ok (.putfield 159, 3) := by decide +kernel
theorem dX8_run_61 : decode cX8_run 61 = .ok (.iload_n 1, 1) := by decide +kernel
theorem dX8_run_62 : decode cX8_run 62 = .ok (.ireturn, 1) := by decide +kernel
set_option maxRecDepth 20000 in
theorem ggX8_holds_X8_work : GoodIn wsX8_holds wsX8_work := goodIn_r _ [7, 8, 9, 1, 10, 2, 11, 12, 13, 14, 15, 16, 17, 18, 6, 19, 20, 21, 22, 23, 24, 25, 26, 27, 28, 29, 30, 31, 32, 33, 34, 35, 36, 37, 38, 39, 40, 41, 42, 43, 44, 45, 46, 47, 48, 49, 50, 51, 52, 53, 54, 55, 56, 57, 58, 59, 60, 61, 62, 63, 64, 65, 66, 67, 68, 69, 70, 71, 72, 73, 74, 75, 76, 77, 78, 79, 80, 81, 82, 83, 84, 85, 86, 87, 88, 89, 90, 91, 92, 93, 94, 95, 96, 97, 98, 99, 100, 101, 102, 103, 104, 105, 106, 107, 108, 109, 110, 111, 112, 113, 114, 115, 116, 117, 118, 119, 120, 121, 126, 127, 128, 129, 130, 131, 132, 133, 134, 135, 136, 137, 138, 139, 140, 141, 142, 143, 144, 145] (by decide +kernel) (by decide +kernel)
set_option maxRecDepth 20000 in
theorem gX8_holds_X8_work : GoodIn wsX8_holds (wsV RX8 224 RX8 yX8_work wsX8_work) := goodIn_app (goodIn_of _ (by decide +kernel)) ggX8_holds_X8_work
set_option maxRecDepth 20000 in
theorem ggX8_holds_X8_pileOf : GoodIn wsX8_holds wsX8_pileOf := goodIn_r _ [19] (by decide +kernel) (by decide +kernel)
set_option maxRecDepth 20000 in
theorem gX8_holds_X8_pileOf : GoodIn wsX8_holds (wsV RX8 170 RX8 yX8_pileOf wsX8_pileOf) := goodIn_app (goodIn_of _ (by decide +kernel)) ggX8_holds_X8_pileOf
set_option maxRecDepth 20000 in
theorem ggX8_holds_X8_areAlike : GoodIn wsX8_holds wsX8_areAlike := goodIn_r _ [125, 24, 126, 127, 128, 129, 130, 131, 132, 133, 134, 135, 136, 137, 138, 139, 140, 141, 142, 143, 144, 145] (by decide +kernel) (by decide +kernel)
set_option maxRecDepth 20000 in
theorem gX8_holds_X8_areAlike : GoodIn wsX8_holds (wsV RX8 102 RX8 yX8_areAlike wsX8_areAlike) := goodIn_app (goodIn_of _ (by decide +kernel)) ggX8_holds_X8_areAlike
theorem dX8_holds_0 : decode cX8_holds 0 = .ok (.aload_n 0, 1) := by decide +kernel
theorem dX8_holds_1 : decode cX8_holds 1 = .ok (.invokevirtual 224, 3) := by decide +kernel
theorem dX8_holds_4 : decode cX8_holds 4 = .ok (.bipush (-6), 2) := by decide +kernel
theorem dX8_holds_6 : decode cX8_holds 6 = .ok (.if_icmp .eq 6, 3) := by decide +kernel
theorem dX8_holds_9 : decode cX8_holds 9 = .ok (.bipush (-3), 2) := by decide +kernel
theorem dX8_holds_11 : decode cX8_holds 11 = .ok (.ireturn, 1) := by decide +kernel
theorem dX8_holds_12 : decode cX8_holds 12 = .ok (.aload_n 0, 1) := by decide +kernel
theorem dX8_holds_13 : decode cX8_holds 13 = .ok (.getfield 209, 3) := by decide +kernel
theorem dX8_holds_16 : decode cX8_holds 16 = .ok (.ifCond .ne 12, 3) := by decide +kernel
theorem dX8_holds_19 : decode cX8_holds 19 = .ok (.aload_n 0, 1) := by decide +kernel
theorem dX8_holds_20 : decode cX8_holds 20 = .ok (.getfield 188, 3) := by decide +kernel
theorem dX8_holds_23 : decode cX8_holds 23 = .ok (.bipush (-6), 2) := by decide +kernel
theorem dX8_holds_25 : decode cX8_holds 25 = .ok (.if_icmp .eq 6, 3) := by decide +kernel
theorem dX8_holds_28 : decode cX8_holds 28 = .ok (.bipush (-5), 2) := by decide +kernel
theorem dX8_holds_30 : decode cX8_holds 30 = .ok (.ireturn, 1) := by decide +kernel
theorem dX8_holds_31 : decode cX8_holds 31 = .ok (.aload_n 0, 1) := by decide +kernel
theorem dX8_holds_32 : decode cX8_holds 32 = .ok (.bipush 126, 2) := by decide +kernel
theorem dX8_holds_34 : decode cX8_holds 34 = .ok (.aload_n 0, 1) := by decide +kernel
theorem dX8_holds_35 : decode cX8_holds 35 = .ok (.iconst 0, 1) := by decide +kernel
theorem dX8_holds_36 : decode cX8_holds 36 = .ok (.iconst 0, 1) := by decide +kernel
theorem dX8_holds_37 : decode cX8_holds 37 = .ok (.invokevirtual 170, 3) := by decide +kernel
theorem dX8_holds_40 : decode cX8_holds 40 = .ok (.invokevirtual 102, 3) := by decide +kernel
theorem dX8_holds_43 : decode cX8_holds 43 = .ok (.ifCond .eq 7, 3) := by decide +kernel
theorem dX8_holds_46 : decode cX8_holds 46 = .ok (.iconst 1, 1) := by decide +kernel
theorem dX8_holds_47 : decode cX8_holds 47 = .ok (.goto 4, 3) := by decide +kernel
theorem dX8_holds_50 : decode cX8_holds 50 = .ok (.iconst 0, 1) := by decide +kernel
theorem dX8_holds_51 : decode cX8_holds 51 = .ok (.ireturn, 1) := by decide +kernel
set_option maxRecDepth 20000 in
theorem ggX8_stops_X8_work : GoodIn wsX8_stops wsX8_work := goodIn_r _ [6, 7, 8, 9, 10, 1, 11, 12, 13, 14, 15, 16, 17, 18, 5, 19, 20, 21, 22, 23, 24, 25, 26, 27, 28, 29, 30, 31, 32, 33, 34, 35, 36, 37, 38, 39, 40, 41, 42, 43, 44, 45, 46, 47, 48, 49, 50, 51, 52, 53, 54, 55, 56, 57, 58, 59, 60, 61, 62, 63, 64, 65, 66, 67, 68, 69, 70, 71, 72, 73, 74, 75, 76, 77, 78, 79, 80, 81, 82, 83, 84, 85, 86, 87, 88, 89, 90, 91, 92, 93, 94, 95, 96, 97, 98, 99, 100, 101, 102, 103, 104, 105, 106, 107, 108, 109, 110, 111, 112, 113, 114, 115, 116, 117, 118, 119, 120, 121, 122, 123, 124, 125, 126, 127, 128, 129, 130, 131, 132, 133, 134, 135, 136, 137, 138, 139, 140, 141] (by decide +kernel) (by decide +kernel)
set_option maxRecDepth 20000 in
theorem gX8_stops_X8_work : GoodIn wsX8_stops (wsV RX8 224 RX8 yX8_work wsX8_work) := goodIn_app (goodIn_of _ (by decide +kernel)) ggX8_stops_X8_work
theorem dX8_stops_0 : decode cX8_stops 0 = .ok (.aload_n 0, 1) := by decide +kernel
theorem dX8_stops_1 : decode cX8_stops 1 = .ok (.invokevirtual 224, 3) := by decide +kernel
theorem dX8_stops_4 : decode cX8_stops 4 = .ok (.bipush (-6), 2) := by decide +kernel
theorem dX8_stops_6 : decode cX8_stops 6 = .ok (.if_icmp .eq 8, 3) := by decide +kernel
theorem dX8_stops_9 : decode cX8_stops 9 = .ok (.bipush (-3), 2) := by decide +kernel
theorem dX8_stops_11 : decode cX8_stops 11 = .ok (.goto 7, 3) := by decide +kernel
theorem dX8_stops_14 : decode cX8_stops 14 = .ok (.aload_n 0, 1) := by decide +kernel
theorem dX8_stops_15 : decode cX8_stops 15 = .ok (.getfield 188, 3) := by decide +kernel
theorem dX8_stops_18 : decode cX8_stops 18 = .ok (.ireturn, 1) := by decide +kernel
theorem dJ9_min_7cf53_0 : decode cJ9_min_7cf53 0 = .ok (.iload_n 0, 1) := by decide +kernel
theorem dJ9_min_7cf53_1 : decode cJ9_min_7cf53 1 = .ok (.iload_n 1, 1) := by decide +kernel
theorem dJ9_min_7cf53_2 : decode cJ9_min_7cf53 2 = .ok (.if_icmp .gt 7, 3) := by decide +kernel
theorem dJ9_min_7cf53_5 : decode cJ9_min_7cf53 5 = .ok (.iload_n 0, 1) := by decide +kernel
theorem dJ9_min_7cf53_6 : decode cJ9_min_7cf53 6 = .ok (.goto 4, 3) := by decide +kernel
theorem dJ9_min_7cf53_9 : decode cJ9_min_7cf53 9 = .ok (.iload_n 1, 1) := by decide +kernel
theorem dJ9_min_7cf53_10 : decode cJ9_min_7cf53 10 = .ok (.ireturn, 1) := by decide +kernel
