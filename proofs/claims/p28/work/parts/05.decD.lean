set_option maxRecDepth 20000 in
theorem ggL_areBoxes_X7_box : GoodIn wsL_areBoxes wsX7_box := goodIn_r _ [5, 6, 7, 8, 9, 10, 11, 4, 12, 13, 14, 15, 16, 17, 18, 19, 20, 21, 22, 23, 24, 25, 26, 27, 28, 29, 30, 31, 32, 33, 34, 35, 36, 37, 38, 39, 40, 41, 42, 43, 44, 45, 46, 47, 48, 49, 50, 51, 52, 53, 54, 55, 56, 57, 58, 59, 60, 61, 62, 63, 64, 65, 66, 67, 68, 69, 70, 71, 72, 132, 133, 134, 135, 136, 137, 138, 139, 140, 141, 142, 143, 144, 145, 146, 147, 148, 149, 150, 151, 152, 153] (by decide +kernel) (by decide +kernel)
set_option maxRecDepth 20000 in
theorem gL_areBoxes_X7_box : GoodIn wsL_areBoxes (wsV RL 41 RX7 yX7_box wsX7_box) := goodIn_app (goodIn_of _ (by decide +kernel)) ggL_areBoxes_X7_box
set_option maxRecDepth 20000 in
theorem ggL_areBoxes_X7_apple : GoodIn wsL_areBoxes wsX7_apple := goodIn_r _ [76, 6, 7, 8, 10, 11, 4, 12, 77, 20, 21, 16, 22, 23, 78, 25, 26, 27, 79, 54, 55, 80, 57, 58, 81, 37, 38, 31, 39, 40, 41, 42, 43, 44, 45, 46, 47, 48, 49, 50, 51, 52, 53, 56, 132, 133, 134, 135, 136, 137, 138, 139, 140, 141, 142, 143, 144, 145, 146, 147, 148, 149, 150, 151, 152, 153] (by decide +kernel) (by decide +kernel)
set_option maxRecDepth 20000 in
theorem gL_areBoxes_X7_apple : GoodIn wsL_areBoxes (wsV RL 44 RX7 yX7_apple wsX7_apple) := goodIn_app (goodIn_of _ (by decide +kernel)) ggL_areBoxes_X7_apple
set_option maxRecDepth 20000 in
theorem ggL_areBoxes_L_lane : GoodIn wsL_areBoxes wsL_lane := goodIn_r _ [85, 86, 87, 84, 88] (by decide +kernel) (by decide +kernel)
set_option maxRecDepth 20000 in
theorem gL_areBoxes_L_lane : GoodIn wsL_areBoxes (va_wsS RL 23 yL_lane wsL_lane) := goodIn_app (goodIn_of _ (by decide +kernel)) ggL_areBoxes_L_lane
set_option maxRecDepth 20000 in
theorem ggL_areBoxes_X7_count : GoodIn wsL_areBoxes wsX7_count := goodIn_r _ [92, 6, 93, 94, 95, 96, 7, 97, 98, 99, 100, 101, 102, 103, 104, 105, 106, 107, 108, 109, 110, 111, 112, 113, 114, 115, 116, 16, 117, 18, 118, 119, 120, 31, 121, 122, 29, 30, 32, 33, 34, 35, 20, 21, 22, 23, 36, 37, 38, 39, 40, 41, 42, 43, 44, 45, 46, 47, 48, 49, 50, 26, 51, 52, 25, 27, 53, 54, 55, 56, 57, 58, 123, 124, 125, 126, 127, 132, 133, 134, 135, 136, 137, 138, 139, 140, 141, 142, 143, 144, 145, 146, 147, 148, 151, 152, 153, 154, 155, 156, 157, 158, 159, 160, 161, 162, 163, 164, 165, 166, 167, 149, 150] (by decide +kernel) (by decide +kernel)
set_option maxRecDepth 20000 in
theorem gL_areBoxes_X7_count : GoodIn wsL_areBoxes (wsV RL 37 RX7 yX7_count wsX7_count) := goodIn_app (goodIn_of _ (by decide +kernel)) ggL_areBoxes_X7_count
set_option maxRecDepth 20000 in
theorem ggL_areBoxes_X7_right : GoodIn wsL_areBoxes wsX7_right := goodIn_r _ [131, 6, 7, 114, 115, 116, 16, 117, 18, 118, 119, 120, 31, 121, 122, 29, 30, 32, 33, 34, 35, 20, 21, 22, 23, 36, 37, 38, 39, 40, 41, 42, 43, 44, 45, 46, 47, 48, 49, 50, 26, 51, 52, 25, 27, 53, 54, 55, 56, 57, 58, 132, 133, 134, 135, 136, 137, 138, 139, 140, 141, 142, 143, 144, 145, 146, 147, 148, 149, 150, 151, 152, 153] (by decide +kernel) (by decide +kernel)
set_option maxRecDepth 20000 in
theorem gL_areBoxes_X7_right : GoodIn wsL_areBoxes (wsV RL 47 RX7 yX7_right wsX7_right) := goodIn_app (goodIn_of _ (by decide +kernel)) ggL_areBoxes_X7_right
theorem dL_areBoxes_0 : decode cL_areBoxes 0 = .ok (.iconst 0, 1) := by decide +kernel
theorem dL_areBoxes_1 : decode cL_areBoxes 1 = .ok (.istore 5, 2) := by decide +kernel
theorem dL_areBoxes_3 : decode cL_areBoxes 3 = .ok (.iconst 0, 1) := by decide +kernel
theorem dL_areBoxes_4 : decode cL_areBoxes 4 = .ok (.istore 6, 2) := by decide +kernel
theorem dL_areBoxes_6 : decode cL_areBoxes 6 = .ok (.aload_n 0, 1) := by decide +kernel
theorem dL_areBoxes_7 : decode cL_areBoxes 7 = .ok (.iconst 5, 1) := by decide +kernel
theorem dL_areBoxes_8 : decode cL_areBoxes 8 = .ok (.iconst 0, 1) := by decide +kernel
theorem dL_areBoxes_9 : decode cL_areBoxes 9 = .ok (.invokevirtual 41, 3) := by decide +kernel
theorem dL_areBoxes_12 : decode cL_areBoxes 12 = .ok (.iconst (-1), 1) := by decide +kernel
theorem dL_areBoxes_13 : decode cL_areBoxes 13 = .ok (.if_icmp .ne 51, 3) := by decide +kernel
theorem dL_areBoxes_16 : decode cL_areBoxes 16 = .ok (.aload_n 0, 1) := by decide +kernel
theorem dL_areBoxes_17 : decode cL_areBoxes 17 = .ok (.iconst 0, 1) := by decide +kernel
theorem dL_areBoxes_18 : decode cL_areBoxes 18 = .ok (.bipush 6, 2) := by decide +kernel
theorem dL_areBoxes_20 : decode cL_areBoxes 20 = .ok (.invokevirtual 41, 3) := by decide +kernel
theorem dL_areBoxes_23 : decode cL_areBoxes 23 = .ok (.iconst (-1), 1) := by decide +kernel
theorem dL_areBoxes_24 : decode cL_areBoxes 24 = .ok (.if_icmp .ne 40, 3) := by decide +kernel
theorem dL_areBoxes_27 : decode cL_areBoxes 27 = .ok (.aload_n 0, 1) := by decide +kernel
theorem dL_areBoxes_28 : decode cL_areBoxes 28 = .ok (.iconst 5, 1) := by decide +kernel
theorem dL_areBoxes_29 : decode cL_areBoxes 29 = .ok (.iconst 0, 1) := by decide +kernel
theorem dL_areBoxes_30 : decode cL_areBoxes 30 = .ok (.iconst 0, 1) := by decide +kernel
theorem dL_areBoxes_31 : decode cL_areBoxes 31 = .ok (.invokevirtual 44, 3) := by decide +kernel
theorem dL_areBoxes_34 : decode cL_areBoxes 34 = .ok (.iconst (-1), 1) := by decide +kernel
theorem dL_areBoxes_35 : decode cL_areBoxes 35 = .ok (.if_icmp .ne 29, 3) := by decide +kernel
theorem dL_areBoxes_38 : decode cL_areBoxes 38 = .ok (.aload_n 0, 1) := by decide +kernel
theorem dL_areBoxes_39 : decode cL_areBoxes 39 = .ok (.iconst 0, 1) := by decide +kernel
theorem dL_areBoxes_40 : decode cL_areBoxes 40 = .ok (.iconst (-1), 1) := by decide +kernel
theorem dL_areBoxes_41 : decode cL_areBoxes 41 = .ok (.iconst 0, 1) := by decide +kernel
theorem dL_areBoxes_42 : decode cL_areBoxes 42 = .ok (.invokevirtual 44, 3) := by decide +kernel
theorem dL_areBoxes_45 : decode cL_areBoxes 45 = .ok (.iconst (-1), 1) := by decide +kernel
theorem dL_areBoxes_46 : decode cL_areBoxes 46 = .ok (.if_icmp .ne 18, 3) := by decide +kernel
theorem dL_areBoxes_49 : decode cL_areBoxes 49 = .ok (.aload_n 0, 1) := by decide +kernel
theorem dL_areBoxes_50 : decode cL_areBoxes 50 = .ok (.iconst 0, 1) := by decide +kernel
theorem dL_areBoxes_51 : decode cL_areBoxes 51 = .ok (.iconst 0, 1) := by decide +kernel
theorem dL_areBoxes_52 : decode cL_areBoxes 52 = .ok (.iconst 4, 1) := by decide +kernel
theorem dL_areBoxes_53 : decode cL_areBoxes 53 = .ok (.invokevirtual 44, 3) := by decide +kernel
theorem dL_areBoxes_56 : decode cL_areBoxes 56 = .ok (.iconst (-1), 1) := by decide +kernel
theorem dL_areBoxes_57 : decode cL_areBoxes 57 = .ok (.if_icmp .ne 7, 3) := by decide +kernel
theorem dL_areBoxes_60 : decode cL_areBoxes 60 = .ok (.iconst 1, 1) := by decide +kernel
theorem dL_areBoxes_61 : decode cL_areBoxes 61 = .ok (.goto 4, 3) := by decide +kernel
theorem dL_areBoxes_64 : decode cL_areBoxes 64 = .ok (.iconst 0, 1) := by decide +kernel
theorem dL_areBoxes_65 : decode cL_areBoxes 65 = .ok (.istore 7, 2) := by decide +kernel
theorem dL_areBoxes_67 : decode cL_areBoxes 67 = .ok (.iconst 0, 1) := by decide +kernel
theorem dL_areBoxes_68 : decode cL_areBoxes 68 = .ok (.istore 8, 2) := by decide +kernel
theorem dL_areBoxes_70 : decode cL_areBoxes 70 = .ok (.iload 8, 2) := by decide +kernel
theorem dL_areBoxes_72 : decode cL_areBoxes 72 = .ok (.iconst 4, 1) := by decide +kernel
theorem dL_areBoxes_73 : decode cL_areBoxes 73 = .ok (.if_icmp .ge 359, 3) := by decide +kernel
theorem dL_areBoxes_76 : decode cL_areBoxes 76 = .ok (.iload 7, 2) := by decide +kernel
theorem dL_areBoxes_78 : decode cL_areBoxes 78 = .ok (.ifCond .eq 354, 3) := by decide +kernel
theorem dL_areBoxes_81 : decode cL_areBoxes 81 = .ok (.iconst 0, 1) := by decide +kernel
theorem dL_areBoxes_82 : decode cL_areBoxes 82 = .ok (.istore 9, 2) := by decide +kernel
theorem dL_areBoxes_84 : decode cL_areBoxes 84 = .ok (.iconst 0, 1) := by decide +kernel
theorem dL_areBoxes_85 : decode cL_areBoxes 85 = .ok (.istore 10, 2) := by decide +kernel
theorem dL_areBoxes_87 : decode cL_areBoxes 87 = .ok (.bipush (-4), 2) := by decide +kernel
theorem dL_areBoxes_89 : decode cL_areBoxes 89 = .ok (.istore 11, 2) := by decide +kernel
theorem dL_areBoxes_91 : decode cL_areBoxes 91 = .ok (.bipush (-4), 2) := by decide +kernel
theorem dL_areBoxes_93 : decode cL_areBoxes 93 = .ok (.istore 12, 2) := by decide +kernel
theorem dL_areBoxes_95 : decode cL_areBoxes 95 = .ok (.iconst 0, 1) := by decide +kernel
theorem dL_areBoxes_96 : decode cL_areBoxes 96 = .ok (.istore 13, 2) := by decide +kernel
theorem dL_areBoxes_98 : decode cL_areBoxes 98 = .ok (.iload 13, 2) := by decide +kernel
theorem dL_areBoxes_100 : decode cL_areBoxes 100 = .ok (.aload_n 2, 1) := by decide +kernel
theorem dL_areBoxes_101 : decode cL_areBoxes 101 = .ok (.iload 8, 2) := by decide +kernel
theorem dL_areBoxes_103 : decode cL_areBoxes 103 = .ok (.iaload, 1) := by decide +kernel
theorem dL_areBoxes_104 : decode cL_areBoxes 104 = .ok (.if_icmp .ge 197, 3) := by decide +kernel
theorem dL_areBoxes_107 : decode cL_areBoxes 107 = .ok (.aload_n 1, 1) := by decide +kernel
theorem dL_areBoxes_108 : decode cL_areBoxes 108 = .ok (.bipush 15, 2) := by decide +kernel
theorem dL_areBoxes_110 : decode cL_areBoxes 110 = .ok (.iload 8, 2) := by decide +kernel
theorem dL_areBoxes_112 : decode cL_areBoxes 112 = .ok (.imul, 1) := by decide +kernel
theorem dL_areBoxes_113 : decode cL_areBoxes 113 = .ok (.iload 13, 2) := by decide +kernel
theorem dL_areBoxes_115 : decode cL_areBoxes 115 = .ok (.iadd, 1) := by decide +kernel
theorem dL_areBoxes_116 : decode cL_areBoxes 116 = .ok (.iaload, 1) := by decide +kernel
theorem dL_areBoxes_117 : decode cL_areBoxes 117 = .ok (.istore 14, 2) := by decide +kernel
theorem dL_areBoxes_119 : decode cL_areBoxes 119 = .ok (.aload_n 2, 1) := by decide +kernel
theorem dL_areBoxes_120 : decode cL_areBoxes 120 = .ok (.aload_n 3, 1) := by decide +kernel
theorem dL_areBoxes_121 : decode cL_areBoxes 121 = .ok (.iload 14, 2) := by decide +kernel
theorem dL_areBoxes_123 : decode cL_areBoxes 123 = .ok (.invokestatic 23, 3) := by decide +kernel
theorem dL_areBoxes_126 : decode cL_areBoxes 126 = .ok (.iload 8, 2) := by decide +kernel
theorem dL_areBoxes_128 : decode cL_areBoxes 128 = .ok (.if_icmp .ne 7, 3) := by decide +kernel
theorem dL_areBoxes_131 : decode cL_areBoxes 131 = .ok (.iconst 0, 1) := by decide +kernel
theorem dL_areBoxes_132 : decode cL_areBoxes 132 = .ok (.goto 4, 3) := by decide +kernel
theorem dL_areBoxes_135 : decode cL_areBoxes 135 = .ok (.iconst 1, 1) := by decide +kernel
theorem dL_areBoxes_136 : decode cL_areBoxes 136 = .ok (.istore 15, 2) := by decide +kernel
theorem dL_areBoxes_138 : decode cL_areBoxes 138 = .ok (.iload 9, 2) := by decide +kernel
theorem dL_areBoxes_140 : decode cL_areBoxes 140 = .ok (.iload 14, 2) := by decide +kernel
theorem dL_areBoxes_142 : decode cL_areBoxes 142 = .ok (.sipush 10000, 3) := by decide +kernel
theorem dL_areBoxes_145 : decode cL_areBoxes 145 = .ok (.idiv, 1) := by decide +kernel
theorem dL_areBoxes_146 : decode cL_areBoxes 146 = .ok (.iadd, 1) := by decide +kernel
theorem dL_areBoxes_147 : decode cL_areBoxes 147 = .ok (.istore 9, 2) := by decide +kernel
theorem dL_areBoxes_149 : decode cL_areBoxes 149 = .ok (.iload 10, 2) := by decide +kernel
theorem dL_areBoxes_151 : decode cL_areBoxes 151 = .ok (.iload 15, 2) := by decide +kernel
theorem dL_areBoxes_153 : decode cL_areBoxes 153 = .ok (.iadd, 1) := by decide +kernel
theorem dL_areBoxes_154 : decode cL_areBoxes 154 = .ok (.istore 10, 2) := by decide +kernel
theorem dL_areBoxes_156 : decode cL_areBoxes 156 = .ok (.iload 11, 2) := by decide +kernel
theorem dL_areBoxes_158 : decode cL_areBoxes 158 = .ok (.ifCond .lt 17, 3) := by decide +kernel
theorem dL_areBoxes_161 : decode cL_areBoxes 161 = .ok (.iload 14, 2) := by decide +kernel
theorem dL_areBoxes_163 : decode cL_areBoxes 163 = .ok (.bipush 10, 2) := by decide +kernel
theorem dL_areBoxes_165 : decode cL_areBoxes 165 = .ok (.idiv, 1) := by decide +kernel
theorem dL_areBoxes_166 : decode cL_areBoxes 166 = .ok (.sipush 1000, 3) := by decide +kernel
theorem dL_areBoxes_169 : decode cL_areBoxes 169 = .ok (.irem, 1) := by decide +kernel
theorem dL_areBoxes_170 : decode cL_areBoxes 170 = .ok (.iload 11, 2) := by decide +kernel
theorem dL_areBoxes_172 : decode cL_areBoxes 172 = .ok (.if_icmp .ge 15, 3) := by decide +kernel
theorem dL_areBoxes_175 : decode cL_areBoxes 175 = .ok (.iload 14, 2) := by decide +kernel
theorem dL_areBoxes_177 : decode cL_areBoxes 177 = .ok (.bipush 10, 2) := by decide +kernel
theorem dL_areBoxes_179 : decode cL_areBoxes 179 = .ok (.idiv, 1) := by decide +kernel
theorem dL_areBoxes_180 : decode cL_areBoxes 180 = .ok (.sipush 1000, 3) := by decide +kernel
theorem dL_areBoxes_183 : decode cL_areBoxes 183 = .ok (.irem, 1) := by decide +kernel
theorem dL_areBoxes_184 : decode cL_areBoxes 184 = .ok (.goto 5, 3) := by decide +kernel
theorem dL_areBoxes_187 : decode cL_areBoxes 187 = .ok (.iload 11, 2) := by decide +kernel
theorem dL_areBoxes_189 : decode cL_areBoxes 189 = .ok (.istore 11, 2) := by decide +kernel
theorem dL_areBoxes_191 : decode cL_areBoxes 191 = .ok (.iload 14, 2) := by decide +kernel
theorem dL_areBoxes_193 : decode cL_areBoxes 193 = .ok (.bipush 10, 2) := by decide +kernel
theorem dL_areBoxes_195 : decode cL_areBoxes 195 = .ok (.irem, 1) := by decide +kernel
theorem dL_areBoxes_196 : decode cL_areBoxes 196 = .ok (.iload 12, 2) := by decide +kernel
theorem dL_areBoxes_198 : decode cL_areBoxes 198 = .ok (.if_icmp .le 11, 3) := by decide +kernel
theorem dL_areBoxes_201 : decode cL_areBoxes 201 = .ok (.iload 14, 2) := by decide +kernel
theorem dL_areBoxes_203 : decode cL_areBoxes 203 = .ok (.bipush 10, 2) := by decide +kernel
theorem dL_areBoxes_205 : decode cL_areBoxes 205 = .ok (.irem, 1) := by decide +kernel
theorem dL_areBoxes_206 : decode cL_areBoxes 206 = .ok (.goto 5, 3) := by decide +kernel
theorem dL_areBoxes_209 : decode cL_areBoxes 209 = .ok (.iload 12, 2) := by decide +kernel
theorem dL_areBoxes_211 : decode cL_areBoxes 211 = .ok (.istore 12, 2) := by decide +kernel
theorem dL_areBoxes_213 : decode cL_areBoxes 213 = .ok (.iload 7, 2) := by decide +kernel
theorem dL_areBoxes_215 : decode cL_areBoxes 215 = .ok (.ifCond .eq 77, 3) := by decide +kernel
theorem dL_areBoxes_218 : decode cL_areBoxes 218 = .ok (.aload_n 0, 1) := by decide +kernel
theorem dL_areBoxes_219 : decode cL_areBoxes 219 = .ok (.iload 8, 2) := by decide +kernel
theorem dL_areBoxes_221 : decode cL_areBoxes 221 = .ok (.iload 13, 2) := by decide +kernel
theorem dL_areBoxes_223 : decode cL_areBoxes 223 = .ok (.iconst 0, 1) := by decide +kernel
theorem dL_areBoxes_224 : decode cL_areBoxes 224 = .ok (.invokevirtual 44, 3) := by decide +kernel
theorem dL_areBoxes_227 : decode cL_areBoxes 227 = .ok (.iload 14, 2) := by decide +kernel
theorem dL_areBoxes_229 : decode cL_areBoxes 229 = .ok (.sipush 10000, 3) := by decide +kernel
theorem dL_areBoxes_232 : decode cL_areBoxes 232 = .ok (.idiv, 1) := by decide +kernel
theorem dL_areBoxes_233 : decode cL_areBoxes 233 = .ok (.if_icmp .ne 59, 3) := by decide +kernel
theorem dL_areBoxes_236 : decode cL_areBoxes 236 = .ok (.aload_n 0, 1) := by decide +kernel
theorem dL_areBoxes_237 : decode cL_areBoxes 237 = .ok (.iload 8, 2) := by decide +kernel
theorem dL_areBoxes_239 : decode cL_areBoxes 239 = .ok (.iload 13, 2) := by decide +kernel
theorem dL_areBoxes_241 : decode cL_areBoxes 241 = .ok (.iconst 1, 1) := by decide +kernel
theorem dL_areBoxes_242 : decode cL_areBoxes 242 = .ok (.invokevirtual 44, 3) := by decide +kernel
theorem dL_areBoxes_245 : decode cL_areBoxes 245 = .ok (.iload 14, 2) := by decide +kernel
theorem dL_areBoxes_247 : decode cL_areBoxes 247 = .ok (.bipush 10, 2) := by decide +kernel
theorem dL_areBoxes_249 : decode cL_areBoxes 249 = .ok (.idiv, 1) := by decide +kernel
theorem dL_areBoxes_250 : decode cL_areBoxes 250 = .ok (.sipush 1000, 3) := by decide +kernel
theorem dL_areBoxes_253 : decode cL_areBoxes 253 = .ok (.irem, 1) := by decide +kernel
theorem dL_areBoxes_254 : decode cL_areBoxes 254 = .ok (.if_icmp .ne 38, 3) := by decide +kernel
theorem dL_areBoxes_257 : decode cL_areBoxes 257 = .ok (.aload_n 0, 1) := by decide +kernel
theorem dL_areBoxes_258 : decode cL_areBoxes 258 = .ok (.iload 8, 2) := by decide +kernel
theorem dL_areBoxes_260 : decode cL_areBoxes 260 = .ok (.iload 13, 2) := by decide +kernel
theorem dL_areBoxes_262 : decode cL_areBoxes 262 = .ok (.iconst 2, 1) := by decide +kernel
theorem dL_areBoxes_263 : decode cL_areBoxes 263 = .ok (.invokevirtual 44, 3) := by decide +kernel
theorem dL_areBoxes_266 : decode cL_areBoxes 266 = .ok (.iload 14, 2) := by decide +kernel
theorem dL_areBoxes_268 : decode cL_areBoxes 268 = .ok (.bipush 10, 2) := by decide +kernel
theorem dL_areBoxes_270 : decode cL_areBoxes 270 = .ok (.irem, 1) := by decide +kernel
theorem dL_areBoxes_271 : decode cL_areBoxes 271 = .ok (.if_icmp .ne 21, 3) := by decide +kernel
theorem dL_areBoxes_274 : decode cL_areBoxes 274 = .ok (.aload_n 0, 1) := by decide +kernel
theorem dL_areBoxes_275 : decode cL_areBoxes 275 = .ok (.iload 8, 2) := by decide +kernel
theorem dL_areBoxes_277 : decode cL_areBoxes 277 = .ok (.iload 13, 2) := by decide +kernel
theorem dL_areBoxes_279 : decode cL_areBoxes 279 = .ok (.iconst 3, 1) := by decide +kernel
theorem dL_areBoxes_280 : decode cL_areBoxes 280 = .ok (.invokevirtual 44, 3) := by decide +kernel
theorem dL_areBoxes_283 : decode cL_areBoxes 283 = .ok (.iload 15, 2) := by decide +kernel
theorem dL_areBoxes_285 : decode cL_areBoxes 285 = .ok (.if_icmp .ne 7, 3) := by decide +kernel
theorem dL_areBoxes_288 : decode cL_areBoxes 288 = .ok (.iconst 1, 1) := by decide +kernel
theorem dL_areBoxes_289 : decode cL_areBoxes 289 = .ok (.goto 4, 3) := by decide +kernel
theorem dL_areBoxes_292 : decode cL_areBoxes 292 = .ok (.iconst 0, 1) := by decide +kernel
theorem dL_areBoxes_293 : decode cL_areBoxes 293 = .ok (.istore 7, 2) := by decide +kernel
theorem dL_areBoxes_295 : decode cL_areBoxes 295 = .ok (.iinc 13 1, 3) := by decide +kernel
theorem dL_areBoxes_298 : decode cL_areBoxes 298 = .ok (.goto (-200), 3) := by decide +kernel
theorem dL_areBoxes_301 : decode cL_areBoxes 301 = .ok (.iload 5, 2) := by decide +kernel
theorem dL_areBoxes_303 : decode cL_areBoxes 303 = .ok (.aload_n 2, 1) := by decide +kernel
theorem dL_areBoxes_304 : decode cL_areBoxes 304 = .ok (.iload 8, 2) := by decide +kernel
theorem dL_areBoxes_306 : decode cL_areBoxes 306 = .ok (.iaload, 1) := by decide +kernel
theorem dL_areBoxes_307 : decode cL_areBoxes 307 = .ok (.iadd, 1) := by decide +kernel
theorem dL_areBoxes_308 : decode cL_areBoxes 308 = .ok (.istore 5, 2) := by decide +kernel
theorem dL_areBoxes_310 : decode cL_areBoxes 310 = .ok (.iload 6, 2) := by decide +kernel
theorem dL_areBoxes_312 : decode cL_areBoxes 312 = .ok (.iload 10, 2) := by decide +kernel
theorem dL_areBoxes_314 : decode cL_areBoxes 314 = .ok (.iadd, 1) := by decide +kernel
theorem dL_areBoxes_315 : decode cL_areBoxes 315 = .ok (.istore 6, 2) := by decide +kernel
theorem dL_areBoxes_317 : decode cL_areBoxes 317 = .ok (.iload 7, 2) := by decide +kernel
theorem dL_areBoxes_319 : decode cL_areBoxes 319 = .ok (.ifCond .eq 104, 3) := by decide +kernel
theorem dL_areBoxes_322 : decode cL_areBoxes 322 = .ok (.aload_n 0, 1) := by decide +kernel
theorem dL_areBoxes_323 : decode cL_areBoxes 323 = .ok (.iload 8, 2) := by decide +kernel
theorem dL_areBoxes_325 : decode cL_areBoxes 325 = .ok (.aload_n 2, 1) := by decide +kernel
theorem dL_areBoxes_326 : decode cL_areBoxes 326 = .ok (.iload 8, 2) := by decide +kernel
theorem dL_areBoxes_328 : decode cL_areBoxes 328 = .ok (.iaload, 1) := by decide +kernel
theorem dL_areBoxes_329 : decode cL_areBoxes 329 = .ok (.iconst 0, 1) := by decide +kernel
theorem dL_areBoxes_330 : decode cL_areBoxes 330 = .ok (.invokevirtual 44, 3) := by decide +kernel
theorem dL_areBoxes_333 : decode cL_areBoxes 333 = .ok (.bipush (-4), 2) := by decide +kernel
theorem dL_areBoxes_335 : decode cL_areBoxes 335 = .ok (.if_icmp .ne 88, 3) := by decide +kernel
theorem dL_areBoxes_338 : decode cL_areBoxes 338 = .ok (.aload_n 0, 1) := by decide +kernel
theorem dL_areBoxes_339 : decode cL_areBoxes 339 = .ok (.iload 8, 2) := by decide +kernel
theorem dL_areBoxes_341 : decode cL_areBoxes 341 = .ok (.iconst 0, 1) := by decide +kernel
theorem dL_areBoxes_342 : decode cL_areBoxes 342 = .ok (.invokevirtual 41, 3) := by decide +kernel
theorem dL_areBoxes_345 : decode cL_areBoxes 345 = .ok (.aload_n 2, 1) := by decide +kernel
theorem dL_areBoxes_346 : decode cL_areBoxes 346 = .ok (.iload 8, 2) := by decide +kernel
theorem dL_areBoxes_348 : decode cL_areBoxes 348 = .ok (.iaload, 1) := by decide +kernel
theorem dL_areBoxes_349 : decode cL_areBoxes 349 = .ok (.if_icmp .ne 74, 3) := by decide +kernel
theorem dL_areBoxes_352 : decode cL_areBoxes 352 = .ok (.aload_n 0, 1) := by decide +kernel
theorem dL_areBoxes_353 : decode cL_areBoxes 353 = .ok (.iload 8, 2) := by decide +kernel
theorem dL_areBoxes_355 : decode cL_areBoxes 355 = .ok (.iconst 1, 1) := by decide +kernel
theorem dL_areBoxes_356 : decode cL_areBoxes 356 = .ok (.invokevirtual 41, 3) := by decide +kernel
theorem dL_areBoxes_359 : decode cL_areBoxes 359 = .ok (.iload 9, 2) := by decide +kernel
theorem dL_areBoxes_361 : decode cL_areBoxes 361 = .ok (.if_icmp .ne 62, 3) := by decide +kernel
theorem dL_areBoxes_364 : decode cL_areBoxes 364 = .ok (.aload_n 0, 1) := by decide +kernel
theorem dL_areBoxes_365 : decode cL_areBoxes 365 = .ok (.iload 8, 2) := by decide +kernel
theorem dL_areBoxes_367 : decode cL_areBoxes 367 = .ok (.iconst 2, 1) := by decide +kernel
theorem dL_areBoxes_368 : decode cL_areBoxes 368 = .ok (.invokevirtual 41, 3) := by decide +kernel
theorem dL_areBoxes_371 : decode cL_areBoxes 371 = .ok (.iload 10, 2) := by decide +kernel
theorem dL_areBoxes_373 : decode cL_areBoxes 373 = .ok (.if_icmp .ne 50, 3) := by decide +kernel
theorem dL_areBoxes_376 : decode cL_areBoxes 376 = .ok (.aload_n 0, 1) := by decide +kernel
theorem dL_areBoxes_377 : decode cL_areBoxes 377 = .ok (.iload 8, 2) := by decide +kernel
theorem dL_areBoxes_379 : decode cL_areBoxes 379 = .ok (.iconst 3, 1) := by decide +kernel
theorem dL_areBoxes_380 : decode cL_areBoxes 380 = .ok (.invokevirtual 41, 3) := by decide +kernel
theorem dL_areBoxes_383 : decode cL_areBoxes 383 = .ok (.iload 11, 2) := by decide +kernel
theorem dL_areBoxes_385 : decode cL_areBoxes 385 = .ok (.if_icmp .ne 38, 3) := by decide +kernel
theorem dL_areBoxes_388 : decode cL_areBoxes 388 = .ok (.aload_n 0, 1) := by decide +kernel
theorem dL_areBoxes_389 : decode cL_areBoxes 389 = .ok (.iload 8, 2) := by decide +kernel
theorem dL_areBoxes_391 : decode cL_areBoxes 391 = .ok (.iconst 4, 1) := by decide +kernel
theorem dL_areBoxes_392 : decode cL_areBoxes 392 = .ok (.invokevirtual 41, 3) := by decide +kernel
theorem dL_areBoxes_395 : decode cL_areBoxes 395 = .ok (.iload 12, 2) := by decide +kernel
theorem dL_areBoxes_397 : decode cL_areBoxes 397 = .ok (.if_icmp .ne 26, 3) := by decide +kernel
theorem dL_areBoxes_400 : decode cL_areBoxes 400 = .ok (.aload_n 0, 1) := by decide +kernel
theorem dL_areBoxes_401 : decode cL_areBoxes 401 = .ok (.iload 8, 2) := by decide +kernel
theorem dL_areBoxes_403 : decode cL_areBoxes 403 = .ok (.iconst 5, 1) := by decide +kernel
theorem dL_areBoxes_404 : decode cL_areBoxes 404 = .ok (.invokevirtual 41, 3) := by decide +kernel
theorem dL_areBoxes_407 : decode cL_areBoxes 407 = .ok (.aload_n 2, 1) := by decide +kernel
theorem dL_areBoxes_408 : decode cL_areBoxes 408 = .ok (.bipush 8, 2) := by decide +kernel
theorem dL_areBoxes_410 : decode cL_areBoxes 410 = .ok (.iaload, 1) := by decide +kernel
theorem dL_areBoxes_411 : decode cL_areBoxes 411 = .ok (.iload 8, 2) := by decide +kernel
theorem dL_areBoxes_413 : decode cL_areBoxes 413 = .ok (.ishr, 1) := by decide +kernel
theorem dL_areBoxes_414 : decode cL_areBoxes 414 = .ok (.iconst 1, 1) := by decide +kernel
theorem dL_areBoxes_415 : decode cL_areBoxes 415 = .ok (.iand, 1) := by decide +kernel
theorem dL_areBoxes_416 : decode cL_areBoxes 416 = .ok (.if_icmp .ne 7, 3) := by decide +kernel
theorem dL_areBoxes_419 : decode cL_areBoxes 419 = .ok (.iconst 1, 1) := by decide +kernel
theorem dL_areBoxes_420 : decode cL_areBoxes 420 = .ok (.goto 4, 3) := by decide +kernel
theorem dL_areBoxes_423 : decode cL_areBoxes 423 = .ok (.iconst 0, 1) := by decide +kernel
theorem dL_areBoxes_424 : decode cL_areBoxes 424 = .ok (.istore 7, 2) := by decide +kernel
theorem dL_areBoxes_426 : decode cL_areBoxes 426 = .ok (.iinc 8 1, 3) := by decide +kernel
theorem dL_areBoxes_429 : decode cL_areBoxes 429 = .ok (.goto (-359), 3) := by decide +kernel
theorem dL_areBoxes_432 : decode cL_areBoxes 432 = .ok (.iconst 0, 1) := by decide +kernel
theorem dL_areBoxes_433 : decode cL_areBoxes 433 = .ok (.istore 8, 2) := by decide +kernel
theorem dL_areBoxes_435 : decode cL_areBoxes 435 = .ok (.iload 8, 2) := by decide +kernel
theorem dL_areBoxes_437 : decode cL_areBoxes 437 = .ok (.aload_n 2, 1) := by decide +kernel
theorem dL_areBoxes_438 : decode cL_areBoxes 438 = .ok (.iconst 4, 1) := by decide +kernel
theorem dL_areBoxes_439 : decode cL_areBoxes 439 = .ok (.iaload, 1) := by decide +kernel
theorem dL_areBoxes_440 : decode cL_areBoxes 440 = .ok (.if_icmp .ge 109, 3) := by decide +kernel
theorem dL_areBoxes_443 : decode cL_areBoxes 443 = .ok (.iload 8, 2) := by decide +kernel
theorem dL_areBoxes_445 : decode cL_areBoxes 445 = .ok (.bipush 64, 2) := by decide +kernel
theorem dL_areBoxes_447 : decode cL_areBoxes 447 = .ok (.if_icmp .ge 102, 3) := by decide +kernel
theorem dL_areBoxes_450 : decode cL_areBoxes 450 = .ok (.aload_n 2, 1) := by decide +kernel
theorem dL_areBoxes_451 : decode cL_areBoxes 451 = .ok (.iconst 4, 1) := by decide +kernel
theorem dL_areBoxes_452 : decode cL_areBoxes 452 = .ok (.iaload, 1) := by decide +kernel
theorem dL_areBoxes_453 : decode cL_areBoxes 453 = .ok (.bipush 65, 2) := by decide +kernel
theorem dL_areBoxes_455 : decode cL_areBoxes 455 = .ok (.if_icmp .ge 94, 3) := by decide +kernel
theorem dL_areBoxes_458 : decode cL_areBoxes 458 = .ok (.iload 7, 2) := by decide +kernel
theorem dL_areBoxes_460 : decode cL_areBoxes 460 = .ok (.ifCond .eq 80, 3) := by decide +kernel
theorem dL_areBoxes_463 : decode cL_areBoxes 463 = .ok (.aload_n 0, 1) := by decide +kernel
theorem dL_areBoxes_464 : decode cL_areBoxes 464 = .ok (.iconst 4, 1) := by decide +kernel
theorem dL_areBoxes_465 : decode cL_areBoxes 465 = .ok (.iload 8, 2) := by decide +kernel
theorem dL_areBoxes_467 : decode cL_areBoxes 467 = .ok (.iconst 0, 1) := by decide +kernel
theorem dL_areBoxes_468 : decode cL_areBoxes 468 = .ok (.invokevirtual 44, 3) := by decide +kernel
theorem dL_areBoxes_471 : decode cL_areBoxes 471 = .ok (.aload 4, 2) := by decide +kernel
theorem dL_areBoxes_473 : decode cL_areBoxes 473 = .ok (.iload 8, 2) := by decide +kernel
theorem dL_areBoxes_475 : decode cL_areBoxes 475 = .ok (.iaload, 1) := by decide +kernel
theorem dL_areBoxes_476 : decode cL_areBoxes 476 = .ok (.sipush 10000, 3) := by decide +kernel
theorem dL_areBoxes_479 : decode cL_areBoxes 479 = .ok (.idiv, 1) := by decide +kernel
theorem dL_areBoxes_480 : decode cL_areBoxes 480 = .ok (.if_icmp .ne 60, 3) := by decide +kernel
theorem dL_areBoxes_483 : decode cL_areBoxes 483 = .ok (.aload_n 0, 1) := by decide +kernel
theorem dL_areBoxes_484 : decode cL_areBoxes 484 = .ok (.iconst 4, 1) := by decide +kernel
theorem dL_areBoxes_485 : decode cL_areBoxes 485 = .ok (.iload 8, 2) := by decide +kernel
theorem dL_areBoxes_487 : decode cL_areBoxes 487 = .ok (.iconst 1, 1) := by decide +kernel
theorem dL_areBoxes_488 : decode cL_areBoxes 488 = .ok (.invokevirtual 44, 3) := by decide +kernel
theorem dL_areBoxes_491 : decode cL_areBoxes 491 = .ok (.aload 4, 2) := by decide +kernel
theorem dL_areBoxes_493 : decode cL_areBoxes 493 = .ok (.iload 8, 2) := by decide +kernel
theorem dL_areBoxes_495 : decode cL_areBoxes 495 = .ok (.iaload, 1) := by decide +kernel
theorem dL_areBoxes_496 : decode cL_areBoxes 496 = .ok (.bipush 10, 2) := by decide +kernel
theorem dL_areBoxes_498 : decode cL_areBoxes 498 = .ok (.idiv, 1) := by decide +kernel
theorem dL_areBoxes_499 : decode cL_areBoxes 499 = .ok (.sipush 1000, 3) := by decide +kernel
theorem dL_areBoxes_502 : decode cL_areBoxes 502 = .ok (.irem, 1) := by decide +kernel
theorem dL_areBoxes_503 : decode cL_areBoxes 503 = .ok (.if_icmp .ne 37, 3) := by decide +kernel
theorem dL_areBoxes_506 : decode cL_areBoxes 506 = .ok (.aload_n 0, 1) := by decide +kernel
theorem dL_areBoxes_507 : decode cL_areBoxes 507 = .ok (.iconst 4, 1) := by decide +kernel
theorem dL_areBoxes_508 : decode cL_areBoxes 508 = .ok (.iload 8, 2) := by decide +kernel
theorem dL_areBoxes_510 : decode cL_areBoxes 510 = .ok (.iconst 2, 1) := by decide +kernel
theorem dL_areBoxes_511 : decode cL_areBoxes 511 = .ok (.invokevirtual 44, 3) := by decide +kernel
theorem dL_areBoxes_514 : decode cL_areBoxes 514 = .ok (.aload 4, 2) := by decide +kernel
theorem dL_areBoxes_516 : decode cL_areBoxes 516 = .ok (.iload 8, 2) := by decide +kernel
theorem dL_areBoxes_518 : decode cL_areBoxes 518 = .ok (.iaload, 1) := by decide +kernel
theorem dL_areBoxes_519 : decode cL_areBoxes 519 = .ok (.bipush 10, 2) := by decide +kernel
theorem dL_areBoxes_521 : decode cL_areBoxes 521 = .ok (.irem, 1) := by decide +kernel
theorem dL_areBoxes_522 : decode cL_areBoxes 522 = .ok (.if_icmp .ne 18, 3) := by decide +kernel
theorem dL_areBoxes_525 : decode cL_areBoxes 525 = .ok (.aload_n 0, 1) := by decide +kernel
theorem dL_areBoxes_526 : decode cL_areBoxes 526 = .ok (.iconst 4, 1) := by decide +kernel
theorem dL_areBoxes_527 : decode cL_areBoxes 527 = .ok (.iload 8, 2) := by decide +kernel
theorem dL_areBoxes_529 : decode cL_areBoxes 529 = .ok (.iconst 3, 1) := by decide +kernel
theorem dL_areBoxes_530 : decode cL_areBoxes 530 = .ok (.invokevirtual 44, 3) := by decide +kernel
theorem dL_areBoxes_533 : decode cL_areBoxes 533 = .ok (.ifCond .ne 7, 3) := by decide +kernel
theorem dL_areBoxes_536 : decode cL_areBoxes 536 = .ok (.iconst 1, 1) := by decide +kernel
theorem dL_areBoxes_537 : decode cL_areBoxes 537 = .ok (.goto 4, 3) := by decide +kernel
theorem dL_areBoxes_540 : decode cL_areBoxes 540 = .ok (.iconst 0, 1) := by decide +kernel
theorem dL_areBoxes_541 : decode cL_areBoxes 541 = .ok (.istore 7, 2) := by decide +kernel
theorem dL_areBoxes_543 : decode cL_areBoxes 543 = .ok (.iinc 8 1, 3) := by decide +kernel
theorem dL_areBoxes_546 : decode cL_areBoxes 546 = .ok (.goto (-111), 3) := by decide +kernel
theorem dL_areBoxes_549 : decode cL_areBoxes 549 = .ok (.iload 7, 2) := by decide +kernel
theorem dL_areBoxes_551 : decode cL_areBoxes 551 = .ok (.ifCond .eq 89, 3) := by decide +kernel
theorem dL_areBoxes_554 : decode cL_areBoxes 554 = .ok (.aload_n 0, 1) := by decide +kernel
theorem dL_areBoxes_555 : decode cL_areBoxes 555 = .ok (.iconst 4, 1) := by decide +kernel
theorem dL_areBoxes_556 : decode cL_areBoxes 556 = .ok (.iconst 0, 1) := by decide +kernel
theorem dL_areBoxes_557 : decode cL_areBoxes 557 = .ok (.invokevirtual 41, 3) := by decide +kernel
theorem dL_areBoxes_560 : decode cL_areBoxes 560 = .ok (.aload_n 2, 1) := by decide +kernel
theorem dL_areBoxes_561 : decode cL_areBoxes 561 = .ok (.iconst 4, 1) := by decide +kernel
theorem dL_areBoxes_562 : decode cL_areBoxes 562 = .ok (.iaload, 1) := by decide +kernel
theorem dL_areBoxes_563 : decode cL_areBoxes 563 = .ok (.if_icmp .ne 77, 3) := by decide +kernel
theorem dL_areBoxes_566 : decode cL_areBoxes 566 = .ok (.aload_n 0, 1) := by decide +kernel
theorem dL_areBoxes_567 : decode cL_areBoxes 567 = .ok (.iconst 4, 1) := by decide +kernel
theorem dL_areBoxes_568 : decode cL_areBoxes 568 = .ok (.iconst 2, 1) := by decide +kernel
theorem dL_areBoxes_569 : decode cL_areBoxes 569 = .ok (.invokevirtual 41, 3) := by decide +kernel
theorem dL_areBoxes_572 : decode cL_areBoxes 572 = .ok (.ifCond .ne 68, 3) := by decide +kernel
theorem dL_areBoxes_575 : decode cL_areBoxes 575 = .ok (.aload_n 0, 1) := by decide +kernel
theorem dL_areBoxes_576 : decode cL_areBoxes 576 = .ok (.iconst 4, 1) := by decide +kernel
theorem dL_areBoxes_577 : decode cL_areBoxes 577 = .ok (.iconst 5, 1) := by decide +kernel
theorem dL_areBoxes_578 : decode cL_areBoxes 578 = .ok (.invokevirtual 41, 3) := by decide +kernel
theorem dL_areBoxes_581 : decode cL_areBoxes 581 = .ok (.iconst 1, 1) := by decide +kernel
theorem dL_areBoxes_582 : decode cL_areBoxes 582 = .ok (.if_icmp .ne 58, 3) := by decide +kernel
theorem dL_areBoxes_585 : decode cL_areBoxes 585 = .ok (.aload_n 0, 1) := by decide +kernel
theorem dL_areBoxes_586 : decode cL_areBoxes 586 = .ok (.iconst 4, 1) := by decide +kernel
theorem dL_areBoxes_587 : decode cL_areBoxes 587 = .ok (.invokevirtual 37, 3) := by decide +kernel
theorem dL_areBoxes_590 : decode cL_areBoxes 590 = .ok (.iload 5, 2) := by decide +kernel
theorem dL_areBoxes_592 : decode cL_areBoxes 592 = .ok (.aload_n 2, 1) := by decide +kernel
theorem dL_areBoxes_593 : decode cL_areBoxes 593 = .ok (.iconst 4, 1) := by decide +kernel
theorem dL_areBoxes_594 : decode cL_areBoxes 594 = .ok (.iaload, 1) := by decide +kernel
theorem dL_areBoxes_595 : decode cL_areBoxes 595 = .ok (.iadd, 1) := by decide +kernel
theorem dL_areBoxes_596 : decode cL_areBoxes 596 = .ok (.if_icmp .ne 44, 3) := by decide +kernel
theorem dL_areBoxes_599 : decode cL_areBoxes 599 = .ok (.aload_n 0, 1) := by decide +kernel
theorem dL_areBoxes_600 : decode cL_areBoxes 600 = .ok (.iconst 5, 1) := by decide +kernel
theorem dL_areBoxes_601 : decode cL_areBoxes 601 = .ok (.invokevirtual 37, 3) := by decide +kernel
theorem dL_areBoxes_604 : decode cL_areBoxes 604 = .ok (.iload 6, 2) := by decide +kernel
theorem dL_areBoxes_606 : decode cL_areBoxes 606 = .ok (.if_icmp .ne 34, 3) := by decide +kernel
theorem dL_areBoxes_609 : decode cL_areBoxes 609 = .ok (.aload_n 0, 1) := by decide +kernel
theorem dL_areBoxes_610 : decode cL_areBoxes 610 = .ok (.invokevirtual 47, 3) := by decide +kernel
theorem dL_areBoxes_613 : decode cL_areBoxes 613 = .ok (.iload 5, 2) := by decide +kernel
theorem dL_areBoxes_615 : decode cL_areBoxes 615 = .ok (.ifCond .ne 7, 3) := by decide +kernel
theorem dL_areBoxes_618 : decode cL_areBoxes 618 = .ok (.dconst 1, 1) := by decide +kernel
theorem dL_areBoxes_619 : decode cL_areBoxes 619 = .ok (.goto 13, 3) := by decide +kernel
theorem dL_areBoxes_622 : decode cL_areBoxes 622 = .ok (.iload 5, 2) := by decide +kernel
theorem dL_areBoxes_624 : decode cL_areBoxes 624 = .ok (.iload 6, 2) := by decide +kernel
theorem dL_areBoxes_626 : decode cL_areBoxes 626 = .ok (.isub, 1) := by decide +kernel
theorem dL_areBoxes_627 : decode cL_areBoxes 627 = .ok (.i2d, 1) := by decide +kernel
theorem dL_areBoxes_628 : decode cL_areBoxes 628 = .ok (.iload 5, 2) := by decide +kernel
theorem dL_areBoxes_630 : decode cL_areBoxes 630 = .ok (.i2d, 1) := by decide +kernel
theorem dL_areBoxes_631 : decode cL_areBoxes 631 = .ok (.ddiv, 1) := by decide +kernel
theorem dL_areBoxes_632 : decode cL_areBoxes 632 = .ok (.dcmp .l, 1) := by decide +kernel
theorem dL_areBoxes_633 : decode cL_areBoxes 633 = .ok (.ifCond .ne 7, 3) := by decide +kernel
theorem dL_areBoxes_636 : decode cL_areBoxes 636 = .ok (.iconst 1, 1) := by decide +kernel
theorem dL_areBoxes_637 : decode cL_areBoxes 637 = .ok (.goto 4, 3) := by decide +kernel
theorem dL_areBoxes_640 : decode cL_areBoxes 640 = .ok (.iconst 0, 1) := by decide +kernel
theorem dL_areBoxes_641 : decode cL_areBoxes 641 = .ok (.ireturn, 1) := by decide +kernel
set_option maxRecDepth 20000 in
theorem ggL_areTold_X7_count : GoodIn wsL_areTold wsX7_count := goodIn_r _ [5, 6, 7, 8, 9, 10, 11, 12, 13, 14, 15, 16, 17, 18, 19, 20, 21, 22, 23, 24, 25, 26, 27, 28, 29, 30, 31, 32, 33, 34, 35, 36, 37, 38, 39, 40, 41, 42, 43, 44, 45, 46, 47, 48, 49, 50, 51, 52, 53, 54, 55, 56, 57, 58, 59, 60, 61, 62, 63, 64, 65, 66, 67, 68, 69, 70, 71, 72, 73, 74, 75, 76, 77, 78, 79, 80, 81, 148, 149, 150, 151, 152, 153, 154, 155, 156, 157, 158, 159, 160, 161, 162, 163, 164, 165, 166, 167, 168, 169, 170, 171, 172, 173, 174, 175, 176, 177, 178, 179, 180, 181, 182, 183] (by decide +kernel) (by decide +kernel)
set_option maxRecDepth 20000 in
theorem gL_areTold_X7_count : GoodIn wsL_areTold (wsV RL 37 RX7 yX7_count wsX7_count) := goodIn_app (goodIn_of _ (by decide +kernel)) ggL_areTold_X7_count
set_option maxRecDepth 20000 in
theorem ggL_areTold_X7_ruleOf : GoodIn wsL_areTold wsX7_ruleOf := goodIn_r _ [85, 6, 7, 86, 87, 88, 89, 90, 59, 91, 61, 92, 69, 66, 70, 93, 72, 73, 94, 75, 76, 95, 96, 97, 98, 62, 99, 64, 65, 67, 68, 71, 74, 148, 149, 150, 151, 152, 153, 154, 155, 156, 157, 158, 159, 160, 161, 162, 163, 164, 165, 166, 167] (by decide +kernel) (by decide +kernel)
set_option maxRecDepth 20000 in
theorem gL_areTold_X7_ruleOf : GoodIn wsL_areTold (wsV RL 51 RX7 yX7_ruleOf wsX7_ruleOf) := goodIn_app (goodIn_of _ (by decide +kernel)) ggL_areTold_X7_ruleOf
set_option maxRecDepth 20000 in
theorem ggL_areTold_L_pack : GoodIn wsL_areTold wsL_pack := goodIn_r _ [103] (by decide +kernel) (by decide +kernel)
set_option maxRecDepth 20000 in
theorem gL_areTold_L_pack : GoodIn wsL_areTold (va_wsS RL 9 yL_pack wsL_pack) := goodIn_app (goodIn_of _ (by decide +kernel)) ggL_areTold_L_pack
set_option maxRecDepth 20000 in
theorem ggL_areTold_L_look : GoodIn wsL_areTold wsL_look := goodIn_r _ [106, 100, 101, 102, 103] (by decide +kernel) (by decide +kernel)
set_option maxRecDepth 20000 in
theorem gL_areTold_L_look : GoodIn wsL_areTold (va_wsS RL 19 yL_look wsL_look) := goodIn_app (goodIn_of _ (by decide +kernel)) ggL_areTold_L_look
set_option maxRecDepth 20000 in
theorem ggL_areTold_X7_misses : GoodIn wsL_areTold wsX7_misses := goodIn_r _ [110, 6, 7, 86, 88, 89, 90, 59, 91, 61, 111, 112, 66, 113, 114, 115, 116, 117, 118, 119, 38, 120, 81, 121, 122, 123, 124, 125, 126, 127, 128, 72, 73, 129, 75, 76, 130, 69, 70, 131, 132, 65, 67, 68, 71, 74, 148, 149, 150, 151, 152, 153, 154, 155, 156, 157, 158, 159, 160, 161, 162, 163, 164, 165, 166, 167] (by decide +kernel) (by decide +kernel)
set_option maxRecDepth 20000 in
theorem gL_areTold_X7_misses : GoodIn wsL_areTold (wsV RL 54 RX7 yX7_misses wsX7_misses) := goodIn_app (goodIn_of _ (by decide +kernel)) ggL_areTold_X7_misses
set_option maxRecDepth 20000 in
theorem ggL_areTold_L_why : GoodIn wsL_areTold wsL_why := goodIn_r _ [135] (by decide +kernel) (by decide +kernel)
set_option maxRecDepth 20000 in
theorem gL_areTold_L_why : GoodIn wsL_areTold (va_wsS RL 15 yL_why wsL_why) := goodIn_app (goodIn_of _ (by decide +kernel)) ggL_areTold_L_why
set_option maxRecDepth 20000 in
theorem ggL_areTold_X7_lane : GoodIn wsL_areTold wsX7_lane := goodIn_r _ [139, 6, 7, 111, 112, 66, 113, 114, 115, 116, 117, 118, 119, 38, 120, 81, 121, 122, 123, 124, 125, 126, 127, 128, 72, 73, 129, 75, 76, 130, 69, 70, 131, 140, 57, 58, 59, 60, 61, 62, 63, 64, 65, 67, 68, 71, 74, 141, 142, 143, 144, 148, 149, 150, 151, 152, 153, 154, 155, 156, 157, 158, 159, 160, 161, 162, 163, 164, 165, 166, 167] (by decide +kernel) (by decide +kernel)
set_option maxRecDepth 20000 in
theorem gL_areTold_X7_lane : GoodIn wsL_areTold (wsV RL 58 RX7 yX7_lane wsX7_lane) := goodIn_app (goodIn_of _ (by decide +kernel)) ggL_areTold_X7_lane
set_option maxRecDepth 20000 in
theorem ggL_areTold_L_lane : GoodIn wsL_areTold wsL_lane := goodIn_r _ [147, 133, 134, 102, 135] (by decide +kernel) (by decide +kernel)
set_option maxRecDepth 20000 in
theorem gL_areTold_L_lane : GoodIn wsL_areTold (va_wsS RL 23 yL_lane wsL_lane) := goodIn_app (goodIn_of _ (by decide +kernel)) ggL_areTold_L_lane
theorem dL_areTold_0 : decode cL_areTold 0 = .ok (.aload_n 0, 1) := by decide +kernel
theorem dL_areTold_1 : decode cL_areTold 1 = .ok (.iconst 0, 1) := by decide +kernel
theorem dL_areTold_2 : decode cL_areTold 2 = .ok (.invokevirtual 37, 3) := by decide +kernel
theorem dL_areTold_5 : decode cL_areTold 5 = .ok (.aload_n 1, 1) := by decide +kernel
theorem dL_areTold_6 : decode cL_areTold 6 = .ok (.bipush 9, 2) := by decide +kernel
theorem dL_areTold_8 : decode cL_areTold 8 = .ok (.iaload, 1) := by decide +kernel
theorem dL_areTold_9 : decode cL_areTold 9 = .ok (.if_icmp .ne 148, 3) := by decide +kernel
theorem dL_areTold_12 : decode cL_areTold 12 = .ok (.aload_n 0, 1) := by decide +kernel
theorem dL_areTold_13 : decode cL_areTold 13 = .ok (.iconst 1, 1) := by decide +kernel
theorem dL_areTold_14 : decode cL_areTold 14 = .ok (.invokevirtual 37, 3) := by decide +kernel
theorem dL_areTold_17 : decode cL_areTold 17 = .ok (.aload_n 1, 1) := by decide +kernel
theorem dL_areTold_18 : decode cL_areTold 18 = .ok (.bipush 10, 2) := by decide +kernel
theorem dL_areTold_20 : decode cL_areTold 20 = .ok (.iaload, 1) := by decide +kernel
theorem dL_areTold_21 : decode cL_areTold 21 = .ok (.if_icmp .ne 136, 3) := by decide +kernel
theorem dL_areTold_24 : decode cL_areTold 24 = .ok (.aload_n 0, 1) := by decide +kernel
theorem dL_areTold_25 : decode cL_areTold 25 = .ok (.bipush 6, 2) := by decide +kernel
theorem dL_areTold_27 : decode cL_areTold 27 = .ok (.invokevirtual 37, 3) := by decide +kernel
theorem dL_areTold_30 : decode cL_areTold 30 = .ok (.aload_n 1, 1) := by decide +kernel
theorem dL_areTold_31 : decode cL_areTold 31 = .ok (.bipush 11, 2) := by decide +kernel
theorem dL_areTold_33 : decode cL_areTold 33 = .ok (.iaload, 1) := by decide +kernel
theorem dL_areTold_34 : decode cL_areTold 34 = .ok (.if_icmp .ne 123, 3) := by decide +kernel
theorem dL_areTold_37 : decode cL_areTold 37 = .ok (.aload_n 0, 1) := by decide +kernel
theorem dL_areTold_38 : decode cL_areTold 38 = .ok (.bipush 7, 2) := by decide +kernel
theorem dL_areTold_40 : decode cL_areTold 40 = .ok (.invokevirtual 37, 3) := by decide +kernel
theorem dL_areTold_43 : decode cL_areTold 43 = .ok (.aload_n 1, 1) := by decide +kernel
theorem dL_areTold_44 : decode cL_areTold 44 = .ok (.bipush 12, 2) := by decide +kernel
theorem dL_areTold_46 : decode cL_areTold 46 = .ok (.iaload, 1) := by decide +kernel
theorem dL_areTold_47 : decode cL_areTold 47 = .ok (.if_icmp .ne 110, 3) := by decide +kernel
theorem dL_areTold_50 : decode cL_areTold 50 = .ok (.aload_n 0, 1) := by decide +kernel
theorem dL_areTold_51 : decode cL_areTold 51 = .ok (.bipush 8, 2) := by decide +kernel
theorem dL_areTold_53 : decode cL_areTold 53 = .ok (.invokevirtual 37, 3) := by decide +kernel
theorem dL_areTold_56 : decode cL_areTold 56 = .ok (.aload_n 1, 1) := by decide +kernel
theorem dL_areTold_57 : decode cL_areTold 57 = .ok (.bipush 13, 2) := by decide +kernel
theorem dL_areTold_59 : decode cL_areTold 59 = .ok (.iaload, 1) := by decide +kernel
theorem dL_areTold_60 : decode cL_areTold 60 = .ok (.if_icmp .ne 97, 3) := by decide +kernel
theorem dL_areTold_63 : decode cL_areTold 63 = .ok (.aload_n 0, 1) := by decide +kernel
theorem dL_areTold_64 : decode cL_areTold 64 = .ok (.bipush 9, 2) := by decide +kernel
theorem dL_areTold_66 : decode cL_areTold 66 = .ok (.invokevirtual 37, 3) := by decide +kernel
theorem dL_areTold_69 : decode cL_areTold 69 = .ok (.aload_n 1, 1) := by decide +kernel
theorem dL_areTold_70 : decode cL_areTold 70 = .ok (.bipush 14, 2) := by decide +kernel
theorem dL_areTold_72 : decode cL_areTold 72 = .ok (.iaload, 1) := by decide +kernel
theorem dL_areTold_73 : decode cL_areTold 73 = .ok (.if_icmp .ne 84, 3) := by decide +kernel
theorem dL_areTold_76 : decode cL_areTold 76 = .ok (.aload_n 0, 1) := by decide +kernel
theorem dL_areTold_77 : decode cL_areTold 77 = .ok (.bipush 10, 2) := by decide +kernel
theorem dL_areTold_79 : decode cL_areTold 79 = .ok (.invokevirtual 37, 3) := by decide +kernel
theorem dL_areTold_82 : decode cL_areTold 82 = .ok (.aload_n 1, 1) := by decide +kernel
theorem dL_areTold_83 : decode cL_areTold 83 = .ok (.bipush 15, 2) := by decide +kernel
theorem dL_areTold_85 : decode cL_areTold 85 = .ok (.iaload, 1) := by decide +kernel
theorem dL_areTold_86 : decode cL_areTold 86 = .ok (.if_icmp .ne 71, 3) := by decide +kernel
theorem dL_areTold_89 : decode cL_areTold 89 = .ok (.aload_n 0, 1) := by decide +kernel
theorem dL_areTold_90 : decode cL_areTold 90 = .ok (.bipush 11, 2) := by decide +kernel
theorem dL_areTold_92 : decode cL_areTold 92 = .ok (.invokevirtual 37, 3) := by decide +kernel
theorem dL_areTold_95 : decode cL_areTold 95 = .ok (.aload_n 1, 1) := by decide +kernel
theorem dL_areTold_96 : decode cL_areTold 96 = .ok (.iconst 5, 1) := by decide +kernel
theorem dL_areTold_97 : decode cL_areTold 97 = .ok (.iaload, 1) := by decide +kernel
theorem dL_areTold_98 : decode cL_areTold 98 = .ok (.bipush 20, 2) := by decide +kernel
theorem dL_areTold_100 : decode cL_areTold 100 = .ok (.iadd, 1) := by decide +kernel
theorem dL_areTold_101 : decode cL_areTold 101 = .ok (.if_icmp .ne 56, 3) := by decide +kernel
theorem dL_areTold_104 : decode cL_areTold 104 = .ok (.aload_n 0, 1) := by decide +kernel
theorem dL_areTold_105 : decode cL_areTold 105 = .ok (.bipush 12, 2) := by decide +kernel
theorem dL_areTold_107 : decode cL_areTold 107 = .ok (.invokevirtual 37, 3) := by decide +kernel
theorem dL_areTold_110 : decode cL_areTold 110 = .ok (.aload_n 1, 1) := by decide +kernel
theorem dL_areTold_111 : decode cL_areTold 111 = .ok (.bipush 6, 2) := by decide +kernel
theorem dL_areTold_113 : decode cL_areTold 113 = .ok (.iaload, 1) := by decide +kernel
theorem dL_areTold_114 : decode cL_areTold 114 = .ok (.if_icmp .ne 43, 3) := by decide +kernel
theorem dL_areTold_117 : decode cL_areTold 117 = .ok (.aload_n 0, 1) := by decide +kernel
theorem dL_areTold_118 : decode cL_areTold 118 = .ok (.bipush 13, 2) := by decide +kernel
theorem dL_areTold_120 : decode cL_areTold 120 = .ok (.invokevirtual 37, 3) := by decide +kernel
theorem dL_areTold_123 : decode cL_areTold 123 = .ok (.aload_n 1, 1) := by decide +kernel
theorem dL_areTold_124 : decode cL_areTold 124 = .ok (.bipush 7, 2) := by decide +kernel
theorem dL_areTold_126 : decode cL_areTold 126 = .ok (.iaload, 1) := by decide +kernel
theorem dL_areTold_127 : decode cL_areTold 127 = .ok (.if_icmp .ne 30, 3) := by decide +kernel
theorem dL_areTold_130 : decode cL_areTold 130 = .ok (.aload_n 0, 1) := by decide +kernel
theorem dL_areTold_131 : decode cL_areTold 131 = .ok (.aload_n 1, 1) := by decide +kernel
theorem dL_areTold_132 : decode cL_areTold 132 = .ok (.bipush 9, 2) := by decide +kernel
theorem dL_areTold_134 : decode cL_areTold 134 = .ok (.iaload, 1) := by decide +kernel
theorem dL_areTold_135 : decode cL_areTold 135 = .ok (.iconst 0, 1) := by decide +kernel
theorem dL_areTold_136 : decode cL_areTold 136 = .ok (.invokevirtual 51, 3) := by decide +kernel
theorem dL_areTold_139 : decode cL_areTold 139 = .ok (.iconst (-1), 1) := by decide +kernel
theorem dL_areTold_140 : decode cL_areTold 140 = .ok (.if_icmp .ne 17, 3) := by decide +kernel
theorem dL_areTold_143 : decode cL_areTold 143 = .ok (.aload_n 0, 1) := by decide +kernel
theorem dL_areTold_144 : decode cL_areTold 144 = .ok (.iconst (-1), 1) := by decide +kernel
theorem dL_areTold_145 : decode cL_areTold 145 = .ok (.iconst 0, 1) := by decide +kernel
theorem dL_areTold_146 : decode cL_areTold 146 = .ok (.invokevirtual 51, 3) := by decide +kernel
theorem dL_areTold_149 : decode cL_areTold 149 = .ok (.iconst (-1), 1) := by decide +kernel
theorem dL_areTold_150 : decode cL_areTold 150 = .ok (.if_icmp .ne 7, 3) := by decide +kernel
theorem dL_areTold_153 : decode cL_areTold 153 = .ok (.iconst 1, 1) := by decide +kernel
theorem dL_areTold_154 : decode cL_areTold 154 = .ok (.goto 4, 3) := by decide +kernel
theorem dL_areTold_157 : decode cL_areTold 157 = .ok (.iconst 0, 1) := by decide +kernel
theorem dL_areTold_158 : decode cL_areTold 158 = .ok (.istore 4, 2) := by decide +kernel
theorem dL_areTold_160 : decode cL_areTold 160 = .ok (.bipush 50, 2) := by decide +kernel
theorem dL_areTold_162 : decode cL_areTold 162 = .ok (.iload_n 3, 1) := by decide +kernel
theorem dL_areTold_163 : decode cL_areTold 163 = .ok (.sipush 251, 3) := by decide +kernel
theorem dL_areTold_166 : decode cL_areTold 166 = .ok (.irem, 1) := by decide +kernel
theorem dL_areTold_167 : decode cL_areTold 167 = .ok (.iadd, 1) := by decide +kernel
theorem dL_areTold_168 : decode cL_areTold 168 = .ok (.istore 5, 2) := by decide +kernel
theorem dL_areTold_170 : decode cL_areTold 170 = .ok (.iload_n 3, 1) := by decide +kernel
theorem dL_areTold_171 : decode cL_areTold 171 = .ok (.sipush 251, 3) := by decide +kernel
theorem dL_areTold_174 : decode cL_areTold 174 = .ok (.idiv, 1) := by decide +kernel
theorem dL_areTold_175 : decode cL_areTold 175 = .ok (.bipush 101, 2) := by decide +kernel
theorem dL_areTold_177 : decode cL_areTold 177 = .ok (.irem, 1) := by decide +kernel
theorem dL_areTold_178 : decode cL_areTold 178 = .ok (.istore 6, 2) := by decide +kernel
theorem dL_areTold_180 : decode cL_areTold 180 = .ok (.iload_n 3, 1) := by decide +kernel
theorem dL_areTold_181 : decode cL_areTold 181 = .ok (.bipush 9, 2) := by decide +kernel
theorem dL_areTold_183 : decode cL_areTold 183 = .ok (.idiv, 1) := by decide +kernel
theorem dL_areTold_184 : decode cL_areTold 184 = .ok (.bipush 10, 2) := by decide +kernel
theorem dL_areTold_186 : decode cL_areTold 186 = .ok (.irem, 1) := by decide +kernel
theorem dL_areTold_187 : decode cL_areTold 187 = .ok (.istore 7, 2) := by decide +kernel
theorem dL_areTold_189 : decode cL_areTold 189 = .ok (.aload_n 1, 1) := by decide +kernel
theorem dL_areTold_190 : decode cL_areTold 190 = .ok (.iload 5, 2) := by decide +kernel
theorem dL_areTold_192 : decode cL_areTold 192 = .ok (.iload 6, 2) := by decide +kernel
theorem dL_areTold_194 : decode cL_areTold 194 = .ok (.iload 7, 2) := by decide +kernel
theorem dL_areTold_196 : decode cL_areTold 196 = .ok (.invokestatic 9, 3) := by decide +kernel
theorem dL_areTold_199 : decode cL_areTold 199 = .ok (.invokestatic 19, 3) := by decide +kernel
theorem dL_areTold_202 : decode cL_areTold 202 = .ok (.istore 8, 2) := by decide +kernel
theorem dL_areTold_204 : decode cL_areTold 204 = .ok (.iconst 0, 1) := by decide +kernel
theorem dL_areTold_205 : decode cL_areTold 205 = .ok (.istore 9, 2) := by decide +kernel
theorem dL_areTold_207 : decode cL_areTold 207 = .ok (.iload 9, 2) := by decide +kernel
theorem dL_areTold_209 : decode cL_areTold 209 = .ok (.aload_n 1, 1) := by decide +kernel
theorem dL_areTold_210 : decode cL_areTold 210 = .ok (.bipush 9, 2) := by decide +kernel
theorem dL_areTold_212 : decode cL_areTold 212 = .ok (.iaload, 1) := by decide +kernel
theorem dL_areTold_213 : decode cL_areTold 213 = .ok (.if_icmp .ge 195, 3) := by decide +kernel
theorem dL_areTold_216 : decode cL_areTold 216 = .ok (.iconst 0, 1) := by decide +kernel
theorem dL_areTold_217 : decode cL_areTold 217 = .ok (.istore 10, 2) := by decide +kernel
theorem dL_areTold_219 : decode cL_areTold 219 = .ok (.iconst 0, 1) := by decide +kernel
theorem dL_areTold_220 : decode cL_areTold 220 = .ok (.istore 11, 2) := by decide +kernel
theorem dL_areTold_222 : decode cL_areTold 222 = .ok (.iload 11, 2) := by decide +kernel
theorem dL_areTold_224 : decode cL_areTold 224 = .ok (.iload 9, 2) := by decide +kernel
theorem dL_areTold_226 : decode cL_areTold 226 = .ok (.if_icmp .ge 74, 3) := by decide +kernel
theorem dL_areTold_229 : decode cL_areTold 229 = .ok (.iload 10, 2) := by decide +kernel
theorem dL_areTold_231 : decode cL_areTold 231 = .ok (.ifCond .ne 56, 3) := by decide +kernel
theorem dL_areTold_234 : decode cL_areTold 234 = .ok (.aload_n 2, 1) := by decide +kernel
theorem dL_areTold_235 : decode cL_areTold 235 = .ok (.iconst 4, 1) := by decide +kernel
theorem dL_areTold_236 : decode cL_areTold 236 = .ok (.iload 11, 2) := by decide +kernel
theorem dL_areTold_238 : decode cL_areTold 238 = .ok (.imul, 1) := by decide +kernel
theorem dL_areTold_239 : decode cL_areTold 239 = .ok (.iaload, 1) := by decide +kernel
theorem dL_areTold_240 : decode cL_areTold 240 = .ok (.aload_n 2, 1) := by decide +kernel
theorem dL_areTold_241 : decode cL_areTold 241 = .ok (.iconst 4, 1) := by decide +kernel
theorem dL_areTold_242 : decode cL_areTold 242 = .ok (.iload 9, 2) := by decide +kernel
theorem dL_areTold_244 : decode cL_areTold 244 = .ok (.imul, 1) := by decide +kernel
theorem dL_areTold_245 : decode cL_areTold 245 = .ok (.iaload, 1) := by decide +kernel
theorem dL_areTold_246 : decode cL_areTold 246 = .ok (.if_icmp .gt 45, 3) := by decide +kernel
theorem dL_areTold_249 : decode cL_areTold 249 = .ok (.aload_n 2, 1) := by decide +kernel
theorem dL_areTold_250 : decode cL_areTold 250 = .ok (.iconst 4, 1) := by decide +kernel
theorem dL_areTold_251 : decode cL_areTold 251 = .ok (.iload 11, 2) := by decide +kernel
theorem dL_areTold_253 : decode cL_areTold 253 = .ok (.imul, 1) := by decide +kernel
theorem dL_areTold_254 : decode cL_areTold 254 = .ok (.iconst 1, 1) := by decide +kernel
theorem dL_areTold_255 : decode cL_areTold 255 = .ok (.iadd, 1) := by decide +kernel
theorem dL_areTold_256 : decode cL_areTold 256 = .ok (.iaload, 1) := by decide +kernel
theorem dL_areTold_257 : decode cL_areTold 257 = .ok (.aload_n 2, 1) := by decide +kernel
theorem dL_areTold_258 : decode cL_areTold 258 = .ok (.iconst 4, 1) := by decide +kernel
theorem dL_areTold_259 : decode cL_areTold 259 = .ok (.iload 9, 2) := by decide +kernel
theorem dL_areTold_261 : decode cL_areTold 261 = .ok (.imul, 1) := by decide +kernel
theorem dL_areTold_262 : decode cL_areTold 262 = .ok (.iconst 1, 1) := by decide +kernel
theorem dL_areTold_263 : decode cL_areTold 263 = .ok (.iadd, 1) := by decide +kernel
theorem dL_areTold_264 : decode cL_areTold 264 = .ok (.iaload, 1) := by decide +kernel
theorem dL_areTold_265 : decode cL_areTold 265 = .ok (.if_icmp .gt 26, 3) := by decide +kernel
theorem dL_areTold_268 : decode cL_areTold 268 = .ok (.aload_n 2, 1) := by decide +kernel
theorem dL_areTold_269 : decode cL_areTold 269 = .ok (.iconst 4, 1) := by decide +kernel
theorem dL_areTold_270 : decode cL_areTold 270 = .ok (.iload 11, 2) := by decide +kernel
theorem dL_areTold_272 : decode cL_areTold 272 = .ok (.imul, 1) := by decide +kernel
theorem dL_areTold_273 : decode cL_areTold 273 = .ok (.iconst 2, 1) := by decide +kernel
theorem dL_areTold_274 : decode cL_areTold 274 = .ok (.iadd, 1) := by decide +kernel
theorem dL_areTold_275 : decode cL_areTold 275 = .ok (.iaload, 1) := by decide +kernel
theorem dL_areTold_276 : decode cL_areTold 276 = .ok (.aload_n 2, 1) := by decide +kernel
theorem dL_areTold_277 : decode cL_areTold 277 = .ok (.iconst 4, 1) := by decide +kernel
theorem dL_areTold_278 : decode cL_areTold 278 = .ok (.iload 9, 2) := by decide +kernel
theorem dL_areTold_280 : decode cL_areTold 280 = .ok (.imul, 1) := by decide +kernel
theorem dL_areTold_281 : decode cL_areTold 281 = .ok (.iconst 2, 1) := by decide +kernel
theorem dL_areTold_282 : decode cL_areTold 282 = .ok (.iadd, 1) := by decide +kernel
theorem dL_areTold_283 : decode cL_areTold 283 = .ok (.iaload, 1) := by decide +kernel
theorem dL_areTold_284 : decode cL_areTold 284 = .ok (.if_icmp .lt 7, 3) := by decide +kernel
theorem dL_areTold_287 : decode cL_areTold 287 = .ok (.iconst 1, 1) := by decide +kernel
theorem dL_areTold_288 : decode cL_areTold 288 = .ok (.goto 4, 3) := by decide +kernel
theorem dL_areTold_291 : decode cL_areTold 291 = .ok (.iconst 0, 1) := by decide +kernel
theorem dL_areTold_292 : decode cL_areTold 292 = .ok (.istore 10, 2) := by decide +kernel
theorem dL_areTold_294 : decode cL_areTold 294 = .ok (.iinc 11 1, 3) := by decide +kernel
theorem dL_areTold_297 : decode cL_areTold 297 = .ok (.goto (-75), 3) := by decide +kernel
theorem dL_areTold_300 : decode cL_areTold 300 = .ok (.iconst 0, 1) := by decide +kernel
theorem dL_areTold_301 : decode cL_areTold 301 = .ok (.istore 11, 2) := by decide +kernel
theorem dL_areTold_303 : decode cL_areTold 303 = .ok (.iload 11, 2) := by decide +kernel
theorem dL_areTold_305 : decode cL_areTold 305 = .ok (.iconst 4, 1) := by decide +kernel
theorem dL_areTold_306 : decode cL_areTold 306 = .ok (.if_icmp .ge 41, 3) := by decide +kernel
theorem dL_areTold_309 : decode cL_areTold 309 = .ok (.iload 4, 2) := by decide +kernel
theorem dL_areTold_311 : decode cL_areTold 311 = .ok (.ifCond .eq 27, 3) := by decide +kernel
theorem dL_areTold_314 : decode cL_areTold 314 = .ok (.aload_n 0, 1) := by decide +kernel
theorem dL_areTold_315 : decode cL_areTold 315 = .ok (.iload 9, 2) := by decide +kernel
theorem dL_areTold_317 : decode cL_areTold 317 = .ok (.iload 11, 2) := by decide +kernel
theorem dL_areTold_319 : decode cL_areTold 319 = .ok (.invokevirtual 51, 3) := by decide +kernel
theorem dL_areTold_322 : decode cL_areTold 322 = .ok (.aload_n 2, 1) := by decide +kernel
theorem dL_areTold_323 : decode cL_areTold 323 = .ok (.iconst 4, 1) := by decide +kernel
theorem dL_areTold_324 : decode cL_areTold 324 = .ok (.iload 9, 2) := by decide +kernel
theorem dL_areTold_326 : decode cL_areTold 326 = .ok (.imul, 1) := by decide +kernel
theorem dL_areTold_327 : decode cL_areTold 327 = .ok (.iload 11, 2) := by decide +kernel
theorem dL_areTold_329 : decode cL_areTold 329 = .ok (.iadd, 1) := by decide +kernel
theorem dL_areTold_330 : decode cL_areTold 330 = .ok (.iaload, 1) := by decide +kernel
theorem dL_areTold_331 : decode cL_areTold 331 = .ok (.if_icmp .ne 7, 3) := by decide +kernel
theorem dL_areTold_334 : decode cL_areTold 334 = .ok (.iconst 1, 1) := by decide +kernel
theorem dL_areTold_335 : decode cL_areTold 335 = .ok (.goto 4, 3) := by decide +kernel
theorem dL_areTold_338 : decode cL_areTold 338 = .ok (.iconst 0, 1) := by decide +kernel
theorem dL_areTold_339 : decode cL_areTold 339 = .ok (.istore 4, 2) := by decide +kernel
theorem dL_areTold_341 : decode cL_areTold 341 = .ok (.iinc 11 1, 3) := by decide +kernel
theorem dL_areTold_344 : decode cL_areTold 344 = .ok (.goto (-41), 3) := by decide +kernel
theorem dL_areTold_347 : decode cL_areTold 347 = .ok (.iload 4, 2) := by decide +kernel
theorem dL_areTold_349 : decode cL_areTold 349 = .ok (.ifCond .eq 50, 3) := by decide +kernel
theorem dL_areTold_352 : decode cL_areTold 352 = .ok (.aload_n 0, 1) := by decide +kernel
theorem dL_areTold_353 : decode cL_areTold 353 = .ok (.iload 9, 2) := by decide +kernel
theorem dL_areTold_355 : decode cL_areTold 355 = .ok (.iconst 4, 1) := by decide +kernel
theorem dL_areTold_356 : decode cL_areTold 356 = .ok (.invokevirtual 51, 3) := by decide +kernel
theorem dL_areTold_359 : decode cL_areTold 359 = .ok (.iload 10, 2) := by decide +kernel
theorem dL_areTold_361 : decode cL_areTold 361 = .ok (.ifCond .eq 7, 3) := by decide +kernel
theorem dL_areTold_364 : decode cL_areTold 364 = .ok (.iconst 1, 1) := by decide +kernel
theorem dL_areTold_365 : decode cL_areTold 365 = .ok (.goto 4, 3) := by decide +kernel
theorem dL_areTold_368 : decode cL_areTold 368 = .ok (.iconst 0, 1) := by decide +kernel
theorem dL_areTold_369 : decode cL_areTold 369 = .ok (.if_icmp .ne 30, 3) := by decide +kernel
theorem dL_areTold_372 : decode cL_areTold 372 = .ok (.aload_n 0, 1) := by decide +kernel
theorem dL_areTold_373 : decode cL_areTold 373 = .ok (.iload 9, 2) := by decide +kernel
theorem dL_areTold_375 : decode cL_areTold 375 = .ok (.iload 5, 2) := by decide +kernel
theorem dL_areTold_377 : decode cL_areTold 377 = .ok (.iload 6, 2) := by decide +kernel
theorem dL_areTold_379 : decode cL_areTold 379 = .ok (.iload 7, 2) := by decide +kernel
theorem dL_areTold_381 : decode cL_areTold 381 = .ok (.invokevirtual 54, 3) := by decide +kernel
theorem dL_areTold_384 : decode cL_areTold 384 = .ok (.aload_n 2, 1) := by decide +kernel
theorem dL_areTold_385 : decode cL_areTold 385 = .ok (.iload 9, 2) := by decide +kernel
theorem dL_areTold_387 : decode cL_areTold 387 = .ok (.iload 8, 2) := by decide +kernel
theorem dL_areTold_389 : decode cL_areTold 389 = .ok (.invokestatic 15, 3) := by decide +kernel
theorem dL_areTold_392 : decode cL_areTold 392 = .ok (.if_icmp .ne 7, 3) := by decide +kernel
theorem dL_areTold_395 : decode cL_areTold 395 = .ok (.iconst 1, 1) := by decide +kernel
theorem dL_areTold_396 : decode cL_areTold 396 = .ok (.goto 4, 3) := by decide +kernel
theorem dL_areTold_399 : decode cL_areTold 399 = .ok (.iconst 0, 1) := by decide +kernel
theorem dL_areTold_400 : decode cL_areTold 400 = .ok (.istore 4, 2) := by decide +kernel
theorem dL_areTold_402 : decode cL_areTold 402 = .ok (.iinc 9 1, 3) := by decide +kernel
theorem dL_areTold_405 : decode cL_areTold 405 = .ok (.goto (-198), 3) := by decide +kernel
theorem dL_areTold_408 : decode cL_areTold 408 = .ok (.iload 4, 2) := by decide +kernel
theorem dL_areTold_410 : decode cL_areTold 410 = .ok (.ifCond .eq 82, 3) := by decide +kernel
theorem dL_areTold_413 : decode cL_areTold 413 = .ok (.aload_n 0, 1) := by decide +kernel
theorem dL_areTold_414 : decode cL_areTold 414 = .ok (.iload 5, 2) := by decide +kernel
theorem dL_areTold_416 : decode cL_areTold 416 = .ok (.iload 6, 2) := by decide +kernel
theorem dL_areTold_418 : decode cL_areTold 418 = .ok (.iload 7, 2) := by decide +kernel
theorem dL_areTold_420 : decode cL_areTold 420 = .ok (.iconst 0, 1) := by decide +kernel
theorem dL_areTold_421 : decode cL_areTold 421 = .ok (.invokevirtual 58, 3) := by decide +kernel
theorem dL_areTold_424 : decode cL_areTold 424 = .ok (.aload_n 1, 1) := by decide +kernel
theorem dL_areTold_425 : decode cL_areTold 425 = .ok (.aload_n 2, 1) := by decide +kernel
theorem dL_areTold_426 : decode cL_areTold 426 = .ok (.iload 8, 2) := by decide +kernel
theorem dL_areTold_428 : decode cL_areTold 428 = .ok (.invokestatic 23, 3) := by decide +kernel
theorem dL_areTold_431 : decode cL_areTold 431 = .ok (.if_icmp .ne 61, 3) := by decide +kernel
theorem dL_areTold_434 : decode cL_areTold 434 = .ok (.aload_n 0, 1) := by decide +kernel
theorem dL_areTold_435 : decode cL_areTold 435 = .ok (.iload 5, 2) := by decide +kernel
theorem dL_areTold_437 : decode cL_areTold 437 = .ok (.iload 6, 2) := by decide +kernel
theorem dL_areTold_439 : decode cL_areTold 439 = .ok (.iload 7, 2) := by decide +kernel
theorem dL_areTold_441 : decode cL_areTold 441 = .ok (.iconst 1, 1) := by decide +kernel
theorem dL_areTold_442 : decode cL_areTold 442 = .ok (.invokevirtual 58, 3) := by decide +kernel
theorem dL_areTold_445 : decode cL_areTold 445 = .ok (.aload_n 1, 1) := by decide +kernel
theorem dL_areTold_446 : decode cL_areTold 446 = .ok (.aload_n 2, 1) := by decide +kernel
theorem dL_areTold_447 : decode cL_areTold 447 = .ok (.iload 8, 2) := by decide +kernel
theorem dL_areTold_449 : decode cL_areTold 449 = .ok (.invokestatic 23, 3) := by decide +kernel
theorem dL_areTold_452 : decode cL_areTold 452 = .ok (.if_icmp .ne 40, 3) := by decide +kernel
theorem dL_areTold_455 : decode cL_areTold 455 = .ok (.aload_n 0, 1) := by decide +kernel
theorem dL_areTold_456 : decode cL_areTold 456 = .ok (.bipush 49, 2) := by decide +kernel
theorem dL_areTold_458 : decode cL_areTold 458 = .ok (.iload 6, 2) := by decide +kernel
theorem dL_areTold_460 : decode cL_areTold 460 = .ok (.iload 7, 2) := by decide +kernel
theorem dL_areTold_462 : decode cL_areTold 462 = .ok (.iconst 0, 1) := by decide +kernel
theorem dL_areTold_463 : decode cL_areTold 463 = .ok (.invokevirtual 58, 3) := by decide +kernel
theorem dL_areTold_466 : decode cL_areTold 466 = .ok (.iconst (-1), 1) := by decide +kernel
theorem dL_areTold_467 : decode cL_areTold 467 = .ok (.if_icmp .ne 25, 3) := by decide +kernel
theorem dL_areTold_470 : decode cL_areTold 470 = .ok (.aload_n 0, 1) := by decide +kernel
theorem dL_areTold_471 : decode cL_areTold 471 = .ok (.aload_n 1, 1) := by decide +kernel
theorem dL_areTold_472 : decode cL_areTold 472 = .ok (.bipush 9, 2) := by decide +kernel
theorem dL_areTold_474 : decode cL_areTold 474 = .ok (.iaload, 1) := by decide +kernel
theorem dL_areTold_475 : decode cL_areTold 475 = .ok (.iload 5, 2) := by decide +kernel
theorem dL_areTold_477 : decode cL_areTold 477 = .ok (.iload 6, 2) := by decide +kernel
theorem dL_areTold_479 : decode cL_areTold 479 = .ok (.iload 7, 2) := by decide +kernel
theorem dL_areTold_481 : decode cL_areTold 481 = .ok (.invokevirtual 54, 3) := by decide +kernel
theorem dL_areTold_484 : decode cL_areTold 484 = .ok (.iconst (-1), 1) := by decide +kernel
theorem dL_areTold_485 : decode cL_areTold 485 = .ok (.if_icmp .ne 7, 3) := by decide +kernel
theorem dL_areTold_488 : decode cL_areTold 488 = .ok (.iconst 1, 1) := by decide +kernel
theorem dL_areTold_489 : decode cL_areTold 489 = .ok (.goto 4, 3) := by decide +kernel
theorem dL_areTold_492 : decode cL_areTold 492 = .ok (.iconst 0, 1) := by decide +kernel
theorem dL_areTold_493 : decode cL_areTold 493 = .ok (.ireturn, 1) := by decide +kernel
