set_option maxRecDepth 20000 in
theorem ggL_wants_X3_state : GoodIn wsL_wants wsX3_state := goodIn_ca (goodIn_r _ [5, 6, 7, 8, 4, 9, 10, 11, 12, 13, 14, 15, 16, 17, 241, 242, 243, 244, 245, 246, 247, 248, 249, 250, 251, 252, 253, 254, 255, 256, 257, 258, 259, 260, 261, 262, 263, 264] (by decide +kernel) (by decide +kernel)) (goodIn_sub (fun _ h => List.mem_cons_of_mem _ (List.mem_append_left _ (List.mem_append_left _ (List.mem_append_right _ h)))) (by decide +kernel))
set_option maxRecDepth 20000 in
theorem gL_wants_X3_state : GoodIn wsL_wants (wsV RL 69 RX3 yX3_state wsX3_state) := goodIn_app (goodIn_of _ (by decide +kernel)) ggL_wants_X3_state
set_option maxRecDepth 20000 in
theorem ggL_wants_L_isShut : GoodIn wsL_wants wsL_isShut := goodIn_r _ [21] (by decide +kernel) (by decide +kernel)
set_option maxRecDepth 20000 in
theorem gL_wants_L_isShut : GoodIn wsL_wants (va_wsS RL 107 yL_isShut wsL_isShut) := goodIn_app (goodIn_of _ (by decide +kernel)) ggL_wants_L_isShut
set_option maxRecDepth 20000 in
theorem ggL_wants_L_asks : GoodIn wsL_wants wsL_asks := goodIn_ca (goodIn_ca (goodIn_ca (goodIn_r _ [24, 25, 26, 27, 28, 29, 4, 30, 10, 11, 31, 32, 33, 7, 8, 9, 34, 35, 36, 37, 38, 39, 12, 13, 14, 15, 16, 17, 40, 41, 42, 43, 44, 45, 46, 47, 48, 49, 50, 51, 52, 20, 53, 54, 55, 56, 57, 58, 59, 60, 61, 62, 63, 64, 65, 66, 67, 68, 69, 70, 71, 6, 72, 73, 74, 75, 76, 77, 78, 79, 80, 81, 82, 83, 84, 85, 86, 87, 88, 89, 90, 91, 92, 93, 94, 95, 96, 97, 98, 99, 100, 101, 102, 103, 104, 105, 106, 107, 108, 109, 110, 111, 112, 113, 114, 115, 116, 117, 118, 119, 120, 121, 122, 123, 124, 125, 126, 127, 128, 129, 130, 131, 132, 133, 134, 135, 136, 137, 138, 139, 140, 141, 142, 143, 144, 145, 146, 147, 148, 149, 150, 151, 152, 153, 154, 155, 156, 157, 158, 159, 160, 161, 162, 163, 164, 165, 166, 167, 168, 169, 170, 171, 172, 173, 174, 175, 176, 177, 178, 179, 180, 181, 182, 183, 184, 185, 186, 187, 188, 189, 190, 191, 192, 193, 194, 195, 196, 197, 198, 199, 200, 201, 202, 203, 204, 205, 206, 207, 208, 209, 210, 211, 212, 213, 214, 215, 216, 217, 218, 219, 220, 221, 222, 223, 224, 225, 226, 227, 228, 229, 230, 231, 232, 233, 234, 235, 236, 237, 238, 239, 240, 241, 242, 243, 244, 245, 246, 247, 248, 249, 250, 251, 252, 253, 254, 255, 256, 257, 258, 259, 260, 261, 262, 263, 264, 265, 266, 267, 268, 269, 270, 271, 272, 273, 274] (by decide +kernel) (by decide +kernel)) (goodIn_sub (fun _ h => List.mem_cons_of_mem _ (List.mem_append_left _ (List.mem_append_left _ (List.mem_append_right _ h)))) (by decide +kernel))) (goodIn_sub (fun _ h => List.mem_cons_of_mem _ (List.mem_append_left _ (List.mem_append_right _ h))) (by decide +kernel))) (goodIn_sub (fun _ h => List.mem_cons_of_mem _ (List.mem_append_right _ h)) (by decide +kernel))
set_option maxRecDepth 20000 in
theorem gL_wants_L_asks : GoodIn wsL_wants (va_wsS RL 95 yL_asks wsL_asks) := goodIn_app (goodIn_of _ (by decide +kernel)) ggL_wants_L_asks
theorem dL_wants_0 : decode cL_wants 0 = .ok (.iload_n 2, 1) := by decide +kernel
theorem dL_wants_1 : decode cL_wants 1 = .ok (.iconst 2, 1) := by decide +kernel
theorem dL_wants_2 : decode cL_wants 2 = .ok (.irem, 1) := by decide +kernel
theorem dL_wants_3 : decode cL_wants 3 = .ok (.istore 5, 2) := by decide +kernel
theorem dL_wants_5 : decode cL_wants 5 = .ok (.iload_n 2, 1) := by decide +kernel
theorem dL_wants_6 : decode cL_wants 6 = .ok (.iconst 2, 1) := by decide +kernel
theorem dL_wants_7 : decode cL_wants 7 = .ok (.idiv, 1) := by decide +kernel
theorem dL_wants_8 : decode cL_wants 8 = .ok (.iconst 4, 1) := by decide +kernel
theorem dL_wants_9 : decode cL_wants 9 = .ok (.irem, 1) := by decide +kernel
theorem dL_wants_10 : decode cL_wants 10 = .ok (.istore 6, 2) := by decide +kernel
theorem dL_wants_12 : decode cL_wants 12 = .ok (.bipush 6, 2) := by decide +kernel
theorem dL_wants_14 : decode cL_wants 14 = .ok (.iconst 4, 1) := by decide +kernel
theorem dL_wants_15 : decode cL_wants 15 = .ok (.iload 5, 2) := by decide +kernel
theorem dL_wants_17 : decode cL_wants 17 = .ok (.imul, 1) := by decide +kernel
theorem dL_wants_18 : decode cL_wants 18 = .ok (.iload 6, 2) := by decide +kernel
theorem dL_wants_20 : decode cL_wants 20 = .ok (.iadd, 1) := by decide +kernel
theorem dL_wants_21 : decode cL_wants 21 = .ok (.imul, 1) := by decide +kernel
theorem dL_wants_22 : decode cL_wants 22 = .ok (.istore 7, 2) := by decide +kernel
theorem dL_wants_24 : decode cL_wants 24 = .ok (.aload_n 0, 1) := by decide +kernel
theorem dL_wants_25 : decode cL_wants 25 = .ok (.iload 5, 2) := by decide +kernel
theorem dL_wants_27 : decode cL_wants 27 = .ok (.invokevirtual 69, 3) := by decide +kernel
theorem dL_wants_30 : decode cL_wants 30 = .ok (.invokestatic 107, 3) := by decide +kernel
theorem dL_wants_33 : decode cL_wants 33 = .ok (.istore 8, 2) := by decide +kernel
theorem dL_wants_35 : decode cL_wants 35 = .ok (.iload_n 3, 1) := by decide +kernel
theorem dL_wants_36 : decode cL_wants 36 = .ok (.iconst 3, 1) := by decide +kernel
theorem dL_wants_37 : decode cL_wants 37 = .ok (.irem, 1) := by decide +kernel
theorem dL_wants_38 : decode cL_wants 38 = .ok (.ifCond .ne 7, 3) := by decide +kernel
theorem dL_wants_41 : decode cL_wants 41 = .ok (.iconst 0, 1) := by decide +kernel
theorem dL_wants_42 : decode cL_wants 42 = .ok (.goto 9, 3) := by decide +kernel
theorem dL_wants_45 : decode cL_wants 45 = .ok (.iload_n 3, 1) := by decide +kernel
theorem dL_wants_46 : decode cL_wants 46 = .ok (.iconst 3, 1) := by decide +kernel
theorem dL_wants_47 : decode cL_wants 47 = .ok (.idiv, 1) := by decide +kernel
theorem dL_wants_48 : decode cL_wants 48 = .ok (.bipush 101, 2) := by decide +kernel
theorem dL_wants_50 : decode cL_wants 50 = .ok (.irem, 1) := by decide +kernel
theorem dL_wants_51 : decode cL_wants 51 = .ok (.istore 9, 2) := by decide +kernel
theorem dL_wants_53 : decode cL_wants 53 = .ok (.iload 9, 2) := by decide +kernel
theorem dL_wants_55 : decode cL_wants 55 = .ok (.iload_n 3, 1) := by decide +kernel
theorem dL_wants_56 : decode cL_wants 56 = .ok (.sipush 303, 3) := by decide +kernel
theorem dL_wants_59 : decode cL_wants 59 = .ok (.idiv, 1) := by decide +kernel
theorem dL_wants_60 : decode cL_wants 60 = .ok (.bipush 101, 2) := by decide +kernel
theorem dL_wants_62 : decode cL_wants 62 = .ok (.iload 9, 2) := by decide +kernel
theorem dL_wants_64 : decode cL_wants 64 = .ok (.isub, 1) := by decide +kernel
theorem dL_wants_65 : decode cL_wants 65 = .ok (.irem, 1) := by decide +kernel
theorem dL_wants_66 : decode cL_wants 66 = .ok (.iadd, 1) := by decide +kernel
theorem dL_wants_67 : decode cL_wants 67 = .ok (.istore 10, 2) := by decide +kernel
theorem dL_wants_69 : decode cL_wants 69 = .ok (.iload_n 2, 1) := by decide +kernel
theorem dL_wants_70 : decode cL_wants 70 = .ok (.bipush 8, 2) := by decide +kernel
theorem dL_wants_72 : decode cL_wants 72 = .ok (.idiv, 1) := by decide +kernel
theorem dL_wants_73 : decode cL_wants 73 = .ok (.iconst 3, 1) := by decide +kernel
theorem dL_wants_74 : decode cL_wants 74 = .ok (.irem, 1) := by decide +kernel
theorem dL_wants_75 : decode cL_wants 75 = .ok (.ifCond .ne 7, 3) := by decide +kernel
theorem dL_wants_78 : decode cL_wants 78 = .ok (.iconst (-1), 1) := by decide +kernel
theorem dL_wants_79 : decode cL_wants 79 = .ok (.goto 18, 3) := by decide +kernel
theorem dL_wants_82 : decode cL_wants 82 = .ok (.iload 9, 2) := by decide +kernel
theorem dL_wants_84 : decode cL_wants 84 = .ok (.iload_n 2, 1) := by decide +kernel
theorem dL_wants_85 : decode cL_wants 85 = .ok (.bipush 24, 2) := by decide +kernel
theorem dL_wants_87 : decode cL_wants 87 = .ok (.idiv, 1) := by decide +kernel
theorem dL_wants_88 : decode cL_wants 88 = .ok (.iload 10, 2) := by decide +kernel
theorem dL_wants_90 : decode cL_wants 90 = .ok (.iload 9, 2) := by decide +kernel
theorem dL_wants_92 : decode cL_wants 92 = .ok (.isub, 1) := by decide +kernel
theorem dL_wants_93 : decode cL_wants 93 = .ok (.iconst 1, 1) := by decide +kernel
theorem dL_wants_94 : decode cL_wants 94 = .ok (.iadd, 1) := by decide +kernel
theorem dL_wants_95 : decode cL_wants 95 = .ok (.irem, 1) := by decide +kernel
theorem dL_wants_96 : decode cL_wants 96 = .ok (.iadd, 1) := by decide +kernel
theorem dL_wants_97 : decode cL_wants 97 = .ok (.istore 11, 2) := by decide +kernel
theorem dL_wants_99 : decode cL_wants 99 = .ok (.aload_n 0, 1) := by decide +kernel
theorem dL_wants_100 : decode cL_wants 100 = .ok (.iconst 0, 1) := by decide +kernel
theorem dL_wants_101 : decode cL_wants 101 = .ok (.invokevirtual 69, 3) := by decide +kernel
theorem dL_wants_104 : decode cL_wants 104 = .ok (.bipush 8, 2) := by decide +kernel
theorem dL_wants_106 : decode cL_wants 106 = .ok (.aload_n 0, 1) := by decide +kernel
theorem dL_wants_107 : decode cL_wants 107 = .ok (.iconst 1, 1) := by decide +kernel
theorem dL_wants_108 : decode cL_wants 108 = .ok (.invokevirtual 69, 3) := by decide +kernel
theorem dL_wants_111 : decode cL_wants 111 = .ok (.imul, 1) := by decide +kernel
theorem dL_wants_112 : decode cL_wants 112 = .ok (.iadd, 1) := by decide +kernel
theorem dL_wants_113 : decode cL_wants 113 = .ok (.istore 12, 2) := by decide +kernel
theorem dL_wants_115 : decode cL_wants 115 = .ok (.iload_n 1, 1) := by decide +kernel
theorem dL_wants_116 : decode cL_wants 116 = .ok (.ifCond .ne 13, 3) := by decide +kernel
theorem dL_wants_119 : decode cL_wants 119 = .ok (.aload 4, 2) := by decide +kernel
theorem dL_wants_121 : decode cL_wants 121 = .ok (.iload 7, 2) := by decide +kernel
theorem dL_wants_123 : decode cL_wants 123 = .ok (.iaload, 1) := by decide +kernel
theorem dL_wants_124 : decode cL_wants 124 = .ok (.iconst 1, 1) := by decide +kernel
theorem dL_wants_125 : decode cL_wants 125 = .ok (.isub, 1) := by decide +kernel
theorem dL_wants_126 : decode cL_wants 126 = .ok (.goto 10, 3) := by decide +kernel
theorem dL_wants_129 : decode cL_wants 129 = .ok (.aload 4, 2) := by decide +kernel
theorem dL_wants_131 : decode cL_wants 131 = .ok (.iload 7, 2) := by decide +kernel
theorem dL_wants_133 : decode cL_wants 133 = .ok (.iconst 5, 1) := by decide +kernel
theorem dL_wants_134 : decode cL_wants 134 = .ok (.iadd, 1) := by decide +kernel
theorem dL_wants_135 : decode cL_wants 135 = .ok (.iaload, 1) := by decide +kernel
theorem dL_wants_136 : decode cL_wants 136 = .ok (.istore 13, 2) := by decide +kernel
theorem dL_wants_138 : decode cL_wants 138 = .ok (.aload_n 0, 1) := by decide +kernel
theorem dL_wants_139 : decode cL_wants 139 = .ok (.iload_n 1, 1) := by decide +kernel
theorem dL_wants_140 : decode cL_wants 140 = .ok (.iload 5, 2) := by decide +kernel
theorem dL_wants_142 : decode cL_wants 142 = .ok (.iload 6, 2) := by decide +kernel
theorem dL_wants_144 : decode cL_wants 144 = .ok (.iload_n 1, 1) := by decide +kernel
theorem dL_wants_145 : decode cL_wants 145 = .ok (.iconst 2, 1) := by decide +kernel
theorem dL_wants_146 : decode cL_wants 146 = .ok (.if_icmp .ne 12, 3) := by decide +kernel
theorem dL_wants_149 : decode cL_wants 149 = .ok (.iload_n 2, 1) := by decide +kernel
theorem dL_wants_150 : decode cL_wants 150 = .ok (.bipush 8, 2) := by decide +kernel
theorem dL_wants_152 : decode cL_wants 152 = .ok (.idiv, 1) := by decide +kernel
theorem dL_wants_153 : decode cL_wants 153 = .ok (.iconst 2, 1) := by decide +kernel
theorem dL_wants_154 : decode cL_wants 154 = .ok (.irem, 1) := by decide +kernel
theorem dL_wants_155 : decode cL_wants 155 = .ok (.goto 5, 3) := by decide +kernel
theorem dL_wants_158 : decode cL_wants 158 = .ok (.iload 11, 2) := by decide +kernel
theorem dL_wants_160 : decode cL_wants 160 = .ok (.iload 9, 2) := by decide +kernel
theorem dL_wants_162 : decode cL_wants 162 = .ok (.iload 10, 2) := by decide +kernel
theorem dL_wants_164 : decode cL_wants 164 = .ok (.invokestatic 95, 3) := by decide +kernel
theorem dL_wants_167 : decode cL_wants 167 = .ok (.istore 14, 2) := by decide +kernel
theorem dL_wants_169 : decode cL_wants 169 = .ok (.iload 8, 2) := by decide +kernel
theorem dL_wants_171 : decode cL_wants 171 = .ok (.ifCond .eq 37, 3) := by decide +kernel
theorem dL_wants_174 : decode cL_wants 174 = .ok (.iload_n 1, 1) := by decide +kernel
theorem dL_wants_175 : decode cL_wants 175 = .ok (.ifCond .ne 33, 3) := by decide +kernel
theorem dL_wants_178 : decode cL_wants 178 = .ok (.aload 4, 2) := by decide +kernel
theorem dL_wants_180 : decode cL_wants 180 = .ok (.iload 7, 2) := by decide +kernel
theorem dL_wants_182 : decode cL_wants 182 = .ok (.iload 11, 2) := by decide +kernel
theorem dL_wants_184 : decode cL_wants 184 = .ok (.iconst 1, 1) := by decide +kernel
theorem dL_wants_185 : decode cL_wants 185 = .ok (.iadd, 1) := by decide +kernel
theorem dL_wants_186 : decode cL_wants 186 = .ok (.iastore, 1) := by decide +kernel
theorem dL_wants_187 : decode cL_wants 187 = .ok (.aload 4, 2) := by decide +kernel
theorem dL_wants_189 : decode cL_wants 189 = .ok (.iload 7, 2) := by decide +kernel
theorem dL_wants_191 : decode cL_wants 191 = .ok (.iconst 1, 1) := by decide +kernel
theorem dL_wants_192 : decode cL_wants 192 = .ok (.iadd, 1) := by decide +kernel
theorem dL_wants_193 : decode cL_wants 193 = .ok (.iload 9, 2) := by decide +kernel
theorem dL_wants_195 : decode cL_wants 195 = .ok (.iastore, 1) := by decide +kernel
theorem dL_wants_196 : decode cL_wants 196 = .ok (.aload 4, 2) := by decide +kernel
theorem dL_wants_198 : decode cL_wants 198 = .ok (.iload 7, 2) := by decide +kernel
theorem dL_wants_200 : decode cL_wants 200 = .ok (.iconst 2, 1) := by decide +kernel
theorem dL_wants_201 : decode cL_wants 201 = .ok (.iadd, 1) := by decide +kernel
theorem dL_wants_202 : decode cL_wants 202 = .ok (.iload 10, 2) := by decide +kernel
theorem dL_wants_204 : decode cL_wants 204 = .ok (.iastore, 1) := by decide +kernel
theorem dL_wants_205 : decode cL_wants 205 = .ok (.goto 52, 3) := by decide +kernel
theorem dL_wants_208 : decode cL_wants 208 = .ok (.iload 8, 2) := by decide +kernel
theorem dL_wants_210 : decode cL_wants 210 = .ok (.ifCond .eq 29, 3) := by decide +kernel
theorem dL_wants_213 : decode cL_wants 213 = .ok (.iload_n 1, 1) := by decide +kernel
theorem dL_wants_214 : decode cL_wants 214 = .ok (.iconst 1, 1) := by decide +kernel
theorem dL_wants_215 : decode cL_wants 215 = .ok (.if_icmp .ne 24, 3) := by decide +kernel
theorem dL_wants_218 : decode cL_wants 218 = .ok (.aload 4, 2) := by decide +kernel
theorem dL_wants_220 : decode cL_wants 220 = .ok (.iload 7, 2) := by decide +kernel
theorem dL_wants_222 : decode cL_wants 222 = .ok (.iconst 3, 1) := by decide +kernel
theorem dL_wants_223 : decode cL_wants 223 = .ok (.iadd, 1) := by decide +kernel
theorem dL_wants_224 : decode cL_wants 224 = .ok (.iload 9, 2) := by decide +kernel
theorem dL_wants_226 : decode cL_wants 226 = .ok (.iastore, 1) := by decide +kernel
theorem dL_wants_227 : decode cL_wants 227 = .ok (.aload 4, 2) := by decide +kernel
theorem dL_wants_229 : decode cL_wants 229 = .ok (.iload 7, 2) := by decide +kernel
theorem dL_wants_231 : decode cL_wants 231 = .ok (.iconst 4, 1) := by decide +kernel
theorem dL_wants_232 : decode cL_wants 232 = .ok (.iadd, 1) := by decide +kernel
theorem dL_wants_233 : decode cL_wants 233 = .ok (.iload 10, 2) := by decide +kernel
theorem dL_wants_235 : decode cL_wants 235 = .ok (.iastore, 1) := by decide +kernel
theorem dL_wants_236 : decode cL_wants 236 = .ok (.goto 21, 3) := by decide +kernel
theorem dL_wants_239 : decode cL_wants 239 = .ok (.iload 8, 2) := by decide +kernel
theorem dL_wants_241 : decode cL_wants 241 = .ok (.ifCond .eq 16, 3) := by decide +kernel
theorem dL_wants_244 : decode cL_wants 244 = .ok (.aload 4, 2) := by decide +kernel
theorem dL_wants_246 : decode cL_wants 246 = .ok (.iload 7, 2) := by decide +kernel
theorem dL_wants_248 : decode cL_wants 248 = .ok (.iconst 5, 1) := by decide +kernel
theorem dL_wants_249 : decode cL_wants 249 = .ok (.iadd, 1) := by decide +kernel
theorem dL_wants_250 : decode cL_wants 250 = .ok (.iload_n 2, 1) := by decide +kernel
theorem dL_wants_251 : decode cL_wants 251 = .ok (.bipush 8, 2) := by decide +kernel
theorem dL_wants_253 : decode cL_wants 253 = .ok (.idiv, 1) := by decide +kernel
theorem dL_wants_254 : decode cL_wants 254 = .ok (.iconst 2, 1) := by decide +kernel
theorem dL_wants_255 : decode cL_wants 255 = .ok (.irem, 1) := by decide +kernel
theorem dL_wants_256 : decode cL_wants 256 = .ok (.iastore, 1) := by decide +kernel
theorem dL_wants_257 : decode cL_wants 257 = .ok (.iload 14, 2) := by decide +kernel
theorem dL_wants_259 : decode cL_wants 259 = .ok (.iload 8, 2) := by decide +kernel
theorem dL_wants_261 : decode cL_wants 261 = .ok (.ifCond .ne 8, 3) := by decide +kernel
theorem dL_wants_264 : decode cL_wants 264 = .ok (.bipush (-8), 2) := by decide +kernel
theorem dL_wants_266 : decode cL_wants 266 = .ok (.goto 14, 3) := by decide +kernel
theorem dL_wants_269 : decode cL_wants 269 = .ok (.iload_n 1, 1) := by decide +kernel
theorem dL_wants_270 : decode cL_wants 270 = .ok (.iconst 1, 1) := by decide +kernel
theorem dL_wants_271 : decode cL_wants 271 = .ok (.if_icmp .ne 7, 3) := by decide +kernel
theorem dL_wants_274 : decode cL_wants 274 = .ok (.iconst 0, 1) := by decide +kernel
theorem dL_wants_275 : decode cL_wants 275 = .ok (.goto 5, 3) := by decide +kernel
theorem dL_wants_278 : decode cL_wants 278 = .ok (.iload 13, 2) := by decide +kernel
theorem dL_wants_280 : decode cL_wants 280 = .ok (.if_icmp .ne 26, 3) := by decide +kernel
theorem dL_wants_283 : decode cL_wants 283 = .ok (.aload_n 0, 1) := by decide +kernel
theorem dL_wants_284 : decode cL_wants 284 = .ok (.iconst 0, 1) := by decide +kernel
theorem dL_wants_285 : decode cL_wants 285 = .ok (.invokevirtual 69, 3) := by decide +kernel
theorem dL_wants_288 : decode cL_wants 288 = .ok (.bipush 8, 2) := by decide +kernel
theorem dL_wants_290 : decode cL_wants 290 = .ok (.aload_n 0, 1) := by decide +kernel
theorem dL_wants_291 : decode cL_wants 291 = .ok (.iconst 1, 1) := by decide +kernel
theorem dL_wants_292 : decode cL_wants 292 = .ok (.invokevirtual 69, 3) := by decide +kernel
theorem dL_wants_295 : decode cL_wants 295 = .ok (.imul, 1) := by decide +kernel
theorem dL_wants_296 : decode cL_wants 296 = .ok (.iadd, 1) := by decide +kernel
theorem dL_wants_297 : decode cL_wants 297 = .ok (.iload 12, 2) := by decide +kernel
theorem dL_wants_299 : decode cL_wants 299 = .ok (.if_icmp .ne 7, 3) := by decide +kernel
theorem dL_wants_302 : decode cL_wants 302 = .ok (.iconst 1, 1) := by decide +kernel
theorem dL_wants_303 : decode cL_wants 303 = .ok (.goto 4, 3) := by decide +kernel
theorem dL_wants_306 : decode cL_wants 306 = .ok (.iconst 0, 1) := by decide +kernel
theorem dL_wants_307 : decode cL_wants 307 = .ok (.ireturn, 1) := by decide +kernel
