set_option maxRecDepth 20000 in
theorem ggL_turns_X3_state : GoodIn wsL_turns wsX3_state := goodIn_ca (goodIn_r _ [5, 6, 7, 8, 4, 9, 10, 11, 12, 13, 14, 15, 16, 17, 253, 254, 255, 256, 257, 258, 259, 260, 261, 262, 263, 264, 265, 266, 267, 268, 269, 270, 271, 272, 273, 274, 275, 276] (by decide +kernel) (by decide +kernel)) (goodIn_sub (fun _ h => List.mem_cons_of_mem _ (List.mem_append_left _ (List.mem_append_left _ (List.mem_append_right _ h)))) (by decide +kernel))
set_option maxRecDepth 20000 in
theorem gL_turns_X3_state : GoodIn wsL_turns (wsV RL 69 RX3 yX3_state wsX3_state) := goodIn_app (goodIn_of _ (by decide +kernel)) ggL_turns_X3_state
set_option maxRecDepth 20000 in
theorem ggL_turns_X3_waiting : GoodIn wsL_turns wsX3_waiting := goodIn_ca (goodIn_r _ [21, 22, 23, 7, 8, 4, 9, 10, 11, 12, 13, 14, 15, 16, 17, 253, 254, 255, 256, 257, 258, 259, 260, 261, 262, 263, 264, 265, 266, 267, 268, 277, 278, 279, 280, 281, 282, 269, 270, 271, 272, 273, 274, 275, 276] (by decide +kernel) (by decide +kernel)) (goodIn_sub (fun _ h => List.mem_cons_of_mem _ (List.mem_append_left _ (List.mem_append_left _ (List.mem_append_right _ h)))) (by decide +kernel))
set_option maxRecDepth 20000 in
theorem gL_turns_X3_waiting : GoodIn wsL_turns (wsV RL 88 RX3 yX3_waiting wsX3_waiting) := goodIn_app (goodIn_of _ (by decide +kernel)) ggL_turns_X3_waiting
set_option maxRecDepth 20000 in
theorem ggL_turns_L_isShut : GoodIn wsL_turns wsL_isShut := goodIn_r _ [27] (by decide +kernel) (by decide +kernel)
set_option maxRecDepth 20000 in
theorem gL_turns_L_isShut : GoodIn wsL_turns (va_wsS RL 107 yL_isShut wsL_isShut) := goodIn_app (goodIn_of _ (by decide +kernel)) ggL_turns_L_isShut
set_option maxRecDepth 20000 in
theorem ggL_turns_L_asks : GoodIn wsL_turns wsL_asks := goodIn_ca (goodIn_ca (goodIn_ca (goodIn_r _ [30, 31, 32, 33, 34, 35, 4, 36, 10, 11, 37, 38, 39, 7, 8, 9, 40, 41, 42, 43, 44, 45, 12, 13, 14, 15, 16, 17, 46, 47, 48, 49, 50, 51, 52, 53, 54, 55, 56, 57, 58, 26, 59, 60, 61, 62, 63, 64, 65, 66, 67, 68, 69, 70, 71, 72, 73, 74, 75, 76, 77, 6, 78, 79, 80, 81, 82, 83, 84, 85, 86, 87, 88, 89, 90, 91, 92, 93, 94, 95, 96, 22, 97, 98, 99, 100, 101, 102, 103, 104, 105, 106, 107, 108, 109, 110, 111, 112, 113, 114, 115, 116, 117, 118, 119, 120, 121, 122, 123, 124, 125, 126, 127, 128, 129, 130, 131, 132, 133, 134, 135, 136, 137, 138, 139, 140, 23, 141, 142, 143, 144, 145, 146, 147, 148, 149, 150, 151, 152, 153, 154, 155, 156, 157, 158, 159, 160, 161, 162, 163, 164, 165, 166, 167, 168, 169, 170, 171, 172, 173, 174, 175, 176, 177, 178, 179, 180, 181, 182, 183, 184, 185, 186, 187, 188, 189, 190, 191, 192, 193, 194, 195, 196, 197, 198, 199, 200, 201, 202, 203, 204, 205, 206, 207, 208, 209, 210, 211, 212, 213, 214, 215, 216, 217, 218, 219, 220, 221, 222, 223, 224, 225, 226, 227, 228, 229, 230, 231, 232, 233, 234, 235, 236, 237, 238, 239, 240, 241, 242, 243, 244, 253, 254, 255, 256, 257, 258, 259, 260, 261, 262, 263, 264, 265, 266, 267, 268, 269, 270, 271, 272, 273, 274, 275, 276, 277, 278, 279, 280, 281, 282, 283, 284, 285, 286] (by decide +kernel) (by decide +kernel)) (goodIn_sub (fun _ h => List.mem_cons_of_mem _ (List.mem_append_left _ (List.mem_append_left _ (List.mem_append_right _ h)))) (by decide +kernel))) (goodIn_sub (fun _ h => List.mem_cons_of_mem _ (List.mem_append_left _ (List.mem_append_right _ h))) (by decide +kernel))) (goodIn_sub (fun _ h => List.mem_cons_of_mem _ (List.mem_append_right _ h)) (by decide +kernel))
set_option maxRecDepth 20000 in
theorem gL_turns_L_asks : GoodIn wsL_turns (va_wsS RL 95 yL_asks wsL_asks) := goodIn_app (goodIn_of _ (by decide +kernel)) ggL_turns_L_asks
set_option maxRecDepth 20000 in
theorem ggL_turns_X3_kindAt : GoodIn wsL_turns wsX3_kindAt := goodIn_ca (goodIn_ca (goodIn_r _ [244, 22, 7, 8, 4, 9, 10, 11, 12, 13, 14, 15, 16, 17, 136, 137, 138, 139, 140, 23, 236, 237, 238, 100, 239, 103, 107, 108, 109, 110, 111, 253, 254, 255, 256, 257, 258, 259, 260, 261, 262, 263, 264, 265, 266, 267, 268, 269, 270, 271, 272, 273, 274, 275, 276, 277, 278, 279, 280, 281, 282] (by decide +kernel) (by decide +kernel)) (goodIn_sub (fun _ h => List.mem_cons_of_mem _ (List.mem_append_left _ (List.mem_append_left _ (List.mem_append_right _ h)))) (by decide +kernel))) (goodIn_sub (fun _ h => List.mem_cons_of_mem _ (List.mem_append_right _ h)) (by decide +kernel))
set_option maxRecDepth 20000 in
theorem gL_turns_X3_kindAt : GoodIn wsL_turns (wsV RL 53 RX3 yX3_kindAt wsX3_kindAt) := goodIn_app (goodIn_of _ (by decide +kernel)) ggL_turns_X3_kindAt
set_option maxRecDepth 20000 in
theorem ggL_turns_X3_asked : GoodIn wsL_turns wsX3_asked := goodIn_ca (goodIn_r _ [248, 81, 7, 8, 4, 9, 10, 11, 40, 41, 42, 12, 13, 14, 15, 16, 17, 253, 254, 255, 256, 257, 258, 259, 260, 261, 262, 263, 264, 265, 266, 267, 268, 269, 270, 271, 272, 273, 274, 275, 276] (by decide +kernel) (by decide +kernel)) (goodIn_sub (fun _ h => List.mem_cons_of_mem _ (List.mem_append_left _ (List.mem_append_left _ (List.mem_append_right _ h)))) (by decide +kernel))
set_option maxRecDepth 20000 in
theorem gL_turns_X3_asked : GoodIn wsL_turns (wsV RL 75 RX3 yX3_asked wsX3_asked) := goodIn_app (goodIn_of _ (by decide +kernel)) ggL_turns_X3_asked
set_option maxRecDepth 20000 in
theorem ggL_turns_X3_tries : GoodIn wsL_turns wsX3_tries := goodIn_ca (goodIn_r _ [252, 78, 7, 8, 4, 9, 10, 11, 12, 13, 14, 15, 16, 17, 253, 254, 255, 256, 257, 258, 259, 260, 261, 262, 263, 264, 265, 266, 267, 268, 269, 270, 271, 272, 273, 274, 275, 276] (by decide +kernel) (by decide +kernel)) (goodIn_sub (fun _ h => List.mem_cons_of_mem _ (List.mem_append_left _ (List.mem_append_left _ (List.mem_append_right _ h)))) (by decide +kernel))
set_option maxRecDepth 20000 in
theorem gL_turns_X3_tries : GoodIn wsL_turns (wsV RL 85 RX3 yX3_tries wsX3_tries) := goodIn_app (goodIn_of _ (by decide +kernel)) ggL_turns_X3_tries
theorem dL_turns_0 : decode cL_turns 0 = .ok (.aload_n 0, 1) := by decide +kernel
theorem dL_turns_1 : decode cL_turns 1 = .ok (.iload_n 2, 1) := by decide +kernel
theorem dL_turns_2 : decode cL_turns 2 = .ok (.invokevirtual 69, 3) := by decide +kernel
theorem dL_turns_5 : decode cL_turns 5 = .ok (.istore 6, 2) := by decide +kernel
theorem dL_turns_7 : decode cL_turns 7 = .ok (.aload 5, 2) := by decide +kernel
theorem dL_turns_9 : decode cL_turns 9 = .ok (.iconst 1, 1) := by decide +kernel
theorem dL_turns_10 : decode cL_turns 10 = .ok (.iaload, 1) := by decide +kernel
theorem dL_turns_11 : decode cL_turns 11 = .ok (.iconst 1, 1) := by decide +kernel
theorem dL_turns_12 : decode cL_turns 12 = .ok (.if_icmp .ne 7, 3) := by decide +kernel
theorem dL_turns_15 : decode cL_turns 15 = .ok (.iload_n 2, 1) := by decide +kernel
theorem dL_turns_16 : decode cL_turns 16 = .ok (.goto 6, 3) := by decide +kernel
theorem dL_turns_19 : decode cL_turns 19 = .ok (.iconst 1, 1) := by decide +kernel
theorem dL_turns_20 : decode cL_turns 20 = .ok (.iload_n 2, 1) := by decide +kernel
theorem dL_turns_21 : decode cL_turns 21 = .ok (.isub, 1) := by decide +kernel
theorem dL_turns_22 : decode cL_turns 22 = .ok (.istore 7, 2) := by decide +kernel
theorem dL_turns_24 : decode cL_turns 24 = .ok (.aload_n 0, 1) := by decide +kernel
theorem dL_turns_25 : decode cL_turns 25 = .ok (.iload 7, 2) := by decide +kernel
theorem dL_turns_27 : decode cL_turns 27 = .ok (.invokevirtual 88, 3) := by decide +kernel
theorem dL_turns_30 : decode cL_turns 30 = .ok (.istore 8, 2) := by decide +kernel
theorem dL_turns_32 : decode cL_turns 32 = .ok (.iload_n 1, 1) := by decide +kernel
theorem dL_turns_33 : decode cL_turns 33 = .ok (.iconst 3, 1) := by decide +kernel
theorem dL_turns_34 : decode cL_turns 34 = .ok (.if_icmp .ne 11, 3) := by decide +kernel
theorem dL_turns_37 : decode cL_turns 37 = .ok (.iload 6, 2) := by decide +kernel
theorem dL_turns_39 : decode cL_turns 39 = .ok (.invokestatic 107, 3) := by decide +kernel
theorem dL_turns_42 : decode cL_turns 42 = .ok (.goto 19, 3) := by decide +kernel
theorem dL_turns_45 : decode cL_turns 45 = .ok (.iload 6, 2) := by decide +kernel
theorem dL_turns_47 : decode cL_turns 47 = .ok (.ifCond .le 13, 3) := by decide +kernel
theorem dL_turns_50 : decode cL_turns 50 = .ok (.iload 6, 2) := by decide +kernel
theorem dL_turns_52 : decode cL_turns 52 = .ok (.iconst 5, 1) := by decide +kernel
theorem dL_turns_53 : decode cL_turns 53 = .ok (.if_icmp .ge 7, 3) := by decide +kernel
theorem dL_turns_56 : decode cL_turns 56 = .ok (.iconst 1, 1) := by decide +kernel
theorem dL_turns_57 : decode cL_turns 57 = .ok (.goto 4, 3) := by decide +kernel
theorem dL_turns_60 : decode cL_turns 60 = .ok (.iconst 0, 1) := by decide +kernel
theorem dL_turns_61 : decode cL_turns 61 = .ok (.istore 9, 2) := by decide +kernel
theorem dL_turns_63 : decode cL_turns 63 = .ok (.aload_n 0, 1) := by decide +kernel
theorem dL_turns_64 : decode cL_turns 64 = .ok (.iload_n 1, 1) := by decide +kernel
theorem dL_turns_65 : decode cL_turns 65 = .ok (.iload_n 2, 1) := by decide +kernel
theorem dL_turns_66 : decode cL_turns 66 = .ok (.iload_n 3, 1) := by decide +kernel
theorem dL_turns_67 : decode cL_turns 67 = .ok (.iconst 0, 1) := by decide +kernel
theorem dL_turns_68 : decode cL_turns 68 = .ok (.iconst 0, 1) := by decide +kernel
theorem dL_turns_69 : decode cL_turns 69 = .ok (.iconst 0, 1) := by decide +kernel
theorem dL_turns_70 : decode cL_turns 70 = .ok (.invokestatic 95, 3) := by decide +kernel
theorem dL_turns_73 : decode cL_turns 73 = .ok (.istore 10, 2) := by decide +kernel
theorem dL_turns_75 : decode cL_turns 75 = .ok (.iload 9, 2) := by decide +kernel
theorem dL_turns_77 : decode cL_turns 77 = .ok (.ifCond .ne 37, 3) := by decide +kernel
theorem dL_turns_80 : decode cL_turns 80 = .ok (.iload 10, 2) := by decide +kernel
theorem dL_turns_82 : decode cL_turns 82 = .ok (.bipush (-8), 2) := by decide +kernel
theorem dL_turns_84 : decode cL_turns 84 = .ok (.if_icmp .ne 28, 3) := by decide +kernel
theorem dL_turns_87 : decode cL_turns 87 = .ok (.aload_n 0, 1) := by decide +kernel
theorem dL_turns_88 : decode cL_turns 88 = .ok (.iload_n 2, 1) := by decide +kernel
theorem dL_turns_89 : decode cL_turns 89 = .ok (.invokevirtual 69, 3) := by decide +kernel
theorem dL_turns_92 : decode cL_turns 92 = .ok (.iload 6, 2) := by decide +kernel
theorem dL_turns_94 : decode cL_turns 94 = .ok (.if_icmp .ne 18, 3) := by decide +kernel
theorem dL_turns_97 : decode cL_turns 97 = .ok (.aload_n 0, 1) := by decide +kernel
theorem dL_turns_98 : decode cL_turns 98 = .ok (.iload 7, 2) := by decide +kernel
theorem dL_turns_100 : decode cL_turns 100 = .ok (.invokevirtual 88, 3) := by decide +kernel
theorem dL_turns_103 : decode cL_turns 103 = .ok (.iload 8, 2) := by decide +kernel
theorem dL_turns_105 : decode cL_turns 105 = .ok (.if_icmp .ne 7, 3) := by decide +kernel
theorem dL_turns_108 : decode cL_turns 108 = .ok (.iconst 1, 1) := by decide +kernel
theorem dL_turns_109 : decode cL_turns 109 = .ok (.goto 4, 3) := by decide +kernel
theorem dL_turns_112 : decode cL_turns 112 = .ok (.iconst 0, 1) := by decide +kernel
theorem dL_turns_113 : decode cL_turns 113 = .ok (.ireturn, 1) := by decide +kernel
theorem dL_turns_114 : decode cL_turns 114 = .ok (.iload 10, 2) := by decide +kernel
theorem dL_turns_116 : decode cL_turns 116 = .ok (.ifCond .ne 78, 3) := by decide +kernel
theorem dL_turns_119 : decode cL_turns 119 = .ok (.aload_n 0, 1) := by decide +kernel
theorem dL_turns_120 : decode cL_turns 120 = .ok (.iload_n 2, 1) := by decide +kernel
theorem dL_turns_121 : decode cL_turns 121 = .ok (.invokevirtual 69, 3) := by decide +kernel
theorem dL_turns_124 : decode cL_turns 124 = .ok (.iload_n 1, 1) := by decide +kernel
theorem dL_turns_125 : decode cL_turns 125 = .ok (.iconst 3, 1) := by decide +kernel
theorem dL_turns_126 : decode cL_turns 126 = .ok (.if_icmp .ne 7, 3) := by decide +kernel
theorem dL_turns_129 : decode cL_turns 129 = .ok (.iconst 1, 1) := by decide +kernel
theorem dL_turns_130 : decode cL_turns 130 = .ok (.goto 4, 3) := by decide +kernel
theorem dL_turns_133 : decode cL_turns 133 = .ok (.iconst 5, 1) := by decide +kernel
theorem dL_turns_134 : decode cL_turns 134 = .ok (.if_icmp .ne 60, 3) := by decide +kernel
theorem dL_turns_137 : decode cL_turns 137 = .ok (.aload_n 0, 1) := by decide +kernel
theorem dL_turns_138 : decode cL_turns 138 = .ok (.iload 7, 2) := by decide +kernel
theorem dL_turns_140 : decode cL_turns 140 = .ok (.invokevirtual 88, 3) := by decide +kernel
theorem dL_turns_143 : decode cL_turns 143 = .ok (.iload 8, 2) := by decide +kernel
theorem dL_turns_145 : decode cL_turns 145 = .ok (.bipush 12, 2) := by decide +kernel
theorem dL_turns_147 : decode cL_turns 147 = .ok (.if_icmp .ge 10, 3) := by decide +kernel
theorem dL_turns_150 : decode cL_turns 150 = .ok (.iload 8, 2) := by decide +kernel
theorem dL_turns_152 : decode cL_turns 152 = .ok (.iconst 1, 1) := by decide +kernel
theorem dL_turns_153 : decode cL_turns 153 = .ok (.iadd, 1) := by decide +kernel
theorem dL_turns_154 : decode cL_turns 154 = .ok (.goto 5, 3) := by decide +kernel
theorem dL_turns_157 : decode cL_turns 157 = .ok (.bipush 12, 2) := by decide +kernel
theorem dL_turns_159 : decode cL_turns 159 = .ok (.if_icmp .ne 35, 3) := by decide +kernel
theorem dL_turns_162 : decode cL_turns 162 = .ok (.iload 8, 2) := by decide +kernel
theorem dL_turns_164 : decode cL_turns 164 = .ok (.bipush 12, 2) := by decide +kernel
theorem dL_turns_166 : decode cL_turns 166 = .ok (.if_icmp .eq 24, 3) := by decide +kernel
theorem dL_turns_169 : decode cL_turns 169 = .ok (.aload_n 0, 1) := by decide +kernel
theorem dL_turns_170 : decode cL_turns 170 = .ok (.iload 7, 2) := by decide +kernel
theorem dL_turns_172 : decode cL_turns 172 = .ok (.iload 8, 2) := by decide +kernel
theorem dL_turns_174 : decode cL_turns 174 = .ok (.invokevirtual 53, 3) := by decide +kernel
theorem dL_turns_177 : decode cL_turns 177 = .ok (.iload_n 1, 1) := by decide +kernel
theorem dL_turns_178 : decode cL_turns 178 = .ok (.iconst 3, 1) := by decide +kernel
theorem dL_turns_179 : decode cL_turns 179 = .ok (.if_icmp .ne 7, 3) := by decide +kernel
theorem dL_turns_182 : decode cL_turns 182 = .ok (.iconst 0, 1) := by decide +kernel
theorem dL_turns_183 : decode cL_turns 183 = .ok (.goto 4, 3) := by decide +kernel
theorem dL_turns_186 : decode cL_turns 186 = .ok (.iconst 4, 1) := by decide +kernel
theorem dL_turns_187 : decode cL_turns 187 = .ok (.if_icmp .ne 7, 3) := by decide +kernel
theorem dL_turns_190 : decode cL_turns 190 = .ok (.iconst 1, 1) := by decide +kernel
theorem dL_turns_191 : decode cL_turns 191 = .ok (.goto 4, 3) := by decide +kernel
theorem dL_turns_194 : decode cL_turns 194 = .ok (.iconst 0, 1) := by decide +kernel
theorem dL_turns_195 : decode cL_turns 195 = .ok (.istore 11, 2) := by decide +kernel
theorem dL_turns_197 : decode cL_turns 197 = .ok (.iconst 0, 1) := by decide +kernel
theorem dL_turns_198 : decode cL_turns 198 = .ok (.istore 12, 2) := by decide +kernel
theorem dL_turns_200 : decode cL_turns 200 = .ok (.iload 12, 2) := by decide +kernel
theorem dL_turns_202 : decode cL_turns 202 = .ok (.iconst 4, 1) := by decide +kernel
theorem dL_turns_203 : decode cL_turns 203 = .ok (.if_icmp .ge 50, 3) := by decide +kernel
theorem dL_turns_206 : decode cL_turns 206 = .ok (.iload 11, 2) := by decide +kernel
theorem dL_turns_208 : decode cL_turns 208 = .ok (.ifCond .eq 45, 3) := by decide +kernel
theorem dL_turns_211 : decode cL_turns 211 = .ok (.iload_n 1, 1) := by decide +kernel
theorem dL_turns_212 : decode cL_turns 212 = .ok (.iconst 3, 1) := by decide +kernel
theorem dL_turns_213 : decode cL_turns 213 = .ok (.if_icmp .ne 40, 3) := by decide +kernel
theorem dL_turns_216 : decode cL_turns 216 = .ok (.aload_n 0, 1) := by decide +kernel
theorem dL_turns_217 : decode cL_turns 217 = .ok (.iload_n 2, 1) := by decide +kernel
theorem dL_turns_218 : decode cL_turns 218 = .ok (.iload 12, 2) := by decide +kernel
theorem dL_turns_220 : decode cL_turns 220 = .ok (.invokevirtual 75, 3) := by decide +kernel
theorem dL_turns_223 : decode cL_turns 223 = .ok (.aload 4, 2) := by decide +kernel
theorem dL_turns_225 : decode cL_turns 225 = .ok (.bipush 6, 2) := by decide +kernel
theorem dL_turns_227 : decode cL_turns 227 = .ok (.iconst 4, 1) := by decide +kernel
theorem dL_turns_228 : decode cL_turns 228 = .ok (.iload_n 2, 1) := by decide +kernel
theorem dL_turns_229 : decode cL_turns 229 = .ok (.imul, 1) := by decide +kernel
theorem dL_turns_230 : decode cL_turns 230 = .ok (.iload 12, 2) := by decide +kernel
theorem dL_turns_232 : decode cL_turns 232 = .ok (.iadd, 1) := by decide +kernel
theorem dL_turns_233 : decode cL_turns 233 = .ok (.imul, 1) := by decide +kernel
theorem dL_turns_234 : decode cL_turns 234 = .ok (.iaload, 1) := by decide +kernel
theorem dL_turns_235 : decode cL_turns 235 = .ok (.iconst 1, 1) := by decide +kernel
theorem dL_turns_236 : decode cL_turns 236 = .ok (.isub, 1) := by decide +kernel
theorem dL_turns_237 : decode cL_turns 237 = .ok (.if_icmp .ne 7, 3) := by decide +kernel
theorem dL_turns_240 : decode cL_turns 240 = .ok (.iconst 1, 1) := by decide +kernel
theorem dL_turns_241 : decode cL_turns 241 = .ok (.goto 4, 3) := by decide +kernel
theorem dL_turns_244 : decode cL_turns 244 = .ok (.iconst 0, 1) := by decide +kernel
theorem dL_turns_245 : decode cL_turns 245 = .ok (.istore 11, 2) := by decide +kernel
theorem dL_turns_247 : decode cL_turns 247 = .ok (.iinc 12 1, 3) := by decide +kernel
theorem dL_turns_250 : decode cL_turns 250 = .ok (.goto (-50), 3) := by decide +kernel
theorem dL_turns_253 : decode cL_turns 253 = .ok (.iload 11, 2) := by decide +kernel
theorem dL_turns_255 : decode cL_turns 255 = .ok (.ifCond .eq 22, 3) := by decide +kernel
theorem dL_turns_258 : decode cL_turns 258 = .ok (.iload_n 1, 1) := by decide +kernel
theorem dL_turns_259 : decode cL_turns 259 = .ok (.iconst 3, 1) := by decide +kernel
theorem dL_turns_260 : decode cL_turns 260 = .ok (.if_icmp .ne 13, 3) := by decide +kernel
theorem dL_turns_263 : decode cL_turns 263 = .ok (.aload_n 0, 1) := by decide +kernel
theorem dL_turns_264 : decode cL_turns 264 = .ok (.iload_n 2, 1) := by decide +kernel
theorem dL_turns_265 : decode cL_turns 265 = .ok (.invokevirtual 85, 3) := by decide +kernel
theorem dL_turns_268 : decode cL_turns 268 = .ok (.bipush 9, 2) := by decide +kernel
theorem dL_turns_270 : decode cL_turns 270 = .ok (.if_icmp .ne 7, 3) := by decide +kernel
theorem dL_turns_273 : decode cL_turns 273 = .ok (.iconst 1, 1) := by decide +kernel
theorem dL_turns_274 : decode cL_turns 274 = .ok (.goto 4, 3) := by decide +kernel
theorem dL_turns_277 : decode cL_turns 277 = .ok (.iconst 0, 1) := by decide +kernel
theorem dL_turns_278 : decode cL_turns 278 = .ok (.ireturn, 1) := by decide +kernel
