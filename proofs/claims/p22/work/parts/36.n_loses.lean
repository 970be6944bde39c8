set_option maxRecDepth 20000 in
theorem ggL_loses_X3_waiting : GoodIn wsL_loses wsX3_waiting := goodIn_ca (goodIn_r _ [5, 6, 7, 8, 9, 4, 10, 11, 12, 13, 14, 15, 16, 17, 18, 250, 251, 252, 253, 254, 255, 256, 257, 258, 259, 260, 261, 262, 263, 264, 265, 266, 267, 268, 269, 270, 271, 272, 273, 274, 275, 276, 277, 278, 279] (by decide +kernel) (by decide +kernel)) (goodIn_sub (fun _ h => List.mem_cons_of_mem _ (List.mem_append_left _ (List.mem_append_left _ (List.mem_append_right _ h)))) (by decide +kernel))
set_option maxRecDepth 20000 in
theorem gL_loses_X3_waiting : GoodIn wsL_loses (wsV RL 88 RX3 yX3_waiting wsX3_waiting) := goodIn_app (goodIn_of _ (by decide +kernel)) ggL_loses_X3_waiting
set_option maxRecDepth 20000 in
theorem ggL_loses_L_asks : GoodIn wsL_loses wsL_asks := goodIn_ca (goodIn_ca (goodIn_ca (goodIn_r _ [22, 23, 24, 25, 26, 27, 4, 28, 11, 12, 29, 30, 31, 8, 9, 10, 32, 33, 34, 35, 36, 37, 13, 14, 15, 16, 17, 18, 38, 39, 40, 41, 42, 43, 44, 45, 46, 47, 48, 49, 50, 21, 51, 52, 53, 54, 55, 56, 57, 58, 59, 60, 61, 62, 63, 64, 65, 66, 67, 68, 69, 70, 71, 72, 73, 74, 75, 76, 77, 78, 79, 80, 81, 82, 83, 84, 85, 86, 87, 88, 89, 6, 90, 91, 92, 93, 94, 95, 96, 97, 98, 99, 100, 101, 102, 103, 104, 105, 106, 107, 108, 109, 110, 111, 112, 113, 114, 115, 116, 117, 118, 119, 120, 121, 122, 123, 124, 125, 126, 127, 128, 129, 130, 131, 132, 133, 7, 134, 135, 136, 137, 138, 139, 140, 141, 142, 143, 144, 145, 146, 147, 148, 149, 150, 151, 152, 153, 154, 155, 156, 157, 158, 159, 160, 161, 162, 163, 164, 165, 166, 167, 168, 169, 170, 171, 172, 173, 174, 175, 176, 177, 178, 179, 180, 181, 182, 183, 184, 185, 186, 187, 188, 189, 190, 191, 192, 193, 194, 195, 196, 197, 198, 199, 200, 201, 202, 203, 204, 205, 206, 207, 208, 209, 210, 211, 212, 213, 214, 215, 216, 217, 218, 219, 220, 221, 222, 223, 224, 225, 226, 227, 228, 229, 230, 231, 232, 233, 234, 235, 236, 237, 250, 251, 252, 253, 254, 255, 256, 257, 258, 259, 260, 261, 262, 263, 264, 265, 272, 273, 274, 275, 276, 277, 278, 279, 266, 267, 268, 269, 270, 271, 280, 281, 282, 283] (by decide +kernel) (by decide +kernel)) (goodIn_sub (fun _ h => List.mem_cons_of_mem _ (List.mem_append_left _ (List.mem_append_left _ (List.mem_append_right _ h)))) (by decide +kernel))) (goodIn_sub (fun _ h => List.mem_cons_of_mem _ (List.mem_append_left _ (List.mem_append_right _ h))) (by decide +kernel))) (goodIn_sub (fun _ h => List.mem_cons_of_mem _ (List.mem_append_right _ h)) (by decide +kernel))
set_option maxRecDepth 20000 in
theorem gL_loses_L_asks : GoodIn wsL_loses (va_wsS RL 95 yL_asks wsL_asks) := goodIn_app (goodIn_of _ (by decide +kernel)) ggL_loses_L_asks
set_option maxRecDepth 20000 in
theorem ggL_loses_X3_kindAt : GoodIn wsL_loses wsX3_kindAt := goodIn_ca (goodIn_ca (goodIn_r _ [237, 6, 8, 9, 4, 10, 11, 12, 13, 14, 15, 16, 17, 18, 129, 130, 131, 132, 133, 7, 229, 230, 231, 93, 232, 96, 100, 101, 102, 103, 104, 250, 251, 252, 253, 254, 255, 256, 257, 258, 259, 260, 261, 262, 263, 264, 265, 272, 273, 274, 275, 276, 277, 278, 279, 266, 267, 268, 269, 270, 271] (by decide +kernel) (by decide +kernel)) (goodIn_sub (fun _ h => List.mem_cons_of_mem _ (List.mem_append_left _ (List.mem_append_left _ (List.mem_append_right _ h)))) (by decide +kernel))) (goodIn_sub (fun _ h => List.mem_cons_of_mem _ (List.mem_append_right _ h)) (by decide +kernel))
set_option maxRecDepth 20000 in
theorem gL_loses_X3_kindAt : GoodIn wsL_loses (wsV RL 53 RX3 yX3_kindAt wsX3_kindAt) := goodIn_app (goodIn_of _ (by decide +kernel)) ggL_loses_X3_kindAt
set_option maxRecDepth 20000 in
theorem ggL_loses_L_row : GoodIn wsL_loses wsL_row := goodIn_ca (goodIn_ca (goodIn_r _ [240, 241, 1, 2, 3, 4, 5, 6, 7, 8, 9, 10, 11, 12, 13, 14, 15, 16, 17, 18, 234, 235, 236, 237, 129, 130, 131, 132, 133, 229, 230, 231, 93, 232, 96, 100, 101, 102, 103, 104, 250, 251, 252, 253, 254, 255, 256, 257, 258, 259, 260, 261, 262, 263, 264, 265, 266, 267, 268, 269, 270, 271, 272, 273, 274, 275, 276, 277, 278, 279] (by decide +kernel) (by decide +kernel)) (goodIn_sub (fun _ h => List.mem_cons_of_mem _ (List.mem_append_left _ (List.mem_append_left _ (List.mem_append_right _ h)))) (by decide +kernel))) (goodIn_sub (fun _ h => List.mem_cons_of_mem _ (List.mem_append_right _ h)) (by decide +kernel))
set_option maxRecDepth 20000 in
theorem gL_loses_L_row : GoodIn wsL_loses (va_wsS RL 111 yL_row wsL_row) := goodIn_app (goodIn_of _ (by decide +kernel)) ggL_loses_L_row
set_option maxRecDepth 20000 in
theorem ggL_loses_X3_state : GoodIn wsL_loses wsX3_state := goodIn_ca (goodIn_r _ [245, 70, 8, 9, 4, 10, 11, 12, 13, 14, 15, 16, 17, 18, 250, 251, 252, 253, 254, 255, 256, 257, 258, 259, 260, 261, 262, 263, 264, 265, 272, 273, 274, 275, 276, 277, 278, 279] (by decide +kernel) (by decide +kernel)) (goodIn_sub (fun _ h => List.mem_cons_of_mem _ (List.mem_append_left _ (List.mem_append_left _ (List.mem_append_right _ h)))) (by decide +kernel))
set_option maxRecDepth 20000 in
theorem gL_loses_X3_state : GoodIn wsL_loses (wsV RL 69 RX3 yX3_state wsX3_state) := goodIn_app (goodIn_of _ (by decide +kernel)) ggL_loses_X3_state
set_option maxRecDepth 20000 in
theorem ggL_loses_X3_tries : GoodIn wsL_loses wsX3_tries := goodIn_ca (goodIn_r _ [249, 71, 8, 9, 4, 10, 11, 12, 13, 14, 15, 16, 17, 18, 250, 251, 252, 253, 254, 255, 256, 257, 258, 259, 260, 261, 262, 263, 264, 265, 272, 273, 274, 275, 276, 277, 278, 279] (by decide +kernel) (by decide +kernel)) (goodIn_sub (fun _ h => List.mem_cons_of_mem _ (List.mem_append_left _ (List.mem_append_left _ (List.mem_append_right _ h)))) (by decide +kernel))
set_option maxRecDepth 20000 in
theorem gL_loses_X3_tries : GoodIn wsL_loses (wsV RL 85 RX3 yX3_tries wsX3_tries) := goodIn_app (goodIn_of _ (by decide +kernel)) ggL_loses_X3_tries
set_option maxRecDepth 20000 in
theorem ggL_loses_X3_lose : GoodIn wsL_loses wsX3_lose := goodIn_ca (goodIn_ca (goodIn_r _ [228, 6, 8, 9, 4, 10, 11, 12, 13, 14, 15, 16, 17, 18, 129, 130, 131, 132, 133, 7, 229, 230, 231, 93, 232, 96, 100, 101, 102, 103, 104, 233, 143, 144, 145, 95, 250, 251, 252, 253, 254, 255, 256, 257, 258, 259, 260, 261, 262, 263, 264, 265, 272, 273, 274, 275, 276, 277, 278, 279, 266, 267, 268, 269, 270, 271] (by decide +kernel) (by decide +kernel)) (goodIn_sub (fun _ h => List.mem_cons_of_mem _ (List.mem_append_left _ (List.mem_append_left _ (List.mem_append_right _ h)))) (by decide +kernel))) (goodIn_sub (fun _ h => List.mem_cons_of_mem _ (List.mem_append_right _ h)) (by decide +kernel))
set_option maxRecDepth 20000 in
theorem gL_loses_X3_lose : GoodIn wsL_loses (wsV RL 50 RX3 yX3_lose wsX3_lose) := goodIn_app (goodIn_of _ (by decide +kernel)) ggL_loses_X3_lose
theorem dL_loses_0 : decode cL_loses 0 = .ok (.aload_n 0, 1) := by decide +kernel
theorem dL_loses_1 : decode cL_loses 1 = .ok (.iload_n 1, 1) := by decide +kernel
theorem dL_loses_2 : decode cL_loses 2 = .ok (.invokevirtual 88, 3) := by decide +kernel
theorem dL_loses_5 : decode cL_loses 5 = .ok (.istore_n 2, 1) := by decide +kernel
theorem dL_loses_6 : decode cL_loses 6 = .ok (.iload_n 2, 1) := by decide +kernel
theorem dL_loses_7 : decode cL_loses 7 = .ok (.ifCond .ne 40, 3) := by decide +kernel
theorem dL_loses_10 : decode cL_loses 10 = .ok (.aload_n 0, 1) := by decide +kernel
theorem dL_loses_11 : decode cL_loses 11 = .ok (.bipush 6, 2) := by decide +kernel
theorem dL_loses_13 : decode cL_loses 13 = .ok (.iload_n 1, 1) := by decide +kernel
theorem dL_loses_14 : decode cL_loses 14 = .ok (.iconst 0, 1) := by decide +kernel
theorem dL_loses_15 : decode cL_loses 15 = .ok (.iconst 0, 1) := by decide +kernel
theorem dL_loses_16 : decode cL_loses 16 = .ok (.iconst 0, 1) := by decide +kernel
theorem dL_loses_17 : decode cL_loses 17 = .ok (.iconst 0, 1) := by decide +kernel
theorem dL_loses_18 : decode cL_loses 18 = .ok (.invokestatic 95, 3) := by decide +kernel
theorem dL_loses_21 : decode cL_loses 21 = .ok (.bipush (-10), 2) := by decide +kernel
theorem dL_loses_23 : decode cL_loses 23 = .ok (.if_icmp .ne 22, 3) := by decide +kernel
theorem dL_loses_26 : decode cL_loses 26 = .ok (.aload_n 0, 1) := by decide +kernel
theorem dL_loses_27 : decode cL_loses 27 = .ok (.iconst 5, 1) := by decide +kernel
theorem dL_loses_28 : decode cL_loses 28 = .ok (.iload_n 1, 1) := by decide +kernel
theorem dL_loses_29 : decode cL_loses 29 = .ok (.iconst 0, 1) := by decide +kernel
theorem dL_loses_30 : decode cL_loses 30 = .ok (.iconst 0, 1) := by decide +kernel
theorem dL_loses_31 : decode cL_loses 31 = .ok (.iconst 0, 1) := by decide +kernel
theorem dL_loses_32 : decode cL_loses 32 = .ok (.iconst 0, 1) := by decide +kernel
theorem dL_loses_33 : decode cL_loses 33 = .ok (.invokestatic 95, 3) := by decide +kernel
theorem dL_loses_36 : decode cL_loses 36 = .ok (.bipush (-10), 2) := by decide +kernel
theorem dL_loses_38 : decode cL_loses 38 = .ok (.if_icmp .ne 7, 3) := by decide +kernel
theorem dL_loses_41 : decode cL_loses 41 = .ok (.iconst 1, 1) := by decide +kernel
theorem dL_loses_42 : decode cL_loses 42 = .ok (.goto 4, 3) := by decide +kernel
theorem dL_loses_45 : decode cL_loses 45 = .ok (.iconst 0, 1) := by decide +kernel
theorem dL_loses_46 : decode cL_loses 46 = .ok (.ireturn, 1) := by decide +kernel
theorem dL_loses_47 : decode cL_loses 47 = .ok (.aload_n 0, 1) := by decide +kernel
theorem dL_loses_48 : decode cL_loses 48 = .ok (.iload_n 1, 1) := by decide +kernel
theorem dL_loses_49 : decode cL_loses 49 = .ok (.iconst 0, 1) := by decide +kernel
theorem dL_loses_50 : decode cL_loses 50 = .ok (.invokevirtual 53, 3) := by decide +kernel
theorem dL_loses_53 : decode cL_loses 53 = .ok (.istore_n 3, 1) := by decide +kernel
theorem dL_loses_54 : decode cL_loses 54 = .ok (.aload_n 0, 1) := by decide +kernel
theorem dL_loses_55 : decode cL_loses 55 = .ok (.iload_n 1, 1) := by decide +kernel
theorem dL_loses_56 : decode cL_loses 56 = .ok (.iconst 1, 1) := by decide +kernel
theorem dL_loses_57 : decode cL_loses 57 = .ok (.invokestatic 111, 3) := by decide +kernel
theorem dL_loses_60 : decode cL_loses 60 = .ok (.lstore 4, 2) := by decide +kernel
theorem dL_loses_62 : decode cL_loses 62 = .ok (.aload_n 0, 1) := by decide +kernel
theorem dL_loses_63 : decode cL_loses 63 = .ok (.iconst 1, 1) := by decide +kernel
theorem dL_loses_64 : decode cL_loses 64 = .ok (.iload_n 1, 1) := by decide +kernel
theorem dL_loses_65 : decode cL_loses 65 = .ok (.isub, 1) := by decide +kernel
theorem dL_loses_66 : decode cL_loses 66 = .ok (.iconst 0, 1) := by decide +kernel
theorem dL_loses_67 : decode cL_loses 67 = .ok (.invokestatic 111, 3) := by decide +kernel
theorem dL_loses_70 : decode cL_loses 70 = .ok (.lstore 6, 2) := by decide +kernel
theorem dL_loses_72 : decode cL_loses 72 = .ok (.aload_n 0, 1) := by decide +kernel
theorem dL_loses_73 : decode cL_loses 73 = .ok (.iconst 0, 1) := by decide +kernel
theorem dL_loses_74 : decode cL_loses 74 = .ok (.invokevirtual 69, 3) := by decide +kernel
theorem dL_loses_77 : decode cL_loses 77 = .ok (.bipush 8, 2) := by decide +kernel
theorem dL_loses_79 : decode cL_loses 79 = .ok (.aload_n 0, 1) := by decide +kernel
theorem dL_loses_80 : decode cL_loses 80 = .ok (.iconst 1, 1) := by decide +kernel
theorem dL_loses_81 : decode cL_loses 81 = .ok (.invokevirtual 69, 3) := by decide +kernel
theorem dL_loses_84 : decode cL_loses 84 = .ok (.imul, 1) := by decide +kernel
theorem dL_loses_85 : decode cL_loses 85 = .ok (.iadd, 1) := by decide +kernel
theorem dL_loses_86 : decode cL_loses 86 = .ok (.bipush 64, 2) := by decide +kernel
theorem dL_loses_88 : decode cL_loses 88 = .ok (.aload_n 0, 1) := by decide +kernel
theorem dL_loses_89 : decode cL_loses 89 = .ok (.iconst 0, 1) := by decide +kernel
theorem dL_loses_90 : decode cL_loses 90 = .ok (.invokevirtual 85, 3) := by decide +kernel
theorem dL_loses_93 : decode cL_loses 93 = .ok (.imul, 1) := by decide +kernel
theorem dL_loses_94 : decode cL_loses 94 = .ok (.iadd, 1) := by decide +kernel
theorem dL_loses_95 : decode cL_loses 95 = .ok (.sipush 704, 3) := by decide +kernel
theorem dL_loses_98 : decode cL_loses 98 = .ok (.aload_n 0, 1) := by decide +kernel
theorem dL_loses_99 : decode cL_loses 99 = .ok (.iconst 1, 1) := by decide +kernel
theorem dL_loses_100 : decode cL_loses 100 = .ok (.invokevirtual 85, 3) := by decide +kernel
theorem dL_loses_103 : decode cL_loses 103 = .ok (.imul, 1) := by decide +kernel
theorem dL_loses_104 : decode cL_loses 104 = .ok (.iadd, 1) := by decide +kernel
theorem dL_loses_105 : decode cL_loses 105 = .ok (.istore 8, 2) := by decide +kernel
theorem dL_loses_107 : decode cL_loses 107 = .ok (.aload_n 0, 1) := by decide +kernel
theorem dL_loses_108 : decode cL_loses 108 = .ok (.iload_n 1, 1) := by decide +kernel
theorem dL_loses_109 : decode cL_loses 109 = .ok (.invokevirtual 50, 3) := by decide +kernel
theorem dL_loses_112 : decode cL_loses 112 = .ok (.iload_n 3, 1) := by decide +kernel
theorem dL_loses_113 : decode cL_loses 113 = .ok (.if_icmp .ne 82, 3) := by decide +kernel
theorem dL_loses_116 : decode cL_loses 116 = .ok (.aload_n 0, 1) := by decide +kernel
theorem dL_loses_117 : decode cL_loses 117 = .ok (.iload_n 1, 1) := by decide +kernel
theorem dL_loses_118 : decode cL_loses 118 = .ok (.invokevirtual 88, 3) := by decide +kernel
theorem dL_loses_121 : decode cL_loses 121 = .ok (.iload_n 2, 1) := by decide +kernel
theorem dL_loses_122 : decode cL_loses 122 = .ok (.iconst 1, 1) := by decide +kernel
theorem dL_loses_123 : decode cL_loses 123 = .ok (.isub, 1) := by decide +kernel
theorem dL_loses_124 : decode cL_loses 124 = .ok (.if_icmp .ne 71, 3) := by decide +kernel
theorem dL_loses_127 : decode cL_loses 127 = .ok (.aload_n 0, 1) := by decide +kernel
theorem dL_loses_128 : decode cL_loses 128 = .ok (.iload_n 1, 1) := by decide +kernel
theorem dL_loses_129 : decode cL_loses 129 = .ok (.iconst 0, 1) := by decide +kernel
theorem dL_loses_130 : decode cL_loses 130 = .ok (.invokestatic 111, 3) := by decide +kernel
theorem dL_loses_133 : decode cL_loses 133 = .ok (.lload 4, 2) := by decide +kernel
theorem dL_loses_135 : decode cL_loses 135 = .ok (.lcmp, 1) := by decide +kernel
theorem dL_loses_136 : decode cL_loses 136 = .ok (.ifCond .ne 59, 3) := by decide +kernel
theorem dL_loses_139 : decode cL_loses 139 = .ok (.aload_n 0, 1) := by decide +kernel
theorem dL_loses_140 : decode cL_loses 140 = .ok (.iconst 1, 1) := by decide +kernel
theorem dL_loses_141 : decode cL_loses 141 = .ok (.iload_n 1, 1) := by decide +kernel
theorem dL_loses_142 : decode cL_loses 142 = .ok (.isub, 1) := by decide +kernel
theorem dL_loses_143 : decode cL_loses 143 = .ok (.iconst 0, 1) := by decide +kernel
theorem dL_loses_144 : decode cL_loses 144 = .ok (.invokestatic 111, 3) := by decide +kernel
theorem dL_loses_147 : decode cL_loses 147 = .ok (.lload 6, 2) := by decide +kernel
theorem dL_loses_149 : decode cL_loses 149 = .ok (.lcmp, 1) := by decide +kernel
theorem dL_loses_150 : decode cL_loses 150 = .ok (.ifCond .ne 45, 3) := by decide +kernel
theorem dL_loses_153 : decode cL_loses 153 = .ok (.aload_n 0, 1) := by decide +kernel
theorem dL_loses_154 : decode cL_loses 154 = .ok (.iconst 0, 1) := by decide +kernel
theorem dL_loses_155 : decode cL_loses 155 = .ok (.invokevirtual 69, 3) := by decide +kernel
theorem dL_loses_158 : decode cL_loses 158 = .ok (.bipush 8, 2) := by decide +kernel
theorem dL_loses_160 : decode cL_loses 160 = .ok (.aload_n 0, 1) := by decide +kernel
theorem dL_loses_161 : decode cL_loses 161 = .ok (.iconst 1, 1) := by decide +kernel
theorem dL_loses_162 : decode cL_loses 162 = .ok (.invokevirtual 69, 3) := by decide +kernel
theorem dL_loses_165 : decode cL_loses 165 = .ok (.imul, 1) := by decide +kernel
theorem dL_loses_166 : decode cL_loses 166 = .ok (.iadd, 1) := by decide +kernel
theorem dL_loses_167 : decode cL_loses 167 = .ok (.bipush 64, 2) := by decide +kernel
theorem dL_loses_169 : decode cL_loses 169 = .ok (.aload_n 0, 1) := by decide +kernel
theorem dL_loses_170 : decode cL_loses 170 = .ok (.iconst 0, 1) := by decide +kernel
theorem dL_loses_171 : decode cL_loses 171 = .ok (.invokevirtual 85, 3) := by decide +kernel
theorem dL_loses_174 : decode cL_loses 174 = .ok (.imul, 1) := by decide +kernel
theorem dL_loses_175 : decode cL_loses 175 = .ok (.iadd, 1) := by decide +kernel
theorem dL_loses_176 : decode cL_loses 176 = .ok (.sipush 704, 3) := by decide +kernel
theorem dL_loses_179 : decode cL_loses 179 = .ok (.aload_n 0, 1) := by decide +kernel
theorem dL_loses_180 : decode cL_loses 180 = .ok (.iconst 1, 1) := by decide +kernel
theorem dL_loses_181 : decode cL_loses 181 = .ok (.invokevirtual 85, 3) := by decide +kernel
theorem dL_loses_184 : decode cL_loses 184 = .ok (.imul, 1) := by decide +kernel
theorem dL_loses_185 : decode cL_loses 185 = .ok (.iadd, 1) := by decide +kernel
theorem dL_loses_186 : decode cL_loses 186 = .ok (.iload 8, 2) := by decide +kernel
theorem dL_loses_188 : decode cL_loses 188 = .ok (.if_icmp .ne 7, 3) := by decide +kernel
theorem dL_loses_191 : decode cL_loses 191 = .ok (.iconst 1, 1) := by decide +kernel
theorem dL_loses_192 : decode cL_loses 192 = .ok (.goto 4, 3) := by decide +kernel
theorem dL_loses_195 : decode cL_loses 195 = .ok (.iconst 0, 1) := by decide +kernel
theorem dL_loses_196 : decode cL_loses 196 = .ok (.ireturn, 1) := by decide +kernel
