set_option maxRecDepth 20000 in
theorem ggL_delivers_X3_waiting : GoodIn wsL_delivers wsX3_waiting := goodIn_ca (goodIn_r _ [5, 6, 7, 8, 9, 4, 10, 11, 12, 13, 14, 15, 16, 17, 18, 257, 258, 259, 260, 261, 262, 263, 264, 265, 266, 267, 268, 269, 270, 271, 272, 273, 274, 275, 276, 277, 278, 279, 280, 281, 282, 283, 284, 285, 286] (by decide +kernel) (by decide +kernel)) (goodIn_sub (fun _ h => List.mem_cons_of_mem _ (List.mem_append_left _ (List.mem_append_left _ (List.mem_append_right _ h)))) (by decide +kernel))
set_option maxRecDepth 20000 in
theorem gL_delivers_X3_waiting : GoodIn wsL_delivers (wsV RL 88 RX3 yX3_waiting wsX3_waiting) := goodIn_app (goodIn_of _ (by decide +kernel)) ggL_delivers_X3_waiting
set_option maxRecDepth 20000 in
theorem ggL_delivers_L_asks : GoodIn wsL_delivers wsL_asks := goodIn_ca (goodIn_ca (goodIn_ca (goodIn_r _ [22, 23, 24, 25, 26, 27, 4, 28, 11, 12, 29, 30, 31, 8, 9, 10, 32, 33, 34, 35, 36, 37, 13, 14, 15, 16, 17, 18, 38, 39, 40, 41, 42, 43, 44, 45, 46, 47, 48, 49, 50, 21, 51, 52, 53, 54, 55, 56, 57, 58, 59, 60, 61, 62, 63, 64, 65, 66, 67, 68, 69, 70, 71, 72, 73, 74, 75, 76, 77, 78, 79, 80, 81, 82, 83, 84, 85, 86, 87, 88, 89, 6, 90, 91, 92, 93, 94, 95, 96, 97, 98, 99, 100, 101, 102, 103, 104, 105, 106, 107, 108, 109, 110, 111, 112, 113, 114, 115, 116, 117, 118, 119, 120, 121, 122, 123, 124, 125, 126, 127, 128, 129, 130, 131, 132, 133, 7, 134, 135, 136, 137, 138, 139, 140, 141, 142, 143, 144, 145, 146, 147, 148, 149, 150, 151, 152, 153, 154, 155, 156, 157, 158, 159, 160, 161, 162, 163, 164, 165, 166, 167, 168, 169, 170, 171, 172, 173, 174, 175, 176, 177, 178, 179, 180, 181, 182, 183, 184, 185, 186, 187, 188, 189, 190, 191, 192, 193, 194, 195, 196, 197, 198, 199, 200, 201, 202, 203, 204, 205, 206, 207, 208, 209, 210, 211, 212, 213, 214, 215, 216, 217, 218, 219, 220, 221, 222, 223, 224, 225, 226, 227, 228, 229, 230, 231, 232, 233, 234, 235, 236, 237, 257, 258, 259, 260, 261, 262, 263, 264, 265, 266, 267, 268, 269, 270, 271, 272, 279, 280, 281, 282, 283, 284, 285, 286, 273, 274, 275, 276, 277, 278, 287, 288, 289, 290] (by decide +kernel) (by decide +kernel)) (goodIn_sub (fun _ h => List.mem_cons_of_mem _ (List.mem_append_left _ (List.mem_append_left _ (List.mem_append_right _ h)))) (by decide +kernel))) (goodIn_sub (fun _ h => List.mem_cons_of_mem _ (List.mem_append_left _ (List.mem_append_right _ h))) (by decide +kernel))) (goodIn_sub (fun _ h => List.mem_cons_of_mem _ (List.mem_append_right _ h)) (by decide +kernel))
set_option maxRecDepth 20000 in
theorem gL_delivers_L_asks : GoodIn wsL_delivers (va_wsS RL 95 yL_asks wsL_asks) := goodIn_app (goodIn_of _ (by decide +kernel)) ggL_delivers_L_asks
set_option maxRecDepth 20000 in
theorem ggL_delivers_X3_kindAt : GoodIn wsL_delivers wsX3_kindAt := goodIn_ca (goodIn_ca (goodIn_r _ [237, 6, 8, 9, 4, 10, 11, 12, 13, 14, 15, 16, 17, 18, 129, 130, 131, 132, 133, 7, 229, 230, 231, 93, 232, 96, 100, 101, 102, 103, 104, 257, 258, 259, 260, 261, 262, 263, 264, 265, 266, 267, 268, 269, 270, 271, 272, 279, 280, 281, 282, 283, 284, 285, 286, 273, 274, 275, 276, 277, 278] (by decide +kernel) (by decide +kernel)) (goodIn_sub (fun _ h => List.mem_cons_of_mem _ (List.mem_append_left _ (List.mem_append_left _ (List.mem_append_right _ h)))) (by decide +kernel))) (goodIn_sub (fun _ h => List.mem_cons_of_mem _ (List.mem_append_right _ h)) (by decide +kernel))
set_option maxRecDepth 20000 in
theorem gL_delivers_X3_kindAt : GoodIn wsL_delivers (wsV RL 53 RX3 yX3_kindAt wsX3_kindAt) := goodIn_app (goodIn_of _ (by decide +kernel)) ggL_delivers_X3_kindAt
set_option maxRecDepth 20000 in
theorem ggL_delivers_X3_state : GoodIn wsL_delivers wsX3_state := goodIn_ca (goodIn_r _ [241, 70, 8, 9, 4, 10, 11, 12, 13, 14, 15, 16, 17, 18, 257, 258, 259, 260, 261, 262, 263, 264, 265, 266, 267, 268, 269, 270, 271, 272, 279, 280, 281, 282, 283, 284, 285, 286] (by decide +kernel) (by decide +kernel)) (goodIn_sub (fun _ h => List.mem_cons_of_mem _ (List.mem_append_left _ (List.mem_append_left _ (List.mem_append_right _ h)))) (by decide +kernel))
set_option maxRecDepth 20000 in
theorem gL_delivers_X3_state : GoodIn wsL_delivers (wsV RL 69 RX3 yX3_state wsX3_state) := goodIn_app (goodIn_of _ (by decide +kernel)) ggL_delivers_X3_state
set_option maxRecDepth 20000 in
theorem ggL_delivers_X3_tries : GoodIn wsL_delivers wsX3_tries := goodIn_ca (goodIn_r _ [245, 71, 8, 9, 4, 10, 11, 12, 13, 14, 15, 16, 17, 18, 257, 258, 259, 260, 261, 262, 263, 264, 265, 266, 267, 268, 269, 270, 271, 272, 279, 280, 281, 282, 283, 284, 285, 286] (by decide +kernel) (by decide +kernel)) (goodIn_sub (fun _ h => List.mem_cons_of_mem _ (List.mem_append_left _ (List.mem_append_left _ (List.mem_append_right _ h)))) (by decide +kernel))
set_option maxRecDepth 20000 in
theorem gL_delivers_X3_tries : GoodIn wsL_delivers (wsV RL 85 RX3 yX3_tries wsX3_tries) := goodIn_app (goodIn_of _ (by decide +kernel)) ggL_delivers_X3_tries
set_option maxRecDepth 20000 in
theorem ggL_delivers_L_row : GoodIn wsL_delivers wsL_row := goodIn_ca (goodIn_ca (goodIn_r _ [248, 249, 1, 2, 3, 4, 5, 6, 7, 8, 9, 10, 11, 12, 13, 14, 15, 16, 17, 18, 234, 235, 236, 237, 129, 130, 131, 132, 133, 229, 230, 231, 93, 232, 96, 100, 101, 102, 103, 104, 257, 258, 259, 260, 261, 262, 263, 264, 265, 266, 267, 268, 269, 270, 271, 272, 273, 274, 275, 276, 277, 278, 279, 280, 281, 282, 283, 284, 285, 286] (by decide +kernel) (by decide +kernel)) (goodIn_sub (fun _ h => List.mem_cons_of_mem _ (List.mem_append_left _ (List.mem_append_left _ (List.mem_append_right _ h)))) (by decide +kernel))) (goodIn_sub (fun _ h => List.mem_cons_of_mem _ (List.mem_append_right _ h)) (by decide +kernel))
set_option maxRecDepth 20000 in
theorem gL_delivers_L_row : GoodIn wsL_delivers (va_wsS RL 111 yL_row wsL_row) := goodIn_app (goodIn_of _ (by decide +kernel)) ggL_delivers_L_row
set_option maxRecDepth 20000 in
theorem ggL_delivers_L_isShut : GoodIn wsL_delivers wsL_isShut := goodIn_r _ [252] (by decide +kernel) (by decide +kernel)
set_option maxRecDepth 20000 in
theorem gL_delivers_L_isShut : GoodIn wsL_delivers (va_wsS RL 107 yL_isShut wsL_isShut) := goodIn_app (goodIn_of _ (by decide +kernel)) ggL_delivers_L_isShut
set_option maxRecDepth 20000 in
theorem ggL_delivers_X3_deliver : GoodIn wsL_delivers wsX3_deliver := goodIn_ca (goodIn_ca (goodIn_r _ [126, 6, 127, 128, 8, 9, 4, 10, 11, 12, 13, 14, 15, 16, 17, 18, 129, 130, 131, 132, 133, 7, 134, 135, 136, 93, 137, 96, 104, 138, 97, 139, 98, 140, 141, 99, 142, 143, 144, 145, 95, 100, 101, 102, 103, 146, 147, 148, 149, 150, 82, 151, 152, 153, 154, 122, 70, 84, 85, 86, 87, 88, 89, 90, 91, 92, 94, 113, 114, 115, 46, 116, 48, 117, 44, 45, 47, 155, 156, 157, 158, 159, 160, 161, 162, 72, 73, 71, 163, 164, 165, 166, 167, 78, 79, 80, 81, 83, 74, 168, 169, 170, 171, 172, 173, 174, 175, 176, 177, 178, 179, 180, 181, 182, 183, 184, 185, 186, 187, 188, 189, 190, 191, 192, 193, 194, 195, 196, 76, 77, 75, 197, 198, 199, 200, 201, 202, 203, 204, 205, 206, 207, 208, 209, 210, 211, 212, 213, 214, 215, 216, 217, 218, 219, 220, 221, 222, 223, 224, 257, 258, 259, 260, 261, 262, 263, 264, 265, 266, 267, 268, 269, 270, 271, 272, 279, 280, 281, 282, 283, 284, 285, 286, 287, 288, 289, 290, 273, 274, 275, 276, 277, 278] (by decide +kernel) (by decide +kernel)) (goodIn_sub (fun _ h => List.mem_cons_of_mem _ (List.mem_append_left _ (List.mem_append_left _ (List.mem_append_right _ h)))) (by decide +kernel))) (goodIn_sub (fun _ h => List.mem_cons_of_mem _ (List.mem_append_right _ h)) (by decide +kernel))
set_option maxRecDepth 20000 in
theorem gL_delivers_X3_deliver : GoodIn wsL_delivers (wsV RL 46 RX3 yX3_deliver wsX3_deliver) := goodIn_app (goodIn_of _ (by decide +kernel)) ggL_delivers_X3_deliver
set_option maxRecDepth 20000 in
theorem ggL_delivers_X3_allowed : GoodIn wsL_delivers wsX3_allowed := goodIn_ca (goodIn_r _ [256, 70, 174, 8, 9, 4, 10, 11, 12, 32, 33, 34, 13, 14, 15, 16, 17, 18, 257, 258, 259, 260, 261, 262, 263, 264, 265, 266, 267, 268, 269, 270, 271, 272, 279, 280, 281, 282, 283, 284, 285, 286] (by decide +kernel) (by decide +kernel)) (goodIn_sub (fun _ h => List.mem_cons_of_mem _ (List.mem_append_left _ (List.mem_append_left _ (List.mem_append_right _ h)))) (by decide +kernel))
set_option maxRecDepth 20000 in
theorem gL_delivers_X3_allowed : GoodIn wsL_delivers (wsV RL 99 RX3 yX3_allowed wsX3_allowed) := goodIn_app (goodIn_of _ (by decide +kernel)) ggL_delivers_X3_allowed
theorem dL_delivers_0 : decode cL_delivers 0 = .ok (.aload_n 0, 1) := by decide +kernel
theorem dL_delivers_1 : decode cL_delivers 1 = .ok (.iload_n 1, 1) := by decide +kernel
theorem dL_delivers_2 : decode cL_delivers 2 = .ok (.invokevirtual 88, 3) := by decide +kernel
theorem dL_delivers_5 : decode cL_delivers 5 = .ok (.istore 4, 2) := by decide +kernel
theorem dL_delivers_7 : decode cL_delivers 7 = .ok (.iload 4, 2) := by decide +kernel
theorem dL_delivers_9 : decode cL_delivers 9 = .ok (.ifCond .ne 24, 3) := by decide +kernel
theorem dL_delivers_12 : decode cL_delivers 12 = .ok (.aload_n 0, 1) := by decide +kernel
theorem dL_delivers_13 : decode cL_delivers 13 = .ok (.iconst 5, 1) := by decide +kernel
theorem dL_delivers_14 : decode cL_delivers 14 = .ok (.iload_n 1, 1) := by decide +kernel
theorem dL_delivers_15 : decode cL_delivers 15 = .ok (.iconst 0, 1) := by decide +kernel
theorem dL_delivers_16 : decode cL_delivers 16 = .ok (.iconst 0, 1) := by decide +kernel
theorem dL_delivers_17 : decode cL_delivers 17 = .ok (.iconst 0, 1) := by decide +kernel
theorem dL_delivers_18 : decode cL_delivers 18 = .ok (.iconst 0, 1) := by decide +kernel
theorem dL_delivers_19 : decode cL_delivers 19 = .ok (.invokestatic 95, 3) := by decide +kernel
theorem dL_delivers_22 : decode cL_delivers 22 = .ok (.bipush (-10), 2) := by decide +kernel
theorem dL_delivers_24 : decode cL_delivers 24 = .ok (.if_icmp .ne 7, 3) := by decide +kernel
theorem dL_delivers_27 : decode cL_delivers 27 = .ok (.iconst 1, 1) := by decide +kernel
theorem dL_delivers_28 : decode cL_delivers 28 = .ok (.goto 4, 3) := by decide +kernel
theorem dL_delivers_31 : decode cL_delivers 31 = .ok (.iconst 0, 1) := by decide +kernel
theorem dL_delivers_32 : decode cL_delivers 32 = .ok (.ireturn, 1) := by decide +kernel
theorem dL_delivers_33 : decode cL_delivers 33 = .ok (.aload_n 0, 1) := by decide +kernel
theorem dL_delivers_34 : decode cL_delivers 34 = .ok (.iload_n 1, 1) := by decide +kernel
theorem dL_delivers_35 : decode cL_delivers 35 = .ok (.iconst 0, 1) := by decide +kernel
theorem dL_delivers_36 : decode cL_delivers 36 = .ok (.invokevirtual 53, 3) := by decide +kernel
theorem dL_delivers_39 : decode cL_delivers 39 = .ok (.istore 5, 2) := by decide +kernel
theorem dL_delivers_41 : decode cL_delivers 41 = .ok (.aload_n 0, 1) := by decide +kernel
theorem dL_delivers_42 : decode cL_delivers 42 = .ok (.iload_n 1, 1) := by decide +kernel
theorem dL_delivers_43 : decode cL_delivers 43 = .ok (.invokevirtual 69, 3) := by decide +kernel
theorem dL_delivers_46 : decode cL_delivers 46 = .ok (.istore 6, 2) := by decide +kernel
theorem dL_delivers_48 : decode cL_delivers 48 = .ok (.aload_n 0, 1) := by decide +kernel
theorem dL_delivers_49 : decode cL_delivers 49 = .ok (.iconst 1, 1) := by decide +kernel
theorem dL_delivers_50 : decode cL_delivers 50 = .ok (.iload_n 1, 1) := by decide +kernel
theorem dL_delivers_51 : decode cL_delivers 51 = .ok (.isub, 1) := by decide +kernel
theorem dL_delivers_52 : decode cL_delivers 52 = .ok (.invokevirtual 69, 3) := by decide +kernel
theorem dL_delivers_55 : decode cL_delivers 55 = .ok (.istore 7, 2) := by decide +kernel
theorem dL_delivers_57 : decode cL_delivers 57 = .ok (.aload_n 0, 1) := by decide +kernel
theorem dL_delivers_58 : decode cL_delivers 58 = .ok (.iconst 1, 1) := by decide +kernel
theorem dL_delivers_59 : decode cL_delivers 59 = .ok (.iload_n 1, 1) := by decide +kernel
theorem dL_delivers_60 : decode cL_delivers 60 = .ok (.isub, 1) := by decide +kernel
theorem dL_delivers_61 : decode cL_delivers 61 = .ok (.invokevirtual 88, 3) := by decide +kernel
theorem dL_delivers_64 : decode cL_delivers 64 = .ok (.istore 8, 2) := by decide +kernel
theorem dL_delivers_66 : decode cL_delivers 66 = .ok (.aload_n 0, 1) := by decide +kernel
theorem dL_delivers_67 : decode cL_delivers 67 = .ok (.iload_n 1, 1) := by decide +kernel
theorem dL_delivers_68 : decode cL_delivers 68 = .ok (.invokevirtual 85, 3) := by decide +kernel
theorem dL_delivers_71 : decode cL_delivers 71 = .ok (.istore 9, 2) := by decide +kernel
theorem dL_delivers_73 : decode cL_delivers 73 = .ok (.aload_n 0, 1) := by decide +kernel
theorem dL_delivers_74 : decode cL_delivers 74 = .ok (.iload_n 1, 1) := by decide +kernel
theorem dL_delivers_75 : decode cL_delivers 75 = .ok (.iconst 1, 1) := by decide +kernel
theorem dL_delivers_76 : decode cL_delivers 76 = .ok (.invokestatic 111, 3) := by decide +kernel
theorem dL_delivers_79 : decode cL_delivers 79 = .ok (.lstore 10, 2) := by decide +kernel
theorem dL_delivers_81 : decode cL_delivers 81 = .ok (.iload 6, 2) := by decide +kernel
theorem dL_delivers_83 : decode cL_delivers 83 = .ok (.invokestatic 107, 3) := by decide +kernel
theorem dL_delivers_86 : decode cL_delivers 86 = .ok (.ifCond .ne 9, 3) := by decide +kernel
theorem dL_delivers_89 : decode cL_delivers 89 = .ok (.iload 6, 2) := by decide +kernel
theorem dL_delivers_91 : decode cL_delivers 91 = .ok (.iconst 5, 1) := by decide +kernel
theorem dL_delivers_92 : decode cL_delivers 92 = .ok (.if_icmp .ne 7, 3) := by decide +kernel
theorem dL_delivers_95 : decode cL_delivers 95 = .ok (.iconst 1, 1) := by decide +kernel
theorem dL_delivers_96 : decode cL_delivers 96 = .ok (.goto 4, 3) := by decide +kernel
theorem dL_delivers_99 : decode cL_delivers 99 = .ok (.iconst 0, 1) := by decide +kernel
theorem dL_delivers_100 : decode cL_delivers 100 = .ok (.istore 12, 2) := by decide +kernel
theorem dL_delivers_102 : decode cL_delivers 102 = .ok (.aload_n 0, 1) := by decide +kernel
theorem dL_delivers_103 : decode cL_delivers 103 = .ok (.iload_n 1, 1) := by decide +kernel
theorem dL_delivers_104 : decode cL_delivers 104 = .ok (.invokevirtual 46, 3) := by decide +kernel
theorem dL_delivers_107 : decode cL_delivers 107 = .ok (.iload 5, 2) := by decide +kernel
theorem dL_delivers_109 : decode cL_delivers 109 = .ok (.if_icmp .ne 19, 3) := by decide +kernel
theorem dL_delivers_112 : decode cL_delivers 112 = .ok (.aload_n 0, 1) := by decide +kernel
theorem dL_delivers_113 : decode cL_delivers 113 = .ok (.iconst 1, 1) := by decide +kernel
theorem dL_delivers_114 : decode cL_delivers 114 = .ok (.iload_n 1, 1) := by decide +kernel
theorem dL_delivers_115 : decode cL_delivers 115 = .ok (.isub, 1) := by decide +kernel
theorem dL_delivers_116 : decode cL_delivers 116 = .ok (.invokevirtual 69, 3) := by decide +kernel
theorem dL_delivers_119 : decode cL_delivers 119 = .ok (.iload 7, 2) := by decide +kernel
theorem dL_delivers_121 : decode cL_delivers 121 = .ok (.if_icmp .ne 7, 3) := by decide +kernel
theorem dL_delivers_124 : decode cL_delivers 124 = .ok (.iconst 1, 1) := by decide +kernel
theorem dL_delivers_125 : decode cL_delivers 125 = .ok (.goto 4, 3) := by decide +kernel
theorem dL_delivers_128 : decode cL_delivers 128 = .ok (.iconst 0, 1) := by decide +kernel
theorem dL_delivers_129 : decode cL_delivers 129 = .ok (.istore 13, 2) := by decide +kernel
theorem dL_delivers_131 : decode cL_delivers 131 = .ok (.aload_n 0, 1) := by decide +kernel
theorem dL_delivers_132 : decode cL_delivers 132 = .ok (.iload_n 1, 1) := by decide +kernel
theorem dL_delivers_133 : decode cL_delivers 133 = .ok (.invokevirtual 69, 3) := by decide +kernel
theorem dL_delivers_136 : decode cL_delivers 136 = .ok (.istore 14, 2) := by decide +kernel
theorem dL_delivers_138 : decode cL_delivers 138 = .ok (.aload_n 3, 1) := by decide +kernel
theorem dL_delivers_139 : decode cL_delivers 139 = .ok (.iconst 1, 1) := by decide +kernel
theorem dL_delivers_140 : decode cL_delivers 140 = .ok (.iaload, 1) := by decide +kernel
theorem dL_delivers_141 : decode cL_delivers 141 = .ok (.iconst 1, 1) := by decide +kernel
theorem dL_delivers_142 : decode cL_delivers 142 = .ok (.if_icmp .ne 16, 3) := by decide +kernel
theorem dL_delivers_145 : decode cL_delivers 145 = .ok (.aload_n 0, 1) := by decide +kernel
theorem dL_delivers_146 : decode cL_delivers 146 = .ok (.iload_n 1, 1) := by decide +kernel
theorem dL_delivers_147 : decode cL_delivers 147 = .ok (.invokevirtual 88, 3) := by decide +kernel
theorem dL_delivers_150 : decode cL_delivers 150 = .ok (.iload 4, 2) := by decide +kernel
theorem dL_delivers_152 : decode cL_delivers 152 = .ok (.isub, 1) := by decide +kernel
theorem dL_delivers_153 : decode cL_delivers 153 = .ok (.iconst 1, 1) := by decide +kernel
theorem dL_delivers_154 : decode cL_delivers 154 = .ok (.iadd, 1) := by decide +kernel
theorem dL_delivers_155 : decode cL_delivers 155 = .ok (.goto 13, 3) := by decide +kernel
theorem dL_delivers_158 : decode cL_delivers 158 = .ok (.aload_n 0, 1) := by decide +kernel
theorem dL_delivers_159 : decode cL_delivers 159 = .ok (.iconst 1, 1) := by decide +kernel
theorem dL_delivers_160 : decode cL_delivers 160 = .ok (.iload_n 1, 1) := by decide +kernel
theorem dL_delivers_161 : decode cL_delivers 161 = .ok (.isub, 1) := by decide +kernel
theorem dL_delivers_162 : decode cL_delivers 162 = .ok (.invokevirtual 88, 3) := by decide +kernel
theorem dL_delivers_165 : decode cL_delivers 165 = .ok (.iload 8, 2) := by decide +kernel
theorem dL_delivers_167 : decode cL_delivers 167 = .ok (.isub, 1) := by decide +kernel
theorem dL_delivers_168 : decode cL_delivers 168 = .ok (.istore 15, 2) := by decide +kernel
theorem dL_delivers_170 : decode cL_delivers 170 = .ok (.iload 13, 2) := by decide +kernel
theorem dL_delivers_172 : decode cL_delivers 172 = .ok (.ifCond .eq 49, 3) := by decide +kernel
theorem dL_delivers_175 : decode cL_delivers 175 = .ok (.iload 15, 2) := by decide +kernel
theorem dL_delivers_177 : decode cL_delivers 177 = .ok (.ifCond .lt 44, 3) := by decide +kernel
theorem dL_delivers_180 : decode cL_delivers 180 = .ok (.iload 15, 2) := by decide +kernel
theorem dL_delivers_182 : decode cL_delivers 182 = .ok (.iconst 2, 1) := by decide +kernel
theorem dL_delivers_183 : decode cL_delivers 183 = .ok (.if_icmp .gt 38, 3) := by decide +kernel
theorem dL_delivers_186 : decode cL_delivers 186 = .ok (.aload_n 3, 1) := by decide +kernel
theorem dL_delivers_187 : decode cL_delivers 187 = .ok (.iconst 1, 1) := by decide +kernel
theorem dL_delivers_188 : decode cL_delivers 188 = .ok (.iaload, 1) := by decide +kernel
theorem dL_delivers_189 : decode cL_delivers 189 = .ok (.iconst 1, 1) := by decide +kernel
theorem dL_delivers_190 : decode cL_delivers 190 = .ok (.if_icmp .eq 27, 3) := by decide +kernel
theorem dL_delivers_193 : decode cL_delivers 193 = .ok (.aload_n 0, 1) := by decide +kernel
theorem dL_delivers_194 : decode cL_delivers 194 = .ok (.iload_n 1, 1) := by decide +kernel
theorem dL_delivers_195 : decode cL_delivers 195 = .ok (.invokevirtual 88, 3) := by decide +kernel
theorem dL_delivers_198 : decode cL_delivers 198 = .ok (.iload 4, 2) := by decide +kernel
theorem dL_delivers_200 : decode cL_delivers 200 = .ok (.iconst 1, 1) := by decide +kernel
theorem dL_delivers_201 : decode cL_delivers 201 = .ok (.isub, 1) := by decide +kernel
theorem dL_delivers_202 : decode cL_delivers 202 = .ok (.if_icmp .ne 19, 3) := by decide +kernel
theorem dL_delivers_205 : decode cL_delivers 205 = .ok (.aload_n 0, 1) := by decide +kernel
theorem dL_delivers_206 : decode cL_delivers 206 = .ok (.iload_n 1, 1) := by decide +kernel
theorem dL_delivers_207 : decode cL_delivers 207 = .ok (.iconst 0, 1) := by decide +kernel
theorem dL_delivers_208 : decode cL_delivers 208 = .ok (.invokestatic 111, 3) := by decide +kernel
theorem dL_delivers_211 : decode cL_delivers 211 = .ok (.lload 10, 2) := by decide +kernel
theorem dL_delivers_213 : decode cL_delivers 213 = .ok (.lcmp, 1) := by decide +kernel
theorem dL_delivers_214 : decode cL_delivers 214 = .ok (.ifCond .ne 7, 3) := by decide +kernel
theorem dL_delivers_217 : decode cL_delivers 217 = .ok (.iconst 1, 1) := by decide +kernel
theorem dL_delivers_218 : decode cL_delivers 218 = .ok (.goto 4, 3) := by decide +kernel
theorem dL_delivers_221 : decode cL_delivers 221 = .ok (.iconst 0, 1) := by decide +kernel
theorem dL_delivers_222 : decode cL_delivers 222 = .ok (.istore 13, 2) := by decide +kernel
theorem dL_delivers_224 : decode cL_delivers 224 = .ok (.iload 5, 2) := by decide +kernel
theorem dL_delivers_226 : decode cL_delivers 226 = .ok (.iconst 4, 1) := by decide +kernel
theorem dL_delivers_227 : decode cL_delivers 227 = .ok (.if_icmp .ne 59, 3) := by decide +kernel
theorem dL_delivers_230 : decode cL_delivers 230 = .ok (.iload 13, 2) := by decide +kernel
theorem dL_delivers_232 : decode cL_delivers 232 = .ok (.ifCond .eq 52, 3) := by decide +kernel
theorem dL_delivers_235 : decode cL_delivers 235 = .ok (.iload 14, 2) := by decide +kernel
theorem dL_delivers_237 : decode cL_delivers 237 = .ok (.iload 12, 2) := by decide +kernel
theorem dL_delivers_239 : decode cL_delivers 239 = .ok (.ifCond .eq 8, 3) := by decide +kernel
theorem dL_delivers_242 : decode cL_delivers 242 = .ok (.iload 6, 2) := by decide +kernel
theorem dL_delivers_244 : decode cL_delivers 244 = .ok (.goto 4, 3) := by decide +kernel
theorem dL_delivers_247 : decode cL_delivers 247 = .ok (.iconst 0, 1) := by decide +kernel
theorem dL_delivers_248 : decode cL_delivers 248 = .ok (.if_icmp .ne 36, 3) := by decide +kernel
theorem dL_delivers_251 : decode cL_delivers 251 = .ok (.iload 15, 2) := by decide +kernel
theorem dL_delivers_253 : decode cL_delivers 253 = .ok (.iconst 1, 1) := by decide +kernel
theorem dL_delivers_254 : decode cL_delivers 254 = .ok (.if_icmp .eq 16, 3) := by decide +kernel
theorem dL_delivers_257 : decode cL_delivers 257 = .ok (.aload_n 3, 1) := by decide +kernel
theorem dL_delivers_258 : decode cL_delivers 258 = .ok (.iconst 1, 1) := by decide +kernel
theorem dL_delivers_259 : decode cL_delivers 259 = .ok (.iaload, 1) := by decide +kernel
theorem dL_delivers_260 : decode cL_delivers 260 = .ok (.ifCond .ne 24, 3) := by decide +kernel
theorem dL_delivers_263 : decode cL_delivers 263 = .ok (.iload 8, 2) := by decide +kernel
theorem dL_delivers_265 : decode cL_delivers 265 = .ok (.bipush 12, 2) := by decide +kernel
theorem dL_delivers_267 : decode cL_delivers 267 = .ok (.if_icmp .ne 17, 3) := by decide +kernel
theorem dL_delivers_270 : decode cL_delivers 270 = .ok (.aload_n 0, 1) := by decide +kernel
theorem dL_delivers_271 : decode cL_delivers 271 = .ok (.iload_n 1, 1) := by decide +kernel
theorem dL_delivers_272 : decode cL_delivers 272 = .ok (.invokevirtual 85, 3) := by decide +kernel
theorem dL_delivers_275 : decode cL_delivers 275 = .ok (.iload 9, 2) := by decide +kernel
theorem dL_delivers_277 : decode cL_delivers 277 = .ok (.if_icmp .ne 7, 3) := by decide +kernel
theorem dL_delivers_280 : decode cL_delivers 280 = .ok (.iconst 1, 1) := by decide +kernel
theorem dL_delivers_281 : decode cL_delivers 281 = .ok (.goto 4, 3) := by decide +kernel
theorem dL_delivers_284 : decode cL_delivers 284 = .ok (.iconst 0, 1) := by decide +kernel
theorem dL_delivers_285 : decode cL_delivers 285 = .ok (.ireturn, 1) := by decide +kernel
theorem dL_delivers_286 : decode cL_delivers 286 = .ok (.iload 5, 2) := by decide +kernel
theorem dL_delivers_288 : decode cL_delivers 288 = .ok (.iconst 5, 1) := by decide +kernel
theorem dL_delivers_289 : decode cL_delivers 289 = .ok (.if_icmp .ne 46, 3) := by decide +kernel
theorem dL_delivers_292 : decode cL_delivers 292 = .ok (.iload 13, 2) := by decide +kernel
theorem dL_delivers_294 : decode cL_delivers 294 = .ok (.ifCond .eq 39, 3) := by decide +kernel
theorem dL_delivers_297 : decode cL_delivers 297 = .ok (.iload 14, 2) := by decide +kernel
theorem dL_delivers_299 : decode cL_delivers 299 = .ok (.iload 6, 2) := by decide +kernel
theorem dL_delivers_301 : decode cL_delivers 301 = .ok (.iconst 5, 1) := by decide +kernel
theorem dL_delivers_302 : decode cL_delivers 302 = .ok (.if_icmp .ne 7, 3) := by decide +kernel
theorem dL_delivers_305 : decode cL_delivers 305 = .ok (.iconst 0, 1) := by decide +kernel
theorem dL_delivers_306 : decode cL_delivers 306 = .ok (.goto 5, 3) := by decide +kernel
theorem dL_delivers_309 : decode cL_delivers 309 = .ok (.iload 6, 2) := by decide +kernel
theorem dL_delivers_311 : decode cL_delivers 311 = .ok (.if_icmp .ne 22, 3) := by decide +kernel
theorem dL_delivers_314 : decode cL_delivers 314 = .ok (.iload 15, 2) := by decide +kernel
theorem dL_delivers_316 : decode cL_delivers 316 = .ok (.ifCond .ne 17, 3) := by decide +kernel
theorem dL_delivers_319 : decode cL_delivers 319 = .ok (.aload_n 0, 1) := by decide +kernel
theorem dL_delivers_320 : decode cL_delivers 320 = .ok (.iload_n 1, 1) := by decide +kernel
theorem dL_delivers_321 : decode cL_delivers 321 = .ok (.invokevirtual 85, 3) := by decide +kernel
theorem dL_delivers_324 : decode cL_delivers 324 = .ok (.iload 9, 2) := by decide +kernel
theorem dL_delivers_326 : decode cL_delivers 326 = .ok (.if_icmp .ne 7, 3) := by decide +kernel
theorem dL_delivers_329 : decode cL_delivers 329 = .ok (.iconst 1, 1) := by decide +kernel
theorem dL_delivers_330 : decode cL_delivers 330 = .ok (.goto 4, 3) := by decide +kernel
theorem dL_delivers_333 : decode cL_delivers 333 = .ok (.iconst 0, 1) := by decide +kernel
theorem dL_delivers_334 : decode cL_delivers 334 = .ok (.ireturn, 1) := by decide +kernel
theorem dL_delivers_335 : decode cL_delivers 335 = .ok (.iload 12, 2) := by decide +kernel
theorem dL_delivers_337 : decode cL_delivers 337 = .ok (.ifCond .eq 36, 3) := by decide +kernel
theorem dL_delivers_340 : decode cL_delivers 340 = .ok (.iload 13, 2) := by decide +kernel
theorem dL_delivers_342 : decode cL_delivers 342 = .ok (.ifCond .eq 29, 3) := by decide +kernel
theorem dL_delivers_345 : decode cL_delivers 345 = .ok (.iload 14, 2) := by decide +kernel
theorem dL_delivers_347 : decode cL_delivers 347 = .ok (.iload 6, 2) := by decide +kernel
theorem dL_delivers_349 : decode cL_delivers 349 = .ok (.if_icmp .ne 22, 3) := by decide +kernel
theorem dL_delivers_352 : decode cL_delivers 352 = .ok (.iload 15, 2) := by decide +kernel
theorem dL_delivers_354 : decode cL_delivers 354 = .ok (.ifCond .ne 17, 3) := by decide +kernel
theorem dL_delivers_357 : decode cL_delivers 357 = .ok (.aload_n 0, 1) := by decide +kernel
theorem dL_delivers_358 : decode cL_delivers 358 = .ok (.iload_n 1, 1) := by decide +kernel
theorem dL_delivers_359 : decode cL_delivers 359 = .ok (.invokevirtual 85, 3) := by decide +kernel
theorem dL_delivers_362 : decode cL_delivers 362 = .ok (.iload 9, 2) := by decide +kernel
theorem dL_delivers_364 : decode cL_delivers 364 = .ok (.if_icmp .ne 7, 3) := by decide +kernel
theorem dL_delivers_367 : decode cL_delivers 367 = .ok (.iconst 1, 1) := by decide +kernel
theorem dL_delivers_368 : decode cL_delivers 368 = .ok (.goto 4, 3) := by decide +kernel
theorem dL_delivers_371 : decode cL_delivers 371 = .ok (.iconst 0, 1) := by decide +kernel
theorem dL_delivers_372 : decode cL_delivers 372 = .ok (.ireturn, 1) := by decide +kernel
theorem dL_delivers_373 : decode cL_delivers 373 = .ok (.iload 5, 2) := by decide +kernel
theorem dL_delivers_375 : decode cL_delivers 375 = .ok (.iconst 1, 1) := by decide +kernel
theorem dL_delivers_376 : decode cL_delivers 376 = .ok (.if_icmp .ne 50, 3) := by decide +kernel
theorem dL_delivers_379 : decode cL_delivers 379 = .ok (.iload 13, 2) := by decide +kernel
theorem dL_delivers_381 : decode cL_delivers 381 = .ok (.ifCond .eq 43, 3) := by decide +kernel
theorem dL_delivers_384 : decode cL_delivers 384 = .ok (.iload 15, 2) := by decide +kernel
theorem dL_delivers_386 : decode cL_delivers 386 = .ok (.ifCond .ne 38, 3) := by decide +kernel
theorem dL_delivers_389 : decode cL_delivers 389 = .ok (.iload 14, 2) := by decide +kernel
theorem dL_delivers_391 : decode cL_delivers 391 = .ok (.iload 6, 2) := by decide +kernel
theorem dL_delivers_393 : decode cL_delivers 393 = .ok (.if_icmp .eq 27, 3) := by decide +kernel
theorem dL_delivers_396 : decode cL_delivers 396 = .ok (.iload 6, 2) := by decide +kernel
theorem dL_delivers_398 : decode cL_delivers 398 = .ok (.iconst 1, 1) := by decide +kernel
theorem dL_delivers_399 : decode cL_delivers 399 = .ok (.if_icmp .ne 9, 3) := by decide +kernel
theorem dL_delivers_402 : decode cL_delivers 402 = .ok (.iload 14, 2) := by decide +kernel
theorem dL_delivers_404 : decode cL_delivers 404 = .ok (.iconst 2, 1) := by decide +kernel
theorem dL_delivers_405 : decode cL_delivers 405 = .ok (.if_icmp .eq 15, 3) := by decide +kernel
theorem dL_delivers_408 : decode cL_delivers 408 = .ok (.iload 6, 2) := by decide +kernel
theorem dL_delivers_410 : decode cL_delivers 410 = .ok (.iconst 3, 1) := by decide +kernel
theorem dL_delivers_411 : decode cL_delivers 411 = .ok (.if_icmp .ne 13, 3) := by decide +kernel
theorem dL_delivers_414 : decode cL_delivers 414 = .ok (.iload 14, 2) := by decide +kernel
theorem dL_delivers_416 : decode cL_delivers 416 = .ok (.iconst 4, 1) := by decide +kernel
theorem dL_delivers_417 : decode cL_delivers 417 = .ok (.if_icmp .ne 7, 3) := by decide +kernel
theorem dL_delivers_420 : decode cL_delivers 420 = .ok (.iconst 1, 1) := by decide +kernel
theorem dL_delivers_421 : decode cL_delivers 421 = .ok (.goto 4, 3) := by decide +kernel
theorem dL_delivers_424 : decode cL_delivers 424 = .ok (.iconst 0, 1) := by decide +kernel
theorem dL_delivers_425 : decode cL_delivers 425 = .ok (.ireturn, 1) := by decide +kernel
theorem dL_delivers_426 : decode cL_delivers 426 = .ok (.iload 5, 2) := by decide +kernel
theorem dL_delivers_428 : decode cL_delivers 428 = .ok (.iconst 1, 1) := by decide +kernel
theorem dL_delivers_429 : decode cL_delivers 429 = .ok (.if_icmp .le 111, 3) := by decide +kernel
theorem dL_delivers_432 : decode cL_delivers 432 = .ok (.iload 14, 2) := by decide +kernel
theorem dL_delivers_434 : decode cL_delivers 434 = .ok (.iload 6, 2) := by decide +kernel
theorem dL_delivers_436 : decode cL_delivers 436 = .ok (.if_icmp .ne 22, 3) := by decide +kernel
theorem dL_delivers_439 : decode cL_delivers 439 = .ok (.aload_n 0, 1) := by decide +kernel
theorem dL_delivers_440 : decode cL_delivers 440 = .ok (.iload_n 1, 1) := by decide +kernel
theorem dL_delivers_441 : decode cL_delivers 441 = .ok (.invokevirtual 85, 3) := by decide +kernel
theorem dL_delivers_444 : decode cL_delivers 444 = .ok (.iload 9, 2) := by decide +kernel
theorem dL_delivers_446 : decode cL_delivers 446 = .ok (.if_icmp .ne 12, 3) := by decide +kernel
theorem dL_delivers_449 : decode cL_delivers 449 = .ok (.iload 15, 2) := by decide +kernel
theorem dL_delivers_451 : decode cL_delivers 451 = .ok (.ifCond .ne 7, 3) := by decide +kernel
theorem dL_delivers_454 : decode cL_delivers 454 = .ok (.iconst 1, 1) := by decide +kernel
theorem dL_delivers_455 : decode cL_delivers 455 = .ok (.goto 4, 3) := by decide +kernel
theorem dL_delivers_458 : decode cL_delivers 458 = .ok (.iconst 0, 1) := by decide +kernel
theorem dL_delivers_459 : decode cL_delivers 459 = .ok (.istore 16, 2) := by decide +kernel
theorem dL_delivers_461 : decode cL_delivers 461 = .ok (.iload 6, 2) := by decide +kernel
theorem dL_delivers_463 : decode cL_delivers 463 = .ok (.iconst 1, 1) := by decide +kernel
theorem dL_delivers_464 : decode cL_delivers 464 = .ok (.if_icmp .eq 9, 3) := by decide +kernel
theorem dL_delivers_467 : decode cL_delivers 467 = .ok (.iload 6, 2) := by decide +kernel
theorem dL_delivers_469 : decode cL_delivers 469 = .ok (.iconst 3, 1) := by decide +kernel
theorem dL_delivers_470 : decode cL_delivers 470 = .ok (.if_icmp .ne 46, 3) := by decide +kernel
theorem dL_delivers_473 : decode cL_delivers 473 = .ok (.iload 9, 2) := by decide +kernel
theorem dL_delivers_475 : decode cL_delivers 475 = .ok (.ifCond .ne 18, 3) := by decide +kernel
theorem dL_delivers_478 : decode cL_delivers 478 = .ok (.iload 14, 2) := by decide +kernel
theorem dL_delivers_480 : decode cL_delivers 480 = .ok (.bipush 6, 2) := by decide +kernel
theorem dL_delivers_482 : decode cL_delivers 482 = .ok (.if_icmp .ne 34, 3) := by decide +kernel
theorem dL_delivers_485 : decode cL_delivers 485 = .ok (.iload 15, 2) := by decide +kernel
theorem dL_delivers_487 : decode cL_delivers 487 = .ok (.ifCond .ne 29, 3) := by decide +kernel
theorem dL_delivers_490 : decode cL_delivers 490 = .ok (.goto 22, 3) := by decide +kernel
theorem dL_delivers_493 : decode cL_delivers 493 = .ok (.iload 14, 2) := by decide +kernel
theorem dL_delivers_495 : decode cL_delivers 495 = .ok (.iload 6, 2) := by decide +kernel
theorem dL_delivers_497 : decode cL_delivers 497 = .ok (.if_icmp .ne 19, 3) := by decide +kernel
theorem dL_delivers_500 : decode cL_delivers 500 = .ok (.aload_n 0, 1) := by decide +kernel
theorem dL_delivers_501 : decode cL_delivers 501 = .ok (.iload_n 1, 1) := by decide +kernel
theorem dL_delivers_502 : decode cL_delivers 502 = .ok (.invokevirtual 85, 3) := by decide +kernel
theorem dL_delivers_505 : decode cL_delivers 505 = .ok (.iload 9, 2) := by decide +kernel
theorem dL_delivers_507 : decode cL_delivers 507 = .ok (.iconst 1, 1) := by decide +kernel
theorem dL_delivers_508 : decode cL_delivers 508 = .ok (.isub, 1) := by decide +kernel
theorem dL_delivers_509 : decode cL_delivers 509 = .ok (.if_icmp .ne 7, 3) := by decide +kernel
theorem dL_delivers_512 : decode cL_delivers 512 = .ok (.iconst 1, 1) := by decide +kernel
theorem dL_delivers_513 : decode cL_delivers 513 = .ok (.goto 4, 3) := by decide +kernel
theorem dL_delivers_516 : decode cL_delivers 516 = .ok (.iconst 0, 1) := by decide +kernel
theorem dL_delivers_517 : decode cL_delivers 517 = .ok (.istore 17, 2) := by decide +kernel
theorem dL_delivers_519 : decode cL_delivers 519 = .ok (.iload 13, 2) := by decide +kernel
theorem dL_delivers_521 : decode cL_delivers 521 = .ok (.ifCond .eq 17, 3) := by decide +kernel
theorem dL_delivers_524 : decode cL_delivers 524 = .ok (.iload 16, 2) := by decide +kernel
theorem dL_delivers_526 : decode cL_delivers 526 = .ok (.ifCond .ne 8, 3) := by decide +kernel
theorem dL_delivers_529 : decode cL_delivers 529 = .ok (.iload 17, 2) := by decide +kernel
theorem dL_delivers_531 : decode cL_delivers 531 = .ok (.ifCond .eq 7, 3) := by decide +kernel
theorem dL_delivers_534 : decode cL_delivers 534 = .ok (.iconst 1, 1) := by decide +kernel
theorem dL_delivers_535 : decode cL_delivers 535 = .ok (.goto 4, 3) := by decide +kernel
theorem dL_delivers_538 : decode cL_delivers 538 = .ok (.iconst 0, 1) := by decide +kernel
theorem dL_delivers_539 : decode cL_delivers 539 = .ok (.ireturn, 1) := by decide +kernel
theorem dL_delivers_540 : decode cL_delivers 540 = .ok (.iload 14, 2) := by decide +kernel
theorem dL_delivers_542 : decode cL_delivers 542 = .ok (.bipush 7, 2) := by decide +kernel
theorem dL_delivers_544 : decode cL_delivers 544 = .ok (.if_icmp .eq 25, 3) := by decide +kernel
theorem dL_delivers_547 : decode cL_delivers 547 = .ok (.iload 14, 2) := by decide +kernel
theorem dL_delivers_549 : decode cL_delivers 549 = .ok (.iload 6, 2) := by decide +kernel
theorem dL_delivers_551 : decode cL_delivers 551 = .ok (.if_icmp .ne 22, 3) := by decide +kernel
theorem dL_delivers_554 : decode cL_delivers 554 = .ok (.iload 15, 2) := by decide +kernel
theorem dL_delivers_556 : decode cL_delivers 556 = .ok (.ifCond .ne 17, 3) := by decide +kernel
theorem dL_delivers_559 : decode cL_delivers 559 = .ok (.aload_n 0, 1) := by decide +kernel
theorem dL_delivers_560 : decode cL_delivers 560 = .ok (.iload_n 1, 1) := by decide +kernel
theorem dL_delivers_561 : decode cL_delivers 561 = .ok (.invokevirtual 85, 3) := by decide +kernel
theorem dL_delivers_564 : decode cL_delivers 564 = .ok (.iload 9, 2) := by decide +kernel
theorem dL_delivers_566 : decode cL_delivers 566 = .ok (.if_icmp .ne 7, 3) := by decide +kernel
theorem dL_delivers_569 : decode cL_delivers 569 = .ok (.iconst 1, 1) := by decide +kernel
theorem dL_delivers_570 : decode cL_delivers 570 = .ok (.goto 4, 3) := by decide +kernel
theorem dL_delivers_573 : decode cL_delivers 573 = .ok (.iconst 0, 1) := by decide +kernel
theorem dL_delivers_574 : decode cL_delivers 574 = .ok (.istore 16, 2) := by decide +kernel
theorem dL_delivers_576 : decode cL_delivers 576 = .ok (.iload 6, 2) := by decide +kernel
theorem dL_delivers_578 : decode cL_delivers 578 = .ok (.iconst 4, 1) := by decide +kernel
theorem dL_delivers_579 : decode cL_delivers 579 = .ok (.if_icmp .ne 33, 3) := by decide +kernel
theorem dL_delivers_582 : decode cL_delivers 582 = .ok (.iload 14, 2) := by decide +kernel
theorem dL_delivers_584 : decode cL_delivers 584 = .ok (.iconst 1, 1) := by decide +kernel
theorem dL_delivers_585 : decode cL_delivers 585 = .ok (.if_icmp .eq 9, 3) := by decide +kernel
theorem dL_delivers_588 : decode cL_delivers 588 = .ok (.iload 14, 2) := by decide +kernel
theorem dL_delivers_590 : decode cL_delivers 590 = .ok (.iconst 3, 1) := by decide +kernel
theorem dL_delivers_591 : decode cL_delivers 591 = .ok (.if_icmp .ne 17, 3) := by decide +kernel
theorem dL_delivers_594 : decode cL_delivers 594 = .ok (.aload_n 0, 1) := by decide +kernel
theorem dL_delivers_595 : decode cL_delivers 595 = .ok (.iload_n 1, 1) := by decide +kernel
theorem dL_delivers_596 : decode cL_delivers 596 = .ok (.invokevirtual 85, 3) := by decide +kernel
theorem dL_delivers_599 : decode cL_delivers 599 = .ok (.bipush 9, 2) := by decide +kernel
theorem dL_delivers_601 : decode cL_delivers 601 = .ok (.if_icmp .ne 7, 3) := by decide +kernel
theorem dL_delivers_604 : decode cL_delivers 604 = .ok (.iconst 1, 1) := by decide +kernel
theorem dL_delivers_605 : decode cL_delivers 605 = .ok (.goto 76, 3) := by decide +kernel
theorem dL_delivers_608 : decode cL_delivers 608 = .ok (.iconst 0, 1) := by decide +kernel
theorem dL_delivers_609 : decode cL_delivers 609 = .ok (.goto 72, 3) := by decide +kernel
theorem dL_delivers_612 : decode cL_delivers 612 = .ok (.iload 6, 2) := by decide +kernel
theorem dL_delivers_614 : decode cL_delivers 614 = .ok (.iconst 1, 1) := by decide +kernel
theorem dL_delivers_615 : decode cL_delivers 615 = .ok (.if_icmp .ne 23, 3) := by decide +kernel
theorem dL_delivers_618 : decode cL_delivers 618 = .ok (.iload 14, 2) := by decide +kernel
theorem dL_delivers_620 : decode cL_delivers 620 = .ok (.iconst 1, 1) := by decide +kernel
theorem dL_delivers_621 : decode cL_delivers 621 = .ok (.if_icmp .eq 9, 3) := by decide +kernel
theorem dL_delivers_624 : decode cL_delivers 624 = .ok (.iload 14, 2) := by decide +kernel
theorem dL_delivers_626 : decode cL_delivers 626 = .ok (.iconst 3, 1) := by decide +kernel
theorem dL_delivers_627 : decode cL_delivers 627 = .ok (.if_icmp .ne 7, 3) := by decide +kernel
theorem dL_delivers_630 : decode cL_delivers 630 = .ok (.iconst 1, 1) := by decide +kernel
theorem dL_delivers_631 : decode cL_delivers 631 = .ok (.goto 50, 3) := by decide +kernel
theorem dL_delivers_634 : decode cL_delivers 634 = .ok (.iconst 0, 1) := by decide +kernel
theorem dL_delivers_635 : decode cL_delivers 635 = .ok (.goto 46, 3) := by decide +kernel
theorem dL_delivers_638 : decode cL_delivers 638 = .ok (.iload 6, 2) := by decide +kernel
theorem dL_delivers_640 : decode cL_delivers 640 = .ok (.iconst 2, 1) := by decide +kernel
theorem dL_delivers_641 : decode cL_delivers 641 = .ok (.if_icmp .ne 23, 3) := by decide +kernel
theorem dL_delivers_644 : decode cL_delivers 644 = .ok (.iload 14, 2) := by decide +kernel
theorem dL_delivers_646 : decode cL_delivers 646 = .ok (.iconst 2, 1) := by decide +kernel
theorem dL_delivers_647 : decode cL_delivers 647 = .ok (.if_icmp .eq 9, 3) := by decide +kernel
theorem dL_delivers_650 : decode cL_delivers 650 = .ok (.iload 14, 2) := by decide +kernel
theorem dL_delivers_652 : decode cL_delivers 652 = .ok (.iconst 4, 1) := by decide +kernel
theorem dL_delivers_653 : decode cL_delivers 653 = .ok (.if_icmp .ne 7, 3) := by decide +kernel
theorem dL_delivers_656 : decode cL_delivers 656 = .ok (.iconst 1, 1) := by decide +kernel
theorem dL_delivers_657 : decode cL_delivers 657 = .ok (.goto 24, 3) := by decide +kernel
theorem dL_delivers_660 : decode cL_delivers 660 = .ok (.iconst 0, 1) := by decide +kernel
theorem dL_delivers_661 : decode cL_delivers 661 = .ok (.goto 20, 3) := by decide +kernel
theorem dL_delivers_664 : decode cL_delivers 664 = .ok (.iload 14, 2) := by decide +kernel
theorem dL_delivers_666 : decode cL_delivers 666 = .ok (.iconst 1, 1) := by decide +kernel
theorem dL_delivers_667 : decode cL_delivers 667 = .ok (.if_icmp .eq 9, 3) := by decide +kernel
theorem dL_delivers_670 : decode cL_delivers 670 = .ok (.iload 14, 2) := by decide +kernel
theorem dL_delivers_672 : decode cL_delivers 672 = .ok (.iconst 3, 1) := by decide +kernel
theorem dL_delivers_673 : decode cL_delivers 673 = .ok (.if_icmp .ne 7, 3) := by decide +kernel
theorem dL_delivers_676 : decode cL_delivers 676 = .ok (.iconst 1, 1) := by decide +kernel
theorem dL_delivers_677 : decode cL_delivers 677 = .ok (.goto 4, 3) := by decide +kernel
theorem dL_delivers_680 : decode cL_delivers 680 = .ok (.iconst 0, 1) := by decide +kernel
theorem dL_delivers_681 : decode cL_delivers 681 = .ok (.istore 17, 2) := by decide +kernel
theorem dL_delivers_683 : decode cL_delivers 683 = .ok (.iload 14, 2) := by decide +kernel
theorem dL_delivers_685 : decode cL_delivers 685 = .ok (.iconst 3, 1) := by decide +kernel
theorem dL_delivers_686 : decode cL_delivers 686 = .ok (.if_icmp .eq 9, 3) := by decide +kernel
theorem dL_delivers_689 : decode cL_delivers 689 = .ok (.iload 14, 2) := by decide +kernel
theorem dL_delivers_691 : decode cL_delivers 691 = .ok (.iconst 4, 1) := by decide +kernel
theorem dL_delivers_692 : decode cL_delivers 692 = .ok (.if_icmp .ne 15, 3) := by decide +kernel
theorem dL_delivers_695 : decode cL_delivers 695 = .ok (.iload 6, 2) := by decide +kernel
theorem dL_delivers_697 : decode cL_delivers 697 = .ok (.iconst 4, 1) := by decide +kernel
theorem dL_delivers_698 : decode cL_delivers 698 = .ok (.if_icmp .ne 13, 3) := by decide +kernel
theorem dL_delivers_701 : decode cL_delivers 701 = .ok (.iload 14, 2) := by decide +kernel
theorem dL_delivers_703 : decode cL_delivers 703 = .ok (.iconst 4, 1) := by decide +kernel
theorem dL_delivers_704 : decode cL_delivers 704 = .ok (.if_icmp .ne 7, 3) := by decide +kernel
theorem dL_delivers_707 : decode cL_delivers 707 = .ok (.iconst 1, 1) := by decide +kernel
theorem dL_delivers_708 : decode cL_delivers 708 = .ok (.goto 4, 3) := by decide +kernel
theorem dL_delivers_711 : decode cL_delivers 711 = .ok (.iconst 0, 1) := by decide +kernel
theorem dL_delivers_712 : decode cL_delivers 712 = .ok (.istore 18, 2) := by decide +kernel
theorem dL_delivers_714 : decode cL_delivers 714 = .ok (.iconst 0, 1) := by decide +kernel
theorem dL_delivers_715 : decode cL_delivers 715 = .ok (.istore 19, 2) := by decide +kernel
theorem dL_delivers_717 : decode cL_delivers 717 = .ok (.iload 19, 2) := by decide +kernel
theorem dL_delivers_719 : decode cL_delivers 719 = .ok (.iconst 4, 1) := by decide +kernel
theorem dL_delivers_720 : decode cL_delivers 720 = .ok (.if_icmp .ge 95, 3) := by decide +kernel
theorem dL_delivers_723 : decode cL_delivers 723 = .ok (.iload 14, 2) := by decide +kernel
theorem dL_delivers_725 : decode cL_delivers 725 = .ok (.iconst 3, 1) := by decide +kernel
theorem dL_delivers_726 : decode cL_delivers 726 = .ok (.if_icmp .eq 9, 3) := by decide +kernel
theorem dL_delivers_729 : decode cL_delivers 729 = .ok (.iload 14, 2) := by decide +kernel
theorem dL_delivers_731 : decode cL_delivers 731 = .ok (.iconst 4, 1) := by decide +kernel
theorem dL_delivers_732 : decode cL_delivers 732 = .ok (.if_icmp .ne 83, 3) := by decide +kernel
theorem dL_delivers_735 : decode cL_delivers 735 = .ok (.bipush 6, 2) := by decide +kernel
theorem dL_delivers_737 : decode cL_delivers 737 = .ok (.iconst 4, 1) := by decide +kernel
theorem dL_delivers_738 : decode cL_delivers 738 = .ok (.iload_n 1, 1) := by decide +kernel
theorem dL_delivers_739 : decode cL_delivers 739 = .ok (.imul, 1) := by decide +kernel
theorem dL_delivers_740 : decode cL_delivers 740 = .ok (.iload 19, 2) := by decide +kernel
theorem dL_delivers_742 : decode cL_delivers 742 = .ok (.iadd, 1) := by decide +kernel
theorem dL_delivers_743 : decode cL_delivers 743 = .ok (.imul, 1) := by decide +kernel
theorem dL_delivers_744 : decode cL_delivers 744 = .ok (.istore 20, 2) := by decide +kernel
theorem dL_delivers_746 : decode cL_delivers 746 = .ok (.aload_n 0, 1) := by decide +kernel
theorem dL_delivers_747 : decode cL_delivers 747 = .ok (.iload_n 1, 1) := by decide +kernel
theorem dL_delivers_748 : decode cL_delivers 748 = .ok (.iload 19, 2) := by decide +kernel
theorem dL_delivers_750 : decode cL_delivers 750 = .ok (.invokevirtual 99, 3) := by decide +kernel
theorem dL_delivers_753 : decode cL_delivers 753 = .ok (.istore 21, 2) := by decide +kernel
theorem dL_delivers_755 : decode cL_delivers 755 = .ok (.iload 19, 2) := by decide +kernel
theorem dL_delivers_757 : decode cL_delivers 757 = .ok (.ifCond .eq 8, 3) := by decide +kernel
theorem dL_delivers_760 : decode cL_delivers 760 = .ok (.iload 18, 2) := by decide +kernel
theorem dL_delivers_762 : decode cL_delivers 762 = .ok (.ifCond .eq 44, 3) := by decide +kernel
theorem dL_delivers_765 : decode cL_delivers 765 = .ok (.iload 21, 2) := by decide +kernel
theorem dL_delivers_767 : decode cL_delivers 767 = .ok (.iconst (-1), 1) := by decide +kernel
theorem dL_delivers_768 : decode cL_delivers 768 = .ok (.if_icmp .eq 34, 3) := by decide +kernel
theorem dL_delivers_771 : decode cL_delivers 771 = .ok (.aload_n 2, 1) := by decide +kernel
theorem dL_delivers_772 : decode cL_delivers 772 = .ok (.iload 20, 2) := by decide +kernel
theorem dL_delivers_774 : decode cL_delivers 774 = .ok (.iconst 5, 1) := by decide +kernel
theorem dL_delivers_775 : decode cL_delivers 775 = .ok (.iadd, 1) := by decide +kernel
theorem dL_delivers_776 : decode cL_delivers 776 = .ok (.iaload, 1) := by decide +kernel
theorem dL_delivers_777 : decode cL_delivers 777 = .ok (.ifCond .ne 29, 3) := by decide +kernel
theorem dL_delivers_780 : decode cL_delivers 780 = .ok (.iload 21, 2) := by decide +kernel
theorem dL_delivers_782 : decode cL_delivers 782 = .ok (.aload_n 2, 1) := by decide +kernel
theorem dL_delivers_783 : decode cL_delivers 783 = .ok (.iload 20, 2) := by decide +kernel
theorem dL_delivers_785 : decode cL_delivers 785 = .ok (.iconst 3, 1) := by decide +kernel
theorem dL_delivers_786 : decode cL_delivers 786 = .ok (.iadd, 1) := by decide +kernel
theorem dL_delivers_787 : decode cL_delivers 787 = .ok (.iaload, 1) := by decide +kernel
theorem dL_delivers_788 : decode cL_delivers 788 = .ok (.if_icmp .lt 18, 3) := by decide +kernel
theorem dL_delivers_791 : decode cL_delivers 791 = .ok (.iload 21, 2) := by decide +kernel
theorem dL_delivers_793 : decode cL_delivers 793 = .ok (.aload_n 2, 1) := by decide +kernel
theorem dL_delivers_794 : decode cL_delivers 794 = .ok (.iload 20, 2) := by decide +kernel
theorem dL_delivers_796 : decode cL_delivers 796 = .ok (.iconst 4, 1) := by decide +kernel
theorem dL_delivers_797 : decode cL_delivers 797 = .ok (.iadd, 1) := by decide +kernel
theorem dL_delivers_798 : decode cL_delivers 798 = .ok (.iaload, 1) := by decide +kernel
theorem dL_delivers_799 : decode cL_delivers 799 = .ok (.if_icmp .gt 7, 3) := by decide +kernel
theorem dL_delivers_802 : decode cL_delivers 802 = .ok (.iconst 1, 1) := by decide +kernel
theorem dL_delivers_803 : decode cL_delivers 803 = .ok (.goto 4, 3) := by decide +kernel
theorem dL_delivers_806 : decode cL_delivers 806 = .ok (.iconst 0, 1) := by decide +kernel
theorem dL_delivers_807 : decode cL_delivers 807 = .ok (.istore 18, 2) := by decide +kernel
theorem dL_delivers_809 : decode cL_delivers 809 = .ok (.iinc 19 1, 3) := by decide +kernel
theorem dL_delivers_812 : decode cL_delivers 812 = .ok (.goto (-95), 3) := by decide +kernel
theorem dL_delivers_815 : decode cL_delivers 815 = .ok (.iload 13, 2) := by decide +kernel
theorem dL_delivers_817 : decode cL_delivers 817 = .ok (.ifCond .eq 43, 3) := by decide +kernel
theorem dL_delivers_820 : decode cL_delivers 820 = .ok (.iload 16, 2) := by decide +kernel
theorem dL_delivers_822 : decode cL_delivers 822 = .ok (.ifCond .ne 29, 3) := by decide +kernel
theorem dL_delivers_825 : decode cL_delivers 825 = .ok (.iload 17, 2) := by decide +kernel
theorem dL_delivers_827 : decode cL_delivers 827 = .ok (.ifCond .eq 33, 3) := by decide +kernel
theorem dL_delivers_830 : decode cL_delivers 830 = .ok (.iload 6, 2) := by decide +kernel
theorem dL_delivers_832 : decode cL_delivers 832 = .ok (.iconst 4, 1) := by decide +kernel
theorem dL_delivers_833 : decode cL_delivers 833 = .ok (.if_icmp .ne 12, 3) := by decide +kernel
theorem dL_delivers_836 : decode cL_delivers 836 = .ok (.iload 15, 2) := by decide +kernel
theorem dL_delivers_838 : decode cL_delivers 838 = .ok (.iconst 2, 1) := by decide +kernel
theorem dL_delivers_839 : decode cL_delivers 839 = .ok (.if_icmp .gt 21, 3) := by decide +kernel
theorem dL_delivers_842 : decode cL_delivers 842 = .ok (.goto 9, 3) := by decide +kernel
theorem dL_delivers_845 : decode cL_delivers 845 = .ok (.iload 15, 2) := by decide +kernel
theorem dL_delivers_847 : decode cL_delivers 847 = .ok (.iconst 1, 1) := by decide +kernel
theorem dL_delivers_848 : decode cL_delivers 848 = .ok (.if_icmp .gt 12, 3) := by decide +kernel
theorem dL_delivers_851 : decode cL_delivers 851 = .ok (.iload 18, 2) := by decide +kernel
theorem dL_delivers_853 : decode cL_delivers 853 = .ok (.ifCond .eq 7, 3) := by decide +kernel
theorem dL_delivers_856 : decode cL_delivers 856 = .ok (.iconst 1, 1) := by decide +kernel
theorem dL_delivers_857 : decode cL_delivers 857 = .ok (.goto 4, 3) := by decide +kernel
theorem dL_delivers_860 : decode cL_delivers 860 = .ok (.iconst 0, 1) := by decide +kernel
theorem dL_delivers_861 : decode cL_delivers 861 = .ok (.ireturn, 1) := by decide +kernel
