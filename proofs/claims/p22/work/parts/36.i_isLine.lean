set_option maxRecDepth 20000 in
theorem ggL_isLine_X3_state : GoodIn wsL_isLine wsX3_state := goodIn_ca (goodIn_r _ [5, 6, 7, 8, 4, 9, 10, 11, 12, 13, 14, 15, 16, 17, 290, 291, 292, 293, 294, 295, 296, 297, 298, 299, 300, 301, 302, 303, 304, 305, 306, 307, 308, 309, 310, 311, 312, 313] (by decide +kernel) (by decide +kernel)) (goodIn_sub (fun _ h => List.mem_cons_of_mem _ (List.mem_append_left _ (List.mem_append_right _ h))) (by decide +kernel))
set_option maxRecDepth 20000 in
theorem gL_isLine_X3_state : GoodIn wsL_isLine (wsV RL 69 RX3 yX3_state wsX3_state) := goodIn_app (goodIn_of _ (by decide +kernel)) ggL_isLine_X3_state
set_option maxRecDepth 20000 in
theorem ggL_isLine_L_name : GoodIn wsL_isLine wsL_name := goodIn_ca (goodIn_ca (goodIn_cons (goodIn_one (c := Cond.code yL_name cL_name 3 (some .int)) (List.mem_cons_of_mem _ (List.mem_append_left _ (List.mem_append_left _ (List.mem_append_left _ (List.mem_append_left _ (List.mem_append_left _ (List.mem_append_left _ (List.mem_of_getElem? (i := 20) rfl)))))))) rfl) (goodIn_app (goodIn_app (goodIn_app (goodIn_app (goodIn_r wsL_name_r1 [22, 23, 20, 24, 25, 26, 27, 28, 4, 29, 30, 31, 32, 7, 8, 9, 10, 11, 12, 13, 14, 15, 16, 17] (by decide +kernel) (by decide +kernel)) (goodIn_app (goodIn_r wsL_name_r2 [33, 34, 35, 36, 6, 37, 38, 39, 40, 41, 42, 43, 44, 45, 46, 47, 48, 49, 50, 51, 52, 53, 54, 55] (by decide +kernel) (by decide +kernel)) (goodIn_app (goodIn_r wsL_name_r3 [56, 57, 58, 59, 60, 61, 62, 63, 64, 65, 66, 67, 68, 69, 70, 71, 72, 73, 74, 75, 76, 77, 78, 79] (by decide +kernel) (by decide +kernel)) (goodIn_app (goodIn_r wsL_name_r4 [80, 81, 82, 83, 84, 85, 86, 87, 88, 89, 90, 91, 92, 93, 94, 95, 96, 97, 98, 99, 100, 101, 102, 103] (by decide +kernel) (by decide +kernel)) (goodIn_app (goodIn_r wsL_name_r5 [104, 105, 106, 107, 108, 109, 110, 111, 112, 113, 114, 115, 116, 117, 118, 119, 120, 121, 122, 123, 124, 125, 126, 127] (by decide +kernel) (by decide +kernel)) (goodIn_app (goodIn_r wsL_name_r6 [128, 129, 130, 131, 132, 133, 134, 135, 136, 137, 138, 139, 140, 141, 142, 143, 144, 145, 146, 147, 148, 149, 150, 151] (by decide +kernel) (by decide +kernel)) (goodIn_app (goodIn_r wsL_name_r7 [152, 153, 154, 155, 156, 157, 158, 159, 160, 161, 162, 163, 164, 165, 166, 167, 168, 169, 170, 171, 172, 173, 174, 175] (by decide +kernel) (by decide +kernel)) (goodIn_app (goodIn_r wsL_name_r8 [176, 177, 178, 179, 180, 181, 182, 183, 184, 185, 186, 187, 188, 189, 190, 191, 192, 193, 194, 195, 196, 197, 198, 199] (by decide +kernel) (by decide +kernel)) (goodIn_app (goodIn_r wsL_name_r9 [200, 201, 202, 203, 204, 205, 206, 207, 208, 209, 210, 211, 212, 213, 214, 215, 216, 217, 218, 219, 220, 221, 222, 223] (by decide +kernel) (by decide +kernel)) (goodIn_app (goodIn_r wsL_name_r10 [224, 225, 226, 227, 228, 229, 230, 231, 232, 233, 234, 235, 236, 237, 238, 239, 240, 241, 242, 243, 244, 245, 246, 247] (by decide +kernel) (by decide +kernel)) (goodIn_app (goodIn_r wsL_name_r11 [248, 249, 250, 251, 252, 253, 254, 255, 256, 257, 258, 259, 260, 261, 262, 263, 264, 265, 266, 267, 268, 269, 270, 271] (by decide +kernel) (by decide +kernel)) (goodIn_r wsL_name_r12 [272, 273, 274, 275, 276, 277, 278] (by decide +kernel) (by decide +kernel))))))))))))) (goodIn_r wsX30 [306, 307, 308, 309, 310, 311, 312, 313] (by decide +kernel) (by decide +kernel))) (goodIn_r wsX00 [290, 291, 292, 293, 294, 295, 296, 297, 298, 299, 300, 301, 302, 303, 304, 305] (by decide +kernel) (by decide +kernel))) (goodIn_r wsJ40 [314, 315, 316, 317] (by decide +kernel) (by decide +kernel)))) (goodIn_sub (fun _ h => List.mem_cons_of_mem _ (List.mem_append_right _ h)) (by decide +kernel))) (goodIn_sub (fun _ h => List.mem_cons_of_mem _ (List.mem_append_left _ (List.mem_append_right _ h))) (by decide +kernel))
set_option maxRecDepth 20000 in
theorem gL_isLine_L_name : GoodIn wsL_isLine (va_wsS RL 72 yL_name wsL_name) := goodIn_app (goodIn_of _ (by decide +kernel)) ggL_isLine_L_name
set_option maxRecDepth 20000 in
theorem ggL_isLine_X3_asked : GoodIn wsL_isLine wsX3_asked := goodIn_ca (goodIn_r _ [282, 37, 7, 8, 4, 9, 10, 11, 283, 284, 285, 12, 13, 14, 15, 16, 17, 290, 291, 292, 293, 294, 295, 296, 297, 298, 299, 300, 301, 302, 303, 304, 305, 306, 307, 308, 309, 310, 311, 312, 313] (by decide +kernel) (by decide +kernel)) (goodIn_sub (fun _ h => List.mem_cons_of_mem _ (List.mem_append_left _ (List.mem_append_right _ h))) (by decide +kernel))
set_option maxRecDepth 20000 in
theorem gL_isLine_X3_asked : GoodIn wsL_isLine (wsV RL 75 RX3 yX3_asked wsX3_asked) := goodIn_app (goodIn_of _ (by decide +kernel)) ggL_isLine_X3_asked
set_option maxRecDepth 20000 in
theorem ggL_isLine_X3_lineLength : GoodIn wsL_isLine wsX3_lineLength := goodIn_ca (goodIn_r _ [289, 32, 7, 8, 4, 9, 10, 11, 12, 13, 14, 15, 16, 17, 33, 34, 35, 36, 6, 37, 38, 39, 40, 41, 42, 43, 44, 45, 46, 47, 48, 49, 50, 51, 52, 53, 54, 55, 56, 57, 58, 59, 60, 61, 62, 63, 64, 65, 66, 67, 68, 69, 70, 71, 72, 73, 74, 75, 76, 77, 78, 79, 80, 81, 82, 83, 84, 85, 86, 87, 88, 89, 90, 91, 92, 93, 94, 95, 96, 97, 98, 99, 100, 101, 102, 103, 104, 105, 106, 107, 108, 109, 110, 111, 112, 113, 114, 115, 116, 117, 118, 119, 120, 121, 122, 123, 124, 125, 126, 127, 128, 129, 130, 131, 132, 133, 134, 135, 136, 137, 138, 139, 140, 141, 142, 143, 144, 145, 146, 147, 148, 149, 150, 151, 152, 153, 154, 155, 156, 157, 158, 159, 160, 161, 162, 163, 164, 165, 166, 167, 168, 169, 170, 171, 172, 173, 174, 175, 176, 177, 178, 179, 180, 181, 182, 183, 184, 185, 186, 187, 188, 189, 190, 191, 192, 193, 194, 195, 196, 197, 198, 199, 200, 201, 202, 203, 204, 205, 206, 207, 208, 209, 210, 211, 212, 213, 214, 215, 216, 217, 218, 219, 220, 221, 222, 223, 224, 225, 226, 227, 228, 229, 230, 231, 232, 233, 234, 235, 236, 237, 238, 239, 240, 241, 242, 243, 244, 245, 246, 247, 248, 249, 250, 251, 252, 253, 254, 255, 256, 257, 258, 259, 260, 261, 262, 263, 264, 265, 306, 307, 308, 309, 310, 311, 312, 313, 290, 291, 292, 293, 294, 295, 296, 297, 298, 299, 300, 301, 302, 303, 304, 305, 314, 315, 316, 317] (by decide +kernel) (by decide +kernel)) (goodIn_sub (fun _ h => List.mem_cons_of_mem _ (List.mem_append_left _ (List.mem_append_right _ h))) (by decide +kernel))
set_option maxRecDepth 20000 in
theorem gL_isLine_X3_lineLength : GoodIn wsL_isLine (wsV RL 78 RX3 yX3_lineLength wsX3_lineLength) := goodIn_app (goodIn_of _ (by decide +kernel)) ggL_isLine_X3_lineLength
set_option maxRecDepth 20000 in
theorem ggL_isLine_X3_lineChar : GoodIn wsL_isLine wsX3_lineChar := goodIn_ca (goodIn_ca (goodIn_r _ [29, 30, 31, 32, 7, 8, 4, 9, 10, 11, 12, 13, 14, 15, 16, 17, 33, 34, 35, 36, 6, 37, 38, 39, 40, 41, 42, 43, 44, 45, 46, 47, 48, 49, 50, 51, 52, 53, 54, 55, 56, 57, 58, 59, 60, 61, 62, 63, 64, 65, 66, 67, 68, 69, 70, 71, 72, 73, 74, 75, 76, 77, 78, 79, 80, 81, 82, 83, 84, 85, 86, 87, 88, 89, 90, 91, 92, 93, 94, 95, 96, 97, 98, 99, 100, 101, 102, 103, 104, 105, 106, 107, 108, 109, 110, 111, 112, 113, 114, 115, 116, 117, 118, 119, 120, 121, 122, 123, 124, 125, 126, 127, 128, 129, 130, 131, 132, 133, 134, 135, 136, 137, 138, 139, 140, 141, 142, 143, 144, 145, 146, 147, 148, 149, 150, 151, 152, 153, 154, 155, 156, 157, 158, 159, 160, 161, 162, 163, 164, 165, 166, 167, 168, 169, 170, 171, 172, 173, 174, 175, 176, 177, 178, 179, 180, 181, 182, 183, 184, 185, 186, 187, 188, 189, 190, 191, 192, 193, 194, 195, 196, 197, 198, 199, 200, 201, 202, 203, 204, 205, 206, 207, 208, 209, 210, 211, 212, 213, 214, 215, 216, 217, 218, 219, 220, 221, 222, 223, 224, 225, 226, 227, 228, 229, 230, 231, 232, 233, 234, 235, 236, 237, 238, 239, 240, 241, 242, 243, 244, 245, 246, 247, 248, 249, 250, 251, 252, 253, 254, 255, 256, 257, 258, 259, 260, 261, 262, 263, 264, 265, 266, 267, 268, 269, 270, 271, 272, 273, 274, 275, 276, 277, 278, 306, 307, 308, 309, 310, 311, 312, 313, 290, 291, 292, 293, 294, 295, 296, 297, 298, 299, 300, 301, 302, 303, 304, 305, 314, 315, 316, 317] (by decide +kernel) (by decide +kernel)) (goodIn_sub (fun _ h => List.mem_cons_of_mem _ (List.mem_append_right _ h)) (by decide +kernel))) (goodIn_sub (fun _ h => List.mem_cons_of_mem _ (List.mem_append_left _ (List.mem_append_right _ h))) (by decide +kernel))
set_option maxRecDepth 20000 in
theorem gL_isLine_X3_lineChar : GoodIn wsL_isLine (wsV RL 61 RX3 yX3_lineChar wsX3_lineChar) := goodIn_app (goodIn_of _ (by decide +kernel)) ggL_isLine_X3_lineChar
theorem dL_isLine_0 : decode cL_isLine 0 = .ok (.aload_n 0, 1) := by decide +kernel
theorem dL_isLine_1 : decode cL_isLine 1 = .ok (.iload_n 1, 1) := by decide +kernel
theorem dL_isLine_2 : decode cL_isLine 2 = .ok (.aload_n 0, 1) := by decide +kernel
theorem dL_isLine_3 : decode cL_isLine 3 = .ok (.iload_n 1, 1) := by decide +kernel
theorem dL_isLine_4 : decode cL_isLine 4 = .ok (.invokevirtual 69, 3) := by decide +kernel
theorem dL_isLine_7 : decode cL_isLine 7 = .ok (.invokestatic 72, 3) := by decide +kernel
theorem dL_isLine_10 : decode cL_isLine 10 = .ok (.istore_n 2, 1) := by decide +kernel
theorem dL_isLine_11 : decode cL_isLine 11 = .ok (.iload_n 2, 1) := by decide +kernel
theorem dL_isLine_12 : decode cL_isLine 12 = .ok (.ifCond .le 7, 3) := by decide +kernel
theorem dL_isLine_15 : decode cL_isLine 15 = .ok (.iconst 1, 1) := by decide +kernel
theorem dL_isLine_16 : decode cL_isLine 16 = .ok (.goto 4, 3) := by decide +kernel
theorem dL_isLine_19 : decode cL_isLine 19 = .ok (.iconst 0, 1) := by decide +kernel
theorem dL_isLine_20 : decode cL_isLine 20 = .ok (.istore_n 3, 1) := by decide +kernel
theorem dL_isLine_21 : decode cL_isLine 21 = .ok (.iconst 0, 1) := by decide +kernel
theorem dL_isLine_22 : decode cL_isLine 22 = .ok (.istore 4, 2) := by decide +kernel
theorem dL_isLine_24 : decode cL_isLine 24 = .ok (.iload 4, 2) := by decide +kernel
theorem dL_isLine_26 : decode cL_isLine 26 = .ok (.iconst 4, 1) := by decide +kernel
theorem dL_isLine_27 : decode cL_isLine 27 = .ok (.if_icmp .ge 158, 3) := by decide +kernel
theorem dL_isLine_30 : decode cL_isLine 30 = .ok (.iload_n 3, 1) := by decide +kernel
theorem dL_isLine_31 : decode cL_isLine 31 = .ok (.ifCond .eq 154, 3) := by decide +kernel
theorem dL_isLine_34 : decode cL_isLine 34 = .ok (.aload_n 0, 1) := by decide +kernel
theorem dL_isLine_35 : decode cL_isLine 35 = .ok (.iload_n 1, 1) := by decide +kernel
theorem dL_isLine_36 : decode cL_isLine 36 = .ok (.iload 4, 2) := by decide +kernel
theorem dL_isLine_38 : decode cL_isLine 38 = .ok (.invokevirtual 75, 3) := by decide +kernel
theorem dL_isLine_41 : decode cL_isLine 41 = .ok (.istore 5, 2) := by decide +kernel
theorem dL_isLine_43 : decode cL_isLine 43 = .ok (.iload 5, 2) := by decide +kernel
theorem dL_isLine_45 : decode cL_isLine 45 = .ok (.ifCond .lt 134, 3) := by decide +kernel
theorem dL_isLine_48 : decode cL_isLine 48 = .ok (.aload_n 0, 1) := by decide +kernel
theorem dL_isLine_49 : decode cL_isLine 49 = .ok (.iload_n 1, 1) := by decide +kernel
theorem dL_isLine_50 : decode cL_isLine 50 = .ok (.invokevirtual 78, 3) := by decide +kernel
theorem dL_isLine_53 : decode cL_isLine 53 = .ok (.iload_n 2, 1) := by decide +kernel
theorem dL_isLine_54 : decode cL_isLine 54 = .ok (.iconst 3, 1) := by decide +kernel
theorem dL_isLine_55 : decode cL_isLine 55 = .ok (.iadd, 1) := by decide +kernel
theorem dL_isLine_56 : decode cL_isLine 56 = .ok (.if_icmp .lt 34, 3) := by decide +kernel
theorem dL_isLine_59 : decode cL_isLine 59 = .ok (.aload_n 0, 1) := by decide +kernel
theorem dL_isLine_60 : decode cL_isLine 60 = .ok (.iload_n 1, 1) := by decide +kernel
theorem dL_isLine_61 : decode cL_isLine 61 = .ok (.iload_n 2, 1) := by decide +kernel
theorem dL_isLine_62 : decode cL_isLine 62 = .ok (.invokevirtual 61, 3) := by decide +kernel
theorem dL_isLine_65 : decode cL_isLine 65 = .ok (.bipush 32, 2) := by decide +kernel
theorem dL_isLine_67 : decode cL_isLine 67 = .ok (.if_icmp .ne 23, 3) := by decide +kernel
theorem dL_isLine_70 : decode cL_isLine 70 = .ok (.aload_n 0, 1) := by decide +kernel
theorem dL_isLine_71 : decode cL_isLine 71 = .ok (.iload_n 1, 1) := by decide +kernel
theorem dL_isLine_72 : decode cL_isLine 72 = .ok (.iload_n 2, 1) := by decide +kernel
theorem dL_isLine_73 : decode cL_isLine 73 = .ok (.iconst 1, 1) := by decide +kernel
theorem dL_isLine_74 : decode cL_isLine 74 = .ok (.iadd, 1) := by decide +kernel
theorem dL_isLine_75 : decode cL_isLine 75 = .ok (.invokevirtual 61, 3) := by decide +kernel
theorem dL_isLine_78 : decode cL_isLine 78 = .ok (.bipush 97, 2) := by decide +kernel
theorem dL_isLine_80 : decode cL_isLine 80 = .ok (.iload 4, 2) := by decide +kernel
theorem dL_isLine_82 : decode cL_isLine 82 = .ok (.iadd, 1) := by decide +kernel
theorem dL_isLine_83 : decode cL_isLine 83 = .ok (.if_icmp .ne 7, 3) := by decide +kernel
theorem dL_isLine_86 : decode cL_isLine 86 = .ok (.iconst 1, 1) := by decide +kernel
theorem dL_isLine_87 : decode cL_isLine 87 = .ok (.goto 4, 3) := by decide +kernel
theorem dL_isLine_90 : decode cL_isLine 90 = .ok (.iconst 0, 1) := by decide +kernel
theorem dL_isLine_91 : decode cL_isLine 91 = .ok (.istore_n 3, 1) := by decide +kernel
theorem dL_isLine_92 : decode cL_isLine 92 = .ok (.iinc 2 2, 3) := by decide +kernel
theorem dL_isLine_95 : decode cL_isLine 95 = .ok (.iload 5, 2) := by decide +kernel
theorem dL_isLine_97 : decode cL_isLine 97 = .ok (.bipush 99, 2) := by decide +kernel
theorem dL_isLine_99 : decode cL_isLine 99 = .ok (.if_icmp .le 8, 3) := by decide +kernel
theorem dL_isLine_102 : decode cL_isLine 102 = .ok (.bipush 100, 2) := by decide +kernel
theorem dL_isLine_104 : decode cL_isLine 104 = .ok (.goto 16, 3) := by decide +kernel
theorem dL_isLine_107 : decode cL_isLine 107 = .ok (.iload 5, 2) := by decide +kernel
theorem dL_isLine_109 : decode cL_isLine 109 = .ok (.bipush 9, 2) := by decide +kernel
theorem dL_isLine_111 : decode cL_isLine 111 = .ok (.if_icmp .le 8, 3) := by decide +kernel
theorem dL_isLine_114 : decode cL_isLine 114 = .ok (.bipush 10, 2) := by decide +kernel
theorem dL_isLine_116 : decode cL_isLine 116 = .ok (.goto 4, 3) := by decide +kernel
theorem dL_isLine_119 : decode cL_isLine 119 = .ok (.iconst 1, 1) := by decide +kernel
theorem dL_isLine_120 : decode cL_isLine 120 = .ok (.istore 6, 2) := by decide +kernel
theorem dL_isLine_122 : decode cL_isLine 122 = .ok (.iload 6, 2) := by decide +kernel
theorem dL_isLine_124 : decode cL_isLine 124 = .ok (.ifCond .le 55, 3) := by decide +kernel
theorem dL_isLine_127 : decode cL_isLine 127 = .ok (.iload_n 3, 1) := by decide +kernel
theorem dL_isLine_128 : decode cL_isLine 128 = .ok (.ifCond .eq 51, 3) := by decide +kernel
theorem dL_isLine_131 : decode cL_isLine 131 = .ok (.iload_n 2, 1) := by decide +kernel
theorem dL_isLine_132 : decode cL_isLine 132 = .ok (.aload_n 0, 1) := by decide +kernel
theorem dL_isLine_133 : decode cL_isLine 133 = .ok (.iload_n 1, 1) := by decide +kernel
theorem dL_isLine_134 : decode cL_isLine 134 = .ok (.invokevirtual 78, 3) := by decide +kernel
theorem dL_isLine_137 : decode cL_isLine 137 = .ok (.if_icmp .ge 27, 3) := by decide +kernel
theorem dL_isLine_140 : decode cL_isLine 140 = .ok (.aload_n 0, 1) := by decide +kernel
theorem dL_isLine_141 : decode cL_isLine 141 = .ok (.iload_n 1, 1) := by decide +kernel
theorem dL_isLine_142 : decode cL_isLine 142 = .ok (.iload_n 2, 1) := by decide +kernel
theorem dL_isLine_143 : decode cL_isLine 143 = .ok (.invokevirtual 61, 3) := by decide +kernel
theorem dL_isLine_146 : decode cL_isLine 146 = .ok (.bipush 48, 2) := by decide +kernel
theorem dL_isLine_148 : decode cL_isLine 148 = .ok (.iload 5, 2) := by decide +kernel
theorem dL_isLine_150 : decode cL_isLine 150 = .ok (.iload 6, 2) := by decide +kernel
theorem dL_isLine_152 : decode cL_isLine 152 = .ok (.idiv, 1) := by decide +kernel
theorem dL_isLine_153 : decode cL_isLine 153 = .ok (.bipush 10, 2) := by decide +kernel
theorem dL_isLine_155 : decode cL_isLine 155 = .ok (.irem, 1) := by decide +kernel
theorem dL_isLine_156 : decode cL_isLine 156 = .ok (.iadd, 1) := by decide +kernel
theorem dL_isLine_157 : decode cL_isLine 157 = .ok (.if_icmp .ne 7, 3) := by decide +kernel
theorem dL_isLine_160 : decode cL_isLine 160 = .ok (.iconst 1, 1) := by decide +kernel
theorem dL_isLine_161 : decode cL_isLine 161 = .ok (.goto 4, 3) := by decide +kernel
theorem dL_isLine_164 : decode cL_isLine 164 = .ok (.iconst 0, 1) := by decide +kernel
theorem dL_isLine_165 : decode cL_isLine 165 = .ok (.istore_n 3, 1) := by decide +kernel
theorem dL_isLine_166 : decode cL_isLine 166 = .ok (.iinc 2 1, 3) := by decide +kernel
theorem dL_isLine_169 : decode cL_isLine 169 = .ok (.iload 6, 2) := by decide +kernel
theorem dL_isLine_171 : decode cL_isLine 171 = .ok (.bipush 10, 2) := by decide +kernel
theorem dL_isLine_173 : decode cL_isLine 173 = .ok (.idiv, 1) := by decide +kernel
theorem dL_isLine_174 : decode cL_isLine 174 = .ok (.istore 6, 2) := by decide +kernel
theorem dL_isLine_176 : decode cL_isLine 176 = .ok (.goto (-54), 3) := by decide +kernel
theorem dL_isLine_179 : decode cL_isLine 179 = .ok (.iinc 4 1, 3) := by decide +kernel
theorem dL_isLine_182 : decode cL_isLine 182 = .ok (.goto (-158), 3) := by decide +kernel
theorem dL_isLine_185 : decode cL_isLine 185 = .ok (.iload_n 3, 1) := by decide +kernel
theorem dL_isLine_186 : decode cL_isLine 186 = .ok (.ifCond .eq 16, 3) := by decide +kernel
theorem dL_isLine_189 : decode cL_isLine 189 = .ok (.aload_n 0, 1) := by decide +kernel
theorem dL_isLine_190 : decode cL_isLine 190 = .ok (.iload_n 1, 1) := by decide +kernel
theorem dL_isLine_191 : decode cL_isLine 191 = .ok (.invokevirtual 78, 3) := by decide +kernel
theorem dL_isLine_194 : decode cL_isLine 194 = .ok (.iload_n 2, 1) := by decide +kernel
theorem dL_isLine_195 : decode cL_isLine 195 = .ok (.if_icmp .ne 7, 3) := by decide +kernel
theorem dL_isLine_198 : decode cL_isLine 198 = .ok (.iconst 1, 1) := by decide +kernel
theorem dL_isLine_199 : decode cL_isLine 199 = .ok (.goto 4, 3) := by decide +kernel
theorem dL_isLine_202 : decode cL_isLine 202 = .ok (.iconst 0, 1) := by decide +kernel
theorem dL_isLine_203 : decode cL_isLine 203 = .ok (.ireturn, 1) := by decide +kernel
