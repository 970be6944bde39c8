set_option maxRecDepth 20000 in
theorem ggL_name_L_begins : GoodIn wsL_name wsL_begins := goodIn_ca (goodIn_ca (goodIn_r _ [4, 5, 6, 7, 8, 9, 10, 11, 12, 13, 14, 15, 16, 17, 18, 19, 20, 21, 22, 23, 24, 25, 26, 27, 28, 29, 30, 31, 32, 33, 34, 35, 36, 37, 38, 39, 40, 41, 42, 43, 44, 45, 46, 47, 48, 49, 50, 51, 52, 53, 54, 55, 56, 57, 58, 59, 60, 61, 62, 63, 64, 65, 66, 67, 68, 69, 70, 71, 72, 73, 74, 75, 76, 77, 78, 79, 80, 81, 82, 83, 84, 85, 86, 87, 88, 89, 90, 91, 92, 93, 94, 95, 96, 97, 98, 99, 100, 101, 102, 103, 104, 105, 106, 107, 108, 109, 110, 111, 112, 113, 114, 115, 116, 117, 118, 119, 120, 121, 122, 123, 124, 125, 126, 127, 128, 129, 130, 131, 132, 133, 134, 135, 136, 137, 138, 139, 140, 141, 142, 143, 144, 145, 146, 147, 148, 149, 150, 151, 152, 153, 154, 155, 156, 157, 158, 159, 160, 161, 162, 163, 164, 165, 166, 167, 168, 169, 170, 171, 172, 173, 174, 175, 176, 177, 178, 179, 180, 181, 182, 183, 184, 185, 186, 187, 188, 189, 190, 191, 192, 193, 194, 195, 196, 197, 198, 199, 200, 201, 202, 203, 204, 205, 206, 207, 208, 209, 210, 211, 212, 213, 214, 215, 216, 217, 218, 219, 220, 221, 222, 223, 224, 225, 226, 227, 228, 229, 230, 231, 232, 233, 234, 235, 236, 237, 238, 239, 240, 241, 242, 243, 244, 245, 246, 247, 248, 249, 250, 251, 252, 253, 254, 255, 256, 257, 258, 259, 260, 261, 262, 263, 264, 265, 266, 267, 268, 269, 270, 271, 272, 273, 274, 275, 276, 277, 278, 279, 280, 281, 282, 283, 284, 285, 286, 287, 288, 289, 290, 291, 292, 293, 294, 295, 296, 297, 298, 299] (by decide +kernel) (by decide +kernel)) (goodIn_sub (fun _ h => List.mem_cons_of_mem _ (List.mem_append_left _ (List.mem_append_right _ h))) (by decide +kernel))) (goodIn_sub (fun _ h => List.mem_cons_of_mem _ (List.mem_append_right _ h)) (by decide +kernel))
set_option maxRecDepth 20000 in
theorem gL_name_L_begins : GoodIn wsL_name (va_wsS RL 65 yL_begins wsL_begins) := goodIn_app (goodIn_of _ (by decide +kernel)) ggL_name_L_begins
theorem dL_name_0 : decode cL_name 0 = .ok (.iload_n 2, 1) := by decide +kernel
theorem dL_name_1 : decode cL_name 1 = .ok (.iconst 3, 1) := by decide +kernel
theorem dL_name_2 : decode cL_name 2 = .ok (.if_icmp .ge 72, 3) := by decide +kernel
theorem dL_name_5 : decode cL_name 5 = .ok (.iload_n 2, 1) := by decide +kernel
theorem dL_name_6 : decode cL_name 6 = .ok (.ifCond .ne 24, 3) := by decide +kernel
theorem dL_name_9 : decode cL_name 9 = .ok (.aload_n 0, 1) := by decide +kernel
theorem dL_name_10 : decode cL_name 10 = .ok (.iload_n 1, 1) := by decide +kernel
theorem dL_name_11 : decode cL_name 11 = .ok (.bipush 99, 2) := by decide +kernel
theorem dL_name_13 : decode cL_name 13 = .ok (.bipush 108, 2) := by decide +kernel
theorem dL_name_15 : decode cL_name 15 = .ok (.bipush 111, 2) := by decide +kernel
theorem dL_name_17 : decode cL_name 17 = .ok (.bipush 115, 2) := by decide +kernel
theorem dL_name_19 : decode cL_name 19 = .ok (.bipush 101, 2) := by decide +kernel
theorem dL_name_21 : decode cL_name 21 = .ok (.bipush 100, 2) := by decide +kernel
theorem dL_name_23 : decode cL_name 23 = .ok (.iconst 0, 1) := by decide +kernel
theorem dL_name_24 : decode cL_name 24 = .ok (.invokestatic 65, 3) := by decide +kernel
theorem dL_name_27 : decode cL_name 27 = .ok (.goto 46, 3) := by decide +kernel
theorem dL_name_30 : decode cL_name 30 = .ok (.iload_n 2, 1) := by decide +kernel
theorem dL_name_31 : decode cL_name 31 = .ok (.iconst 1, 1) := by decide +kernel
theorem dL_name_32 : decode cL_name 32 = .ok (.if_icmp .ne 24, 3) := by decide +kernel
theorem dL_name_35 : decode cL_name 35 = .ok (.aload_n 0, 1) := by decide +kernel
theorem dL_name_36 : decode cL_name 36 = .ok (.iload_n 1, 1) := by decide +kernel
theorem dL_name_37 : decode cL_name 37 = .ok (.bipush 97, 2) := by decide +kernel
theorem dL_name_39 : decode cL_name 39 = .ok (.bipush 115, 2) := by decide +kernel
theorem dL_name_41 : decode cL_name 41 = .ok (.bipush 107, 2) := by decide +kernel
theorem dL_name_43 : decode cL_name 43 = .ok (.bipush 105, 2) := by decide +kernel
theorem dL_name_45 : decode cL_name 45 = .ok (.bipush 110, 2) := by decide +kernel
theorem dL_name_47 : decode cL_name 47 = .ok (.bipush 103, 2) := by decide +kernel
theorem dL_name_49 : decode cL_name 49 = .ok (.iconst 0, 1) := by decide +kernel
theorem dL_name_50 : decode cL_name 50 = .ok (.invokestatic 65, 3) := by decide +kernel
theorem dL_name_53 : decode cL_name 53 = .ok (.goto 20, 3) := by decide +kernel
theorem dL_name_56 : decode cL_name 56 = .ok (.aload_n 0, 1) := by decide +kernel
theorem dL_name_57 : decode cL_name 57 = .ok (.iload_n 1, 1) := by decide +kernel
theorem dL_name_58 : decode cL_name 58 = .ok (.bipush 104, 2) := by decide +kernel
theorem dL_name_60 : decode cL_name 60 = .ok (.bipush 101, 2) := by decide +kernel
theorem dL_name_62 : decode cL_name 62 = .ok (.bipush 97, 2) := by decide +kernel
theorem dL_name_64 : decode cL_name 64 = .ok (.bipush 114, 2) := by decide +kernel
theorem dL_name_66 : decode cL_name 66 = .ok (.bipush 100, 2) := by decide +kernel
theorem dL_name_68 : decode cL_name 68 = .ok (.iconst 0, 1) := by decide +kernel
theorem dL_name_69 : decode cL_name 69 = .ok (.iconst 0, 1) := by decide +kernel
theorem dL_name_70 : decode cL_name 70 = .ok (.invokestatic 65, 3) := by decide +kernel
theorem dL_name_73 : decode cL_name 73 = .ok (.ireturn, 1) := by decide +kernel
theorem dL_name_74 : decode cL_name 74 = .ok (.iload_n 2, 1) := by decide +kernel
theorem dL_name_75 : decode cL_name 75 = .ok (.iconst 5, 1) := by decide +kernel
theorem dL_name_76 : decode cL_name 76 = .ok (.if_icmp .ge 46, 3) := by decide +kernel
theorem dL_name_79 : decode cL_name 79 = .ok (.iload_n 2, 1) := by decide +kernel
theorem dL_name_80 : decode cL_name 80 = .ok (.iconst 3, 1) := by decide +kernel
theorem dL_name_81 : decode cL_name 81 = .ok (.if_icmp .ne 22, 3) := by decide +kernel
theorem dL_name_84 : decode cL_name 84 = .ok (.aload_n 0, 1) := by decide +kernel
theorem dL_name_85 : decode cL_name 85 = .ok (.iload_n 1, 1) := by decide +kernel
theorem dL_name_86 : decode cL_name 86 = .ok (.bipush 116, 2) := by decide +kernel
theorem dL_name_88 : decode cL_name 88 = .ok (.bipush 111, 2) := by decide +kernel
theorem dL_name_90 : decode cL_name 90 = .ok (.bipush 108, 2) := by decide +kernel
theorem dL_name_92 : decode cL_name 92 = .ok (.bipush 100, 2) := by decide +kernel
theorem dL_name_94 : decode cL_name 94 = .ok (.iconst 0, 1) := by decide +kernel
theorem dL_name_95 : decode cL_name 95 = .ok (.iconst 0, 1) := by decide +kernel
theorem dL_name_96 : decode cL_name 96 = .ok (.iconst 0, 1) := by decide +kernel
theorem dL_name_97 : decode cL_name 97 = .ok (.invokestatic 65, 3) := by decide +kernel
theorem dL_name_100 : decode cL_name 100 = .ok (.goto 21, 3) := by decide +kernel
theorem dL_name_103 : decode cL_name 103 = .ok (.aload_n 0, 1) := by decide +kernel
theorem dL_name_104 : decode cL_name 104 = .ok (.iload_n 1, 1) := by decide +kernel
theorem dL_name_105 : decode cL_name 105 = .ok (.bipush 111, 2) := by decide +kernel
theorem dL_name_107 : decode cL_name 107 = .ok (.bipush 112, 2) := by decide +kernel
theorem dL_name_109 : decode cL_name 109 = .ok (.bipush 101, 2) := by decide +kernel
theorem dL_name_111 : decode cL_name 111 = .ok (.bipush 110, 2) := by decide +kernel
theorem dL_name_113 : decode cL_name 113 = .ok (.bipush 101, 2) := by decide +kernel
theorem dL_name_115 : decode cL_name 115 = .ok (.bipush 100, 2) := by decide +kernel
theorem dL_name_117 : decode cL_name 117 = .ok (.iconst 0, 1) := by decide +kernel
theorem dL_name_118 : decode cL_name 118 = .ok (.invokestatic 65, 3) := by decide +kernel
theorem dL_name_121 : decode cL_name 121 = .ok (.ireturn, 1) := by decide +kernel
theorem dL_name_122 : decode cL_name 122 = .ok (.iload_n 2, 1) := by decide +kernel
theorem dL_name_123 : decode cL_name 123 = .ok (.iconst 5, 1) := by decide +kernel
theorem dL_name_124 : decode cL_name 124 = .ok (.if_icmp .ne 25, 3) := by decide +kernel
theorem dL_name_127 : decode cL_name 127 = .ok (.aload_n 0, 1) := by decide +kernel
theorem dL_name_128 : decode cL_name 128 = .ok (.iload_n 1, 1) := by decide +kernel
theorem dL_name_129 : decode cL_name 129 = .ok (.bipush 99, 2) := by decide +kernel
theorem dL_name_131 : decode cL_name 131 = .ok (.bipush 108, 2) := by decide +kernel
theorem dL_name_133 : decode cL_name 133 = .ok (.bipush 111, 2) := by decide +kernel
theorem dL_name_135 : decode cL_name 135 = .ok (.bipush 115, 2) := by decide +kernel
theorem dL_name_137 : decode cL_name 137 = .ok (.bipush 105, 2) := by decide +kernel
theorem dL_name_139 : decode cL_name 139 = .ok (.bipush 110, 2) := by decide +kernel
theorem dL_name_141 : decode cL_name 141 = .ok (.bipush 103, 2) := by decide +kernel
theorem dL_name_143 : decode cL_name 143 = .ok (.invokestatic 65, 3) := by decide +kernel
theorem dL_name_146 : decode cL_name 146 = .ok (.goto 48, 3) := by decide +kernel
theorem dL_name_149 : decode cL_name 149 = .ok (.iload_n 2, 1) := by decide +kernel
theorem dL_name_150 : decode cL_name 150 = .ok (.bipush 6, 2) := by decide +kernel
theorem dL_name_152 : decode cL_name 152 = .ok (.if_icmp .ne 24, 3) := by decide +kernel
theorem dL_name_155 : decode cL_name 155 = .ok (.aload_n 0, 1) := by decide +kernel
theorem dL_name_156 : decode cL_name 156 = .ok (.iload_n 1, 1) := by decide +kernel
theorem dL_name_157 : decode cL_name 157 = .ok (.bipush 102, 2) := by decide +kernel
theorem dL_name_159 : decode cL_name 159 = .ok (.bipush 97, 2) := by decide +kernel
theorem dL_name_161 : decode cL_name 161 = .ok (.bipush 105, 2) := by decide +kernel
theorem dL_name_163 : decode cL_name 163 = .ok (.bipush 108, 2) := by decide +kernel
theorem dL_name_165 : decode cL_name 165 = .ok (.bipush 101, 2) := by decide +kernel
theorem dL_name_167 : decode cL_name 167 = .ok (.bipush 100, 2) := by decide +kernel
theorem dL_name_169 : decode cL_name 169 = .ok (.iconst 0, 1) := by decide +kernel
theorem dL_name_170 : decode cL_name 170 = .ok (.invokestatic 65, 3) := by decide +kernel
theorem dL_name_173 : decode cL_name 173 = .ok (.goto 21, 3) := by decide +kernel
theorem dL_name_176 : decode cL_name 176 = .ok (.aload_n 0, 1) := by decide +kernel
theorem dL_name_177 : decode cL_name 177 = .ok (.iload_n 1, 1) := by decide +kernel
theorem dL_name_178 : decode cL_name 178 = .ok (.bipush 108, 2) := by decide +kernel
theorem dL_name_180 : decode cL_name 180 = .ok (.bipush 111, 2) := by decide +kernel
theorem dL_name_182 : decode cL_name 182 = .ok (.bipush 111, 2) := by decide +kernel
theorem dL_name_184 : decode cL_name 184 = .ok (.bipush 112, 2) := by decide +kernel
theorem dL_name_186 : decode cL_name 186 = .ok (.bipush 101, 2) := by decide +kernel
theorem dL_name_188 : decode cL_name 188 = .ok (.bipush 100, 2) := by decide +kernel
theorem dL_name_190 : decode cL_name 190 = .ok (.iconst 0, 1) := by decide +kernel
theorem dL_name_191 : decode cL_name 191 = .ok (.invokestatic 65, 3) := by decide +kernel
theorem dL_name_194 : decode cL_name 194 = .ok (.ireturn, 1) := by decide +kernel
