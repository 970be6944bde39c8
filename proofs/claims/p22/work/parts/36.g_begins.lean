set_option maxRecDepth 20000 in
theorem ggL_begins_X3_lineChar : GoodIn wsL_begins wsX3_lineChar := goodIn_ca (goodIn_ca (goodIn_r _ [6, 7, 8, 9, 10, 11, 5, 12, 13, 14, 15, 16, 17, 18, 19, 20, 21, 22, 23, 24, 25, 26, 27, 28, 29, 30, 31, 32, 33, 34, 35, 36, 37, 38, 39, 40, 41, 42, 43, 44, 45, 46, 47, 48, 49, 50, 51, 52, 53, 54, 55, 56, 57, 58, 59, 60, 61, 62, 63, 64, 65, 66, 67, 68, 69, 70, 71, 72, 73, 74, 75, 76, 77, 78, 79, 80, 81, 82, 83, 84, 85, 86, 87, 88, 89, 90, 91, 92, 93, 94, 95, 96, 97, 98, 99, 100, 101, 102, 103, 104, 105, 106, 107, 108, 109, 110, 111, 112, 113, 114, 115, 116, 117, 118, 119, 120, 121, 122, 123, 124, 125, 126, 127, 128, 129, 130, 131, 132, 133, 134, 135, 136, 137, 138, 139, 140, 141, 142, 143, 144, 145, 146, 147, 148, 149, 150, 151, 152, 153, 154, 155, 156, 157, 158, 159, 160, 161, 162, 163, 164, 165, 166, 167, 168, 169, 170, 171, 172, 173, 174, 175, 176, 177, 178, 179, 180, 181, 182, 183, 184, 185, 186, 187, 188, 189, 190, 191, 192, 193, 194, 195, 196, 197, 198, 199, 200, 201, 202, 203, 204, 205, 206, 207, 208, 209, 210, 211, 212, 213, 214, 215, 216, 217, 218, 219, 220, 221, 222, 223, 224, 225, 226, 227, 228, 229, 230, 231, 232, 233, 234, 235, 236, 237, 238, 239, 240, 241, 242, 243, 244, 245, 246, 247, 248, 249, 250, 251, 252, 253, 254, 255, 256, 257, 258, 259, 260, 261, 262, 263, 264, 265, 266, 267, 268, 269, 270, 271, 272, 273, 274, 275, 276, 277, 278, 279, 280, 281, 282, 283, 284, 285, 286, 287, 288, 289, 290, 291, 292, 293, 294, 295] (by decide +kernel) (by decide +kernel)) (goodIn_sub (fun _ h => List.mem_cons_of_mem _ (List.mem_append_left _ (List.mem_append_right _ h))) (by decide +kernel))) (goodIn_sub (fun _ h => List.mem_cons_of_mem _ (List.mem_append_right _ h)) (by decide +kernel))
set_option maxRecDepth 20000 in
theorem gL_begins_X3_lineChar : GoodIn wsL_begins (wsV RL 61 RX3 yX3_lineChar wsX3_lineChar) := goodIn_app (goodIn_of _ (by decide +kernel)) ggL_begins_X3_lineChar
theorem dL_begins_0 : decode cL_begins 0 = .ok (.bipush 7, 2) := by decide +kernel
theorem dL_begins_2 : decode cL_begins 2 = .ok (.newarray .int, 2) := by decide +kernel
theorem dL_begins_4 : decode cL_begins 4 = .ok (.astore 9, 2) := by decide +kernel
theorem dL_begins_6 : decode cL_begins 6 = .ok (.aload 9, 2) := by decide +kernel
theorem dL_begins_8 : decode cL_begins 8 = .ok (.iconst 0, 1) := by decide +kernel
theorem dL_begins_9 : decode cL_begins 9 = .ok (.iload_n 2, 1) := by decide +kernel
theorem dL_begins_10 : decode cL_begins 10 = .ok (.iastore, 1) := by decide +kernel
theorem dL_begins_11 : decode cL_begins 11 = .ok (.aload 9, 2) := by decide +kernel
theorem dL_begins_13 : decode cL_begins 13 = .ok (.iconst 1, 1) := by decide +kernel
theorem dL_begins_14 : decode cL_begins 14 = .ok (.iload_n 3, 1) := by decide +kernel
theorem dL_begins_15 : decode cL_begins 15 = .ok (.iastore, 1) := by decide +kernel
theorem dL_begins_16 : decode cL_begins 16 = .ok (.aload 9, 2) := by decide +kernel
theorem dL_begins_18 : decode cL_begins 18 = .ok (.iconst 2, 1) := by decide +kernel
theorem dL_begins_19 : decode cL_begins 19 = .ok (.iload 4, 2) := by decide +kernel
theorem dL_begins_21 : decode cL_begins 21 = .ok (.iastore, 1) := by decide +kernel
theorem dL_begins_22 : decode cL_begins 22 = .ok (.aload 9, 2) := by decide +kernel
theorem dL_begins_24 : decode cL_begins 24 = .ok (.iconst 3, 1) := by decide +kernel
theorem dL_begins_25 : decode cL_begins 25 = .ok (.iload 5, 2) := by decide +kernel
theorem dL_begins_27 : decode cL_begins 27 = .ok (.iastore, 1) := by decide +kernel
theorem dL_begins_28 : decode cL_begins 28 = .ok (.aload 9, 2) := by decide +kernel
theorem dL_begins_30 : decode cL_begins 30 = .ok (.iconst 4, 1) := by decide +kernel
theorem dL_begins_31 : decode cL_begins 31 = .ok (.iload 6, 2) := by decide +kernel
theorem dL_begins_33 : decode cL_begins 33 = .ok (.iastore, 1) := by decide +kernel
theorem dL_begins_34 : decode cL_begins 34 = .ok (.aload 9, 2) := by decide +kernel
theorem dL_begins_36 : decode cL_begins 36 = .ok (.iconst 5, 1) := by decide +kernel
theorem dL_begins_37 : decode cL_begins 37 = .ok (.iload 7, 2) := by decide +kernel
theorem dL_begins_39 : decode cL_begins 39 = .ok (.iastore, 1) := by decide +kernel
theorem dL_begins_40 : decode cL_begins 40 = .ok (.aload 9, 2) := by decide +kernel
theorem dL_begins_42 : decode cL_begins 42 = .ok (.bipush 6, 2) := by decide +kernel
theorem dL_begins_44 : decode cL_begins 44 = .ok (.iload 8, 2) := by decide +kernel
theorem dL_begins_46 : decode cL_begins 46 = .ok (.iastore, 1) := by decide +kernel
theorem dL_begins_47 : decode cL_begins 47 = .ok (.iconst 0, 1) := by decide +kernel
theorem dL_begins_48 : decode cL_begins 48 = .ok (.istore 10, 2) := by decide +kernel
theorem dL_begins_50 : decode cL_begins 50 = .ok (.iload 10, 2) := by decide +kernel
theorem dL_begins_52 : decode cL_begins 52 = .ok (.bipush 7, 2) := by decide +kernel
theorem dL_begins_54 : decode cL_begins 54 = .ok (.if_icmp .ge 34, 3) := by decide +kernel
theorem dL_begins_57 : decode cL_begins 57 = .ok (.aload 9, 2) := by decide +kernel
theorem dL_begins_59 : decode cL_begins 59 = .ok (.iload 10, 2) := by decide +kernel
theorem dL_begins_61 : decode cL_begins 61 = .ok (.iaload, 1) := by decide +kernel
theorem dL_begins_62 : decode cL_begins 62 = .ok (.ifCond .le 26, 3) := by decide +kernel
theorem dL_begins_65 : decode cL_begins 65 = .ok (.aload_n 0, 1) := by decide +kernel
theorem dL_begins_66 : decode cL_begins 66 = .ok (.iload_n 1, 1) := by decide +kernel
theorem dL_begins_67 : decode cL_begins 67 = .ok (.iload 10, 2) := by decide +kernel
theorem dL_begins_69 : decode cL_begins 69 = .ok (.invokevirtual 61, 3) := by decide +kernel
theorem dL_begins_72 : decode cL_begins 72 = .ok (.aload 9, 2) := by decide +kernel
theorem dL_begins_74 : decode cL_begins 74 = .ok (.iload 10, 2) := by decide +kernel
theorem dL_begins_76 : decode cL_begins 76 = .ok (.iaload, 1) := by decide +kernel
theorem dL_begins_77 : decode cL_begins 77 = .ok (.if_icmp .eq 5, 3) := by decide +kernel
theorem dL_begins_80 : decode cL_begins 80 = .ok (.iconst (-1), 1) := by decide +kernel
theorem dL_begins_81 : decode cL_begins 81 = .ok (.ireturn, 1) := by decide +kernel
theorem dL_begins_82 : decode cL_begins 82 = .ok (.iinc 10 1, 3) := by decide +kernel
theorem dL_begins_85 : decode cL_begins 85 = .ok (.goto (-35), 3) := by decide +kernel
theorem dL_begins_88 : decode cL_begins 88 = .ok (.iload 10, 2) := by decide +kernel
theorem dL_begins_90 : decode cL_begins 90 = .ok (.ireturn, 1) := by decide +kernel
