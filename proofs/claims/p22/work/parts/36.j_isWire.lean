set_option maxRecDepth 20000 in
theorem ggL_isWire_X3_time : GoodIn wsL_isWire wsX3_time := goodIn_r _ [5, 6, 522, 523, 524, 525, 526, 527, 528, 529] (by decide +kernel) (by decide +kernel)
set_option maxRecDepth 20000 in
theorem gL_isWire_X3_time : GoodIn wsL_isWire (wsV RL 81 RX3 yX3_time wsX3_time) := goodIn_app (goodIn_of _ (by decide +kernel)) ggL_isWire_X3_time
set_option maxRecDepth 20000 in
theorem ggL_isWire_X3_state : GoodIn wsL_isWire wsX3_state := goodIn_ca (goodIn_r _ [10, 11, 12, 13, 4, 14, 15, 16, 17, 18, 19, 20, 21, 22, 530, 531, 532, 533, 534, 535, 536, 537, 538, 539, 540, 541, 542, 543, 544, 545, 522, 523, 524, 525, 526, 527, 528, 529] (by decide +kernel) (by decide +kernel)) (goodIn_sub (fun _ h => List.mem_cons_of_mem _ (List.mem_append_left _ (List.mem_append_left _ (List.mem_append_right _ h)))) (by decide +kernel))
set_option maxRecDepth 20000 in
theorem gL_isWire_X3_state : GoodIn wsL_isWire (wsV RL 69 RX3 yX3_state wsX3_state) := goodIn_app (goodIn_of _ (by decide +kernel)) ggL_isWire_X3_state
set_option maxRecDepth 20000 in
theorem ggL_isWire_X3_tries : GoodIn wsL_isWire wsX3_tries := goodIn_ca (goodIn_r _ [26, 27, 12, 13, 4, 14, 15, 16, 17, 18, 19, 20, 21, 22, 530, 531, 532, 533, 534, 535, 536, 537, 538, 539, 540, 541, 542, 543, 544, 545, 522, 523, 524, 525, 526, 527, 528, 529] (by decide +kernel) (by decide +kernel)) (goodIn_sub (fun _ h => List.mem_cons_of_mem _ (List.mem_append_left _ (List.mem_append_left _ (List.mem_append_right _ h)))) (by decide +kernel))
set_option maxRecDepth 20000 in
theorem gL_isWire_X3_tries : GoodIn wsL_isWire (wsV RL 85 RX3 yX3_tries wsX3_tries) := goodIn_app (goodIn_of _ (by decide +kernel)) ggL_isWire_X3_tries
set_option maxRecDepth 20000 in
theorem ggL_isWire_X3_waiting : GoodIn wsL_isWire wsX3_waiting := goodIn_ca (goodIn_r _ [31, 32, 33, 12, 13, 4, 14, 15, 16, 17, 18, 19, 20, 21, 22, 530, 531, 532, 533, 534, 535, 536, 537, 538, 539, 540, 541, 542, 543, 544, 545, 546, 547, 548, 549, 550, 551, 522, 523, 524, 525, 526, 527, 528, 529] (by decide +kernel) (by decide +kernel)) (goodIn_sub (fun _ h => List.mem_cons_of_mem _ (List.mem_append_left _ (List.mem_append_left _ (List.mem_append_right _ h)))) (by decide +kernel))
set_option maxRecDepth 20000 in
theorem gL_isWire_X3_waiting : GoodIn wsL_isWire (wsV RL 88 RX3 yX3_waiting wsX3_waiting) := goodIn_app (goodIn_of _ (by decide +kernel)) ggL_isWire_X3_waiting
set_option maxRecDepth 20000 in
theorem ggL_isWire_L_isLine : GoodIn wsL_isWire wsL_isLine := goodIn_ca (goodIn_ca (goodIn_cons (goodIn_one (c := Cond.code yL_isLine cL_isLine 7 (some .boolean)) (List.mem_cons_of_mem _ (List.mem_append_left _ (List.mem_append_left _ (List.mem_append_left _ (List.mem_append_left _ (List.mem_append_left _ (List.mem_append_left _ (List.mem_append_left _ (List.mem_append_left _ (List.mem_append_right _ (List.mem_append_left _ (List.mem_of_getElem? (i := 12) rfl)))))))))))) rfl) (goodIn_app (goodIn_app (goodIn_app (goodIn_app (goodIn_app (goodIn_r [Cond.methodLink RL 69 yX3_state, Cond.instanceMethod yX3_state, Cond.selects RX3 yX3_state yX3_state, Cond.initialized RX3, Cond.code yX3_state cX3_state 2 (some .int), Cond.fieldLink RX3 95 "OptionWire$End" "state" "I", Cond.methodLink RX3 48 yX3_checkEnd, Cond.static yX3_checkEnd, Cond.code yX3_checkEnd cX3_checkEnd 1 none, Cond.classLink RX3 59 "java/lang/IllegalArgumentException", Cond.initialized "java/lang/IllegalArgumentException", Cond.methodLink RX3 66 yX3_endOf, Cond.instanceMethod yX3_endOf, Cond.selects RX3 yX3_endOf yX3_endOf, Cond.code yX3_endOf cX3_endOf 2 (some (.object "OptionWire$End")), Cond.fieldLink RX3 10 "OptionWire" "firstEnd" "LOptionWire$End;", Cond.fieldLink RX3 16 "OptionWire" "secondEnd" "LOptionWire$End;", Cond.methodLink RL 72 yL_name, Cond.static yL_name, Cond.initialized RL] [7, 8, 9, 4, 10, 11, 12, 13, 14, 15, 16, 17, 18, 19, 20, 21, 22, 38, 39, 36] (by decide +kernel) (by decide +kernel)) (goodIn_app (goodIn_one (c := Cond.code yL_name cL_name 3 (some .int)) (List.mem_cons_of_mem _ (List.mem_append_left _ (List.mem_append_left _ (List.mem_append_left _ (List.mem_append_left _ (List.mem_append_left _ (List.mem_append_left _ (List.mem_append_left _ (List.mem_append_left _ (List.mem_append_right _ (List.mem_append_left _ (List.mem_of_getElem? (i := 15) rfl)))))))))))) rfl) (goodIn_r [Cond.methodLink RL 65 yL_begins, Cond.static yL_begins, Cond.code yL_begins cL_begins 11 (some .int)] [41, 42, 43] (by decide +kernel) (by decide +kernel)))) (goodIn_app (goodIn_r wsL_isLine_r2 [44, 45, 46, 47, 48, 49, 50, 51, 52, 53, 54, 55, 56, 57, 58, 59, 60, 61, 62, 63, 64, 65, 66, 67] (by decide +kernel) (by decide +kernel)) (goodIn_app (goodIn_r wsL_isLine_r3 [68, 69, 70, 71, 72, 73, 74, 75, 76, 77, 78, 79, 80, 81, 82, 83, 84, 85, 86, 87, 88, 89, 90, 91] (by decide +kernel) (by decide +kernel)) (goodIn_app (goodIn_r wsL_isLine_r4 [92, 93, 94, 95, 96, 97, 98, 99, 100, 101, 102, 103, 104, 105, 106, 107, 108, 109, 110, 111, 112, 113, 114, 115] (by decide +kernel) (by decide +kernel)) (goodIn_app (goodIn_r wsL_isLine_r5 [116, 117, 118, 119, 120, 121, 122, 123, 124, 125, 126, 127, 128, 129, 130, 131, 132, 133, 134, 135, 136, 137, 138, 139] (by decide +kernel) (by decide +kernel)) (goodIn_app (goodIn_r wsL_isLine_r6 [140, 141, 142, 143, 144, 145, 146, 147, 148, 149, 150, 151, 152, 153, 154, 155, 156, 157, 158, 159, 160, 161, 162, 163] (by decide +kernel) (by decide +kernel)) (goodIn_app (goodIn_r wsL_isLine_r7 [164, 165, 166, 167, 168, 169, 170, 171, 172, 173, 174, 175, 176, 177, 178, 179, 180, 181, 182, 183, 184, 185, 186, 187] (by decide +kernel) (by decide +kernel)) (goodIn_app (goodIn_r wsL_isLine_r8 [188, 189, 190, 191, 192, 193, 194, 195, 196, 197, 198, 199, 200, 201, 202, 203, 204, 205, 206, 207, 208, 209, 210, 211] (by decide +kernel) (by decide +kernel)) (goodIn_app (goodIn_r wsL_isLine_r9 [212, 213, 214, 215, 216, 217, 218, 219, 220, 221, 222, 223, 224, 225, 226, 227, 228, 229, 230, 231, 232, 233, 234, 235] (by decide +kernel) (by decide +kernel)) (goodIn_app (goodIn_r wsL_isLine_r10 [236, 237, 238, 239, 240, 241, 242, 243, 244, 245, 246, 247, 248, 249, 250, 251, 252, 253, 254, 255, 256, 257, 258, 259] (by decide +kernel) (by decide +kernel)) (goodIn_app (goodIn_r wsL_isLine_r11 [260, 261, 262, 263, 264, 265, 266, 267, 268, 269, 270, 271, 272, 273, 274, 275, 276, 277, 278, 279, 280, 281, 282, 283] (by decide +kernel) (by decide +kernel)) (goodIn_app (goodIn_r wsL_isLine_r12 [284, 285, 286, 287, 288, 289, 290, 291, 292, 293, 294, 295, 296, 297, 298, 299, 300, 301, 302, 303, 304, 305, 306, 307] (by decide +kernel) (by decide +kernel)) (goodIn_r wsL_isLine_r13 [308] (by decide +kernel) (by decide +kernel)))))))))))))) (goodIn_r wsX00 [530, 531, 532, 533, 534, 535, 536, 537, 538, 539, 540, 541, 542, 543, 544, 545] (by decide +kernel) (by decide +kernel))) (goodIn_r wsX30 [522, 523, 524, 525, 526, 527, 528, 529] (by decide +kernel) (by decide +kernel))) (goodIn_r wsJ40 [552, 553, 554, 555] (by decide +kernel) (by decide +kernel)))) (goodIn_sub (fun _ h => List.mem_cons_of_mem _ (List.mem_append_left _ (List.mem_append_left _ (List.mem_append_right _ h)))) (by decide +kernel))) (goodIn_sub (fun _ h => List.mem_cons_of_mem _ (List.mem_append_left _ (List.mem_append_right _ h))) (by decide +kernel))
set_option maxRecDepth 20000 in
theorem gL_isWire_L_isLine : GoodIn wsL_isWire (va_wsS RL 91 yL_isLine wsL_isLine) := goodIn_app (goodIn_of _ (by decide +kernel)) ggL_isWire_L_isLine
set_option maxRecDepth 20000 in
theorem ggL_isWire_L_asks : GoodIn wsL_isWire wsL_asks := goodIn_ca (goodIn_ca (goodIn_ca (goodIn_r _ [311, 312, 313, 314, 315, 316, 4, 317, 15, 16, 318, 319, 320, 12, 13, 14, 302, 303, 304, 321, 322, 323, 17, 18, 19, 20, 21, 22, 324, 325, 326, 327, 328, 329, 330, 331, 332, 333, 334, 335, 336, 36, 337, 338, 339, 340, 341, 342, 343, 344, 345, 346, 347, 348, 349, 350, 351, 352, 353, 354, 355, 11, 27, 356, 357, 56, 358, 359, 360, 361, 362, 363, 364, 365, 366, 367, 368, 369, 370, 371, 372, 32, 373, 374, 375, 376, 377, 378, 379, 380, 381, 382, 383, 384, 385, 386, 387, 388, 389, 390, 391, 392, 393, 394, 395, 396, 397, 398, 399, 400, 401, 402, 403, 404, 405, 406, 407, 408, 409, 410, 411, 412, 413, 414, 49, 50, 33, 415, 416, 417, 418, 419, 420, 421, 422, 423, 424, 425, 426, 427, 428, 429, 430, 431, 432, 433, 434, 435, 436, 437, 438, 439, 440, 441, 442, 443, 444, 445, 446, 447, 448, 449, 450, 451, 452, 453, 454, 455, 456, 457, 458, 459, 460, 461, 462, 463, 464, 465, 466, 467, 468, 469, 470, 88, 89, 90, 471, 472, 107, 108, 473, 474, 475, 476, 477, 478, 479, 480, 481, 482, 483, 484, 485, 486, 487, 488, 489, 490, 491, 492, 493, 494, 495, 496, 497, 498, 499, 500, 501, 502, 503, 504, 505, 506, 507, 508, 509, 510, 511, 512, 513, 530, 531, 532, 533, 534, 535, 536, 537, 538, 539, 540, 541, 542, 543, 544, 545, 522, 523, 524, 525, 526, 527, 528, 529, 546, 547, 548, 549, 550, 551, 556, 557, 558, 559] (by decide +kernel) (by decide +kernel)) (goodIn_sub (fun _ h => List.mem_cons_of_mem _ (List.mem_append_left _ (List.mem_append_left _ (List.mem_append_right _ h)))) (by decide +kernel))) (goodIn_sub (fun _ h => List.mem_cons_of_mem _ (List.mem_append_right _ h)) (by decide +kernel))) (goodIn_sub (fun _ h => List.mem_cons_of_mem _ (List.mem_append_left _ (List.mem_append_right _ h))) (by decide +kernel))
set_option maxRecDepth 20000 in
theorem gL_isWire_L_asks : GoodIn wsL_isWire (va_wsS RL 95 yL_asks wsL_asks) := goodIn_app (goodIn_of _ (by decide +kernel)) ggL_isWire_L_asks
set_option maxRecDepth 20000 in
theorem ggL_isWire_X3_asked : GoodIn wsL_isWire wsX3_asked := goodIn_ca (goodIn_r _ [301, 56, 12, 13, 4, 14, 15, 16, 302, 303, 304, 17, 18, 19, 20, 21, 22, 530, 531, 532, 533, 534, 535, 536, 537, 538, 539, 540, 541, 542, 543, 544, 545, 522, 523, 524, 525, 526, 527, 528, 529] (by decide +kernel) (by decide +kernel)) (goodIn_sub (fun _ h => List.mem_cons_of_mem _ (List.mem_append_left _ (List.mem_append_left _ (List.mem_append_right _ h)))) (by decide +kernel))
set_option maxRecDepth 20000 in
theorem gL_isWire_X3_asked : GoodIn wsL_isWire (wsV RL 75 RX3 yX3_asked wsX3_asked) := goodIn_app (goodIn_of _ (by decide +kernel)) ggL_isWire_X3_asked
set_option maxRecDepth 20000 in
theorem ggL_isWire_X3_allowed : GoodIn wsL_isWire wsX3_allowed := goodIn_ca (goodIn_r _ [517, 11, 455, 12, 13, 4, 14, 15, 16, 302, 303, 304, 17, 18, 19, 20, 21, 22, 530, 531, 532, 533, 534, 535, 536, 537, 538, 539, 540, 541, 542, 543, 544, 545, 522, 523, 524, 525, 526, 527, 528, 529] (by decide +kernel) (by decide +kernel)) (goodIn_sub (fun _ h => List.mem_cons_of_mem _ (List.mem_append_left _ (List.mem_append_left _ (List.mem_append_right _ h)))) (by decide +kernel))
set_option maxRecDepth 20000 in
theorem gL_isWire_X3_allowed : GoodIn wsL_isWire (wsV RL 99 RX3 yX3_allowed wsX3_allowed) := goodIn_app (goodIn_of _ (by decide +kernel)) ggL_isWire_X3_allowed
set_option maxRecDepth 20000 in
theorem ggL_isWire_X3_granted : GoodIn wsL_isWire wsX3_granted := goodIn_ca (goodIn_r _ [521, 11, 56, 12, 13, 4, 14, 15, 16, 302, 303, 304, 17, 18, 19, 20, 21, 22, 530, 531, 532, 533, 534, 535, 536, 537, 538, 539, 540, 541, 542, 543, 544, 545, 522, 523, 524, 525, 526, 527, 528, 529] (by decide +kernel) (by decide +kernel)) (goodIn_sub (fun _ h => List.mem_cons_of_mem _ (List.mem_append_left _ (List.mem_append_left _ (List.mem_append_right _ h)))) (by decide +kernel))
set_option maxRecDepth 20000 in
theorem gL_isWire_X3_granted : GoodIn wsL_isWire (wsV RL 102 RX3 yX3_granted wsX3_granted) := goodIn_app (goodIn_of _ (by decide +kernel)) ggL_isWire_X3_granted
theorem dL_isWire_0 : decode cL_isWire 0 = .ok (.aload_n 0, 1) := by decide +kernel
theorem dL_isWire_1 : decode cL_isWire 1 = .ok (.invokevirtual 81, 3) := by decide +kernel
theorem dL_isWire_4 : decode cL_isWire 4 = .ok (.aload_n 1, 1) := by decide +kernel
theorem dL_isWire_5 : decode cL_isWire 5 = .ok (.iconst 0, 1) := by decide +kernel
theorem dL_isWire_6 : decode cL_isWire 6 = .ok (.iaload, 1) := by decide +kernel
theorem dL_isWire_7 : decode cL_isWire 7 = .ok (.if_icmp .ne 7, 3) := by decide +kernel
theorem dL_isWire_10 : decode cL_isWire 10 = .ok (.iconst 1, 1) := by decide +kernel
theorem dL_isWire_11 : decode cL_isWire 11 = .ok (.goto 4, 3) := by decide +kernel
theorem dL_isWire_14 : decode cL_isWire 14 = .ok (.iconst 0, 1) := by decide +kernel
theorem dL_isWire_15 : decode cL_isWire 15 = .ok (.istore_n 2, 1) := by decide +kernel
theorem dL_isWire_16 : decode cL_isWire 16 = .ok (.iconst 0, 1) := by decide +kernel
theorem dL_isWire_17 : decode cL_isWire 17 = .ok (.istore_n 3, 1) := by decide +kernel
theorem dL_isWire_18 : decode cL_isWire 18 = .ok (.iload_n 3, 1) := by decide +kernel
theorem dL_isWire_19 : decode cL_isWire 19 = .ok (.iconst 2, 1) := by decide +kernel
theorem dL_isWire_20 : decode cL_isWire 20 = .ok (.if_icmp .ge 373, 3) := by decide +kernel
theorem dL_isWire_23 : decode cL_isWire 23 = .ok (.iload_n 2, 1) := by decide +kernel
theorem dL_isWire_24 : decode cL_isWire 24 = .ok (.ifCond .eq 369, 3) := by decide +kernel
theorem dL_isWire_27 : decode cL_isWire 27 = .ok (.aload_n 0, 1) := by decide +kernel
theorem dL_isWire_28 : decode cL_isWire 28 = .ok (.iload_n 3, 1) := by decide +kernel
theorem dL_isWire_29 : decode cL_isWire 29 = .ok (.invokevirtual 69, 3) := by decide +kernel
theorem dL_isWire_32 : decode cL_isWire 32 = .ok (.istore 4, 2) := by decide +kernel
theorem dL_isWire_34 : decode cL_isWire 34 = .ok (.iload 4, 2) := by decide +kernel
theorem dL_isWire_36 : decode cL_isWire 36 = .ok (.ifCond .lt 94, 3) := by decide +kernel
theorem dL_isWire_39 : decode cL_isWire 39 = .ok (.iload 4, 2) := by decide +kernel
theorem dL_isWire_41 : decode cL_isWire 41 = .ok (.bipush 7, 2) := by decide +kernel
theorem dL_isWire_43 : decode cL_isWire 43 = .ok (.if_icmp .gt 87, 3) := by decide +kernel
theorem dL_isWire_46 : decode cL_isWire 46 = .ok (.aload_n 0, 1) := by decide +kernel
theorem dL_isWire_47 : decode cL_isWire 47 = .ok (.iload_n 3, 1) := by decide +kernel
theorem dL_isWire_48 : decode cL_isWire 48 = .ok (.invokevirtual 85, 3) := by decide +kernel
theorem dL_isWire_51 : decode cL_isWire 51 = .ok (.ifCond .lt 79, 3) := by decide +kernel
theorem dL_isWire_54 : decode cL_isWire 54 = .ok (.aload_n 0, 1) := by decide +kernel
theorem dL_isWire_55 : decode cL_isWire 55 = .ok (.iload_n 3, 1) := by decide +kernel
theorem dL_isWire_56 : decode cL_isWire 56 = .ok (.invokevirtual 85, 3) := by decide +kernel
theorem dL_isWire_59 : decode cL_isWire 59 = .ok (.bipush 10, 2) := by decide +kernel
theorem dL_isWire_61 : decode cL_isWire 61 = .ok (.if_icmp .gt 69, 3) := by decide +kernel
theorem dL_isWire_64 : decode cL_isWire 64 = .ok (.aload_n 0, 1) := by decide +kernel
theorem dL_isWire_65 : decode cL_isWire 65 = .ok (.iload_n 3, 1) := by decide +kernel
theorem dL_isWire_66 : decode cL_isWire 66 = .ok (.invokevirtual 88, 3) := by decide +kernel
theorem dL_isWire_69 : decode cL_isWire 69 = .ok (.ifCond .lt 61, 3) := by decide +kernel
theorem dL_isWire_72 : decode cL_isWire 72 = .ok (.aload_n 0, 1) := by decide +kernel
theorem dL_isWire_73 : decode cL_isWire 73 = .ok (.iload_n 3, 1) := by decide +kernel
theorem dL_isWire_74 : decode cL_isWire 74 = .ok (.invokevirtual 88, 3) := by decide +kernel
theorem dL_isWire_77 : decode cL_isWire 77 = .ok (.bipush 12, 2) := by decide +kernel
theorem dL_isWire_79 : decode cL_isWire 79 = .ok (.if_icmp .gt 51, 3) := by decide +kernel
theorem dL_isWire_82 : decode cL_isWire 82 = .ok (.aload_n 0, 1) := by decide +kernel
theorem dL_isWire_83 : decode cL_isWire 83 = .ok (.iload_n 3, 1) := by decide +kernel
theorem dL_isWire_84 : decode cL_isWire 84 = .ok (.invokestatic 91, 3) := by decide +kernel
theorem dL_isWire_87 : decode cL_isWire 87 = .ok (.ifCond .eq 43, 3) := by decide +kernel
theorem dL_isWire_90 : decode cL_isWire 90 = .ok (.aload_n 0, 1) := by decide +kernel
theorem dL_isWire_91 : decode cL_isWire 91 = .ok (.bipush 7, 2) := by decide +kernel
theorem dL_isWire_93 : decode cL_isWire 93 = .ok (.iload_n 3, 1) := by decide +kernel
theorem dL_isWire_94 : decode cL_isWire 94 = .ok (.aload_n 0, 1) := by decide +kernel
theorem dL_isWire_95 : decode cL_isWire 95 = .ok (.iload_n 3, 1) := by decide +kernel
theorem dL_isWire_96 : decode cL_isWire 96 = .ok (.invokevirtual 88, 3) := by decide +kernel
theorem dL_isWire_99 : decode cL_isWire 99 = .ok (.iconst 0, 1) := by decide +kernel
theorem dL_isWire_100 : decode cL_isWire 100 = .ok (.iconst 0, 1) := by decide +kernel
theorem dL_isWire_101 : decode cL_isWire 101 = .ok (.iconst 0, 1) := by decide +kernel
theorem dL_isWire_102 : decode cL_isWire 102 = .ok (.invokestatic 95, 3) := by decide +kernel
theorem dL_isWire_105 : decode cL_isWire 105 = .ok (.bipush (-10), 2) := by decide +kernel
theorem dL_isWire_107 : decode cL_isWire 107 = .ok (.if_icmp .ne 23, 3) := by decide +kernel
theorem dL_isWire_110 : decode cL_isWire 110 = .ok (.aload_n 0, 1) := by decide +kernel
theorem dL_isWire_111 : decode cL_isWire 111 = .ok (.bipush 7, 2) := by decide +kernel
theorem dL_isWire_113 : decode cL_isWire 113 = .ok (.iload_n 3, 1) := by decide +kernel
theorem dL_isWire_114 : decode cL_isWire 114 = .ok (.iconst (-1), 1) := by decide +kernel
theorem dL_isWire_115 : decode cL_isWire 115 = .ok (.iconst 0, 1) := by decide +kernel
theorem dL_isWire_116 : decode cL_isWire 116 = .ok (.iconst 0, 1) := by decide +kernel
theorem dL_isWire_117 : decode cL_isWire 117 = .ok (.iconst 0, 1) := by decide +kernel
theorem dL_isWire_118 : decode cL_isWire 118 = .ok (.invokestatic 95, 3) := by decide +kernel
theorem dL_isWire_121 : decode cL_isWire 121 = .ok (.bipush (-10), 2) := by decide +kernel
theorem dL_isWire_123 : decode cL_isWire 123 = .ok (.if_icmp .ne 7, 3) := by decide +kernel
theorem dL_isWire_126 : decode cL_isWire 126 = .ok (.iconst 1, 1) := by decide +kernel
theorem dL_isWire_127 : decode cL_isWire 127 = .ok (.goto 4, 3) := by decide +kernel
theorem dL_isWire_130 : decode cL_isWire 130 = .ok (.iconst 0, 1) := by decide +kernel
theorem dL_isWire_131 : decode cL_isWire 131 = .ok (.istore_n 2, 1) := by decide +kernel
theorem dL_isWire_132 : decode cL_isWire 132 = .ok (.iload_n 2, 1) := by decide +kernel
theorem dL_isWire_133 : decode cL_isWire 133 = .ok (.ifCond .eq 23, 3) := by decide +kernel
theorem dL_isWire_136 : decode cL_isWire 136 = .ok (.iload 4, 2) := by decide +kernel
theorem dL_isWire_138 : decode cL_isWire 138 = .ok (.iconst 4, 1) := by decide +kernel
theorem dL_isWire_139 : decode cL_isWire 139 = .ok (.if_icmp .ne 13, 3) := by decide +kernel
theorem dL_isWire_142 : decode cL_isWire 142 = .ok (.aload_n 0, 1) := by decide +kernel
theorem dL_isWire_143 : decode cL_isWire 143 = .ok (.iload_n 3, 1) := by decide +kernel
theorem dL_isWire_144 : decode cL_isWire 144 = .ok (.invokevirtual 85, 3) := by decide +kernel
theorem dL_isWire_147 : decode cL_isWire 147 = .ok (.bipush 10, 2) := by decide +kernel
theorem dL_isWire_149 : decode cL_isWire 149 = .ok (.if_icmp .ne 7, 3) := by decide +kernel
theorem dL_isWire_152 : decode cL_isWire 152 = .ok (.iconst 1, 1) := by decide +kernel
theorem dL_isWire_153 : decode cL_isWire 153 = .ok (.goto 4, 3) := by decide +kernel
theorem dL_isWire_156 : decode cL_isWire 156 = .ok (.iconst 0, 1) := by decide +kernel
theorem dL_isWire_157 : decode cL_isWire 157 = .ok (.istore_n 2, 1) := by decide +kernel
theorem dL_isWire_158 : decode cL_isWire 158 = .ok (.iconst 0, 1) := by decide +kernel
theorem dL_isWire_159 : decode cL_isWire 159 = .ok (.istore 5, 2) := by decide +kernel
theorem dL_isWire_161 : decode cL_isWire 161 = .ok (.iload 5, 2) := by decide +kernel
theorem dL_isWire_163 : decode cL_isWire 163 = .ok (.iconst 4, 1) := by decide +kernel
theorem dL_isWire_164 : decode cL_isWire 164 = .ok (.if_icmp .ge 163, 3) := by decide +kernel
theorem dL_isWire_167 : decode cL_isWire 167 = .ok (.iload_n 2, 1) := by decide +kernel
theorem dL_isWire_168 : decode cL_isWire 168 = .ok (.ifCond .eq 159, 3) := by decide +kernel
theorem dL_isWire_171 : decode cL_isWire 171 = .ok (.aload_n 0, 1) := by decide +kernel
theorem dL_isWire_172 : decode cL_isWire 172 = .ok (.iload_n 3, 1) := by decide +kernel
theorem dL_isWire_173 : decode cL_isWire 173 = .ok (.iload 5, 2) := by decide +kernel
theorem dL_isWire_175 : decode cL_isWire 175 = .ok (.invokevirtual 75, 3) := by decide +kernel
theorem dL_isWire_178 : decode cL_isWire 178 = .ok (.istore 6, 2) := by decide +kernel
theorem dL_isWire_180 : decode cL_isWire 180 = .ok (.aload_n 0, 1) := by decide +kernel
theorem dL_isWire_181 : decode cL_isWire 181 = .ok (.iload_n 3, 1) := by decide +kernel
theorem dL_isWire_182 : decode cL_isWire 182 = .ok (.iload 5, 2) := by decide +kernel
theorem dL_isWire_184 : decode cL_isWire 184 = .ok (.invokevirtual 99, 3) := by decide +kernel
theorem dL_isWire_187 : decode cL_isWire 187 = .ok (.istore 7, 2) := by decide +kernel
theorem dL_isWire_189 : decode cL_isWire 189 = .ok (.iload 6, 2) := by decide +kernel
theorem dL_isWire_191 : decode cL_isWire 191 = .ok (.iconst (-1), 1) := by decide +kernel
theorem dL_isWire_192 : decode cL_isWire 192 = .ok (.if_icmp .lt 73, 3) := by decide +kernel
theorem dL_isWire_195 : decode cL_isWire 195 = .ok (.iload 6, 2) := by decide +kernel
theorem dL_isWire_197 : decode cL_isWire 197 = .ok (.bipush 100, 2) := by decide +kernel
theorem dL_isWire_199 : decode cL_isWire 199 = .ok (.if_icmp .gt 66, 3) := by decide +kernel
theorem dL_isWire_202 : decode cL_isWire 202 = .ok (.aload_n 0, 1) := by decide +kernel
theorem dL_isWire_203 : decode cL_isWire 203 = .ok (.iload_n 3, 1) := by decide +kernel
theorem dL_isWire_204 : decode cL_isWire 204 = .ok (.iload 5, 2) := by decide +kernel
theorem dL_isWire_206 : decode cL_isWire 206 = .ok (.invokevirtual 102, 3) := by decide +kernel
theorem dL_isWire_209 : decode cL_isWire 209 = .ok (.iload 4, 2) := by decide +kernel
theorem dL_isWire_211 : decode cL_isWire 211 = .ok (.iconst 2, 1) := by decide +kernel
theorem dL_isWire_212 : decode cL_isWire 212 = .ok (.if_icmp .eq 9, 3) := by decide +kernel
theorem dL_isWire_215 : decode cL_isWire 215 = .ok (.iload 4, 2) := by decide +kernel
theorem dL_isWire_217 : decode cL_isWire 217 = .ok (.iconst 4, 1) := by decide +kernel
theorem dL_isWire_218 : decode cL_isWire 218 = .ok (.if_icmp .ne 8, 3) := by decide +kernel
theorem dL_isWire_221 : decode cL_isWire 221 = .ok (.iload 6, 2) := by decide +kernel
theorem dL_isWire_223 : decode cL_isWire 223 = .ok (.goto 4, 3) := by decide +kernel
theorem dL_isWire_226 : decode cL_isWire 226 = .ok (.iconst (-1), 1) := by decide +kernel
theorem dL_isWire_227 : decode cL_isWire 227 = .ok (.if_icmp .ne 38, 3) := by decide +kernel
theorem dL_isWire_230 : decode cL_isWire 230 = .ok (.iload 7, 2) := by decide +kernel
theorem dL_isWire_232 : decode cL_isWire 232 = .ok (.iconst (-1), 1) := by decide +kernel
theorem dL_isWire_233 : decode cL_isWire 233 = .ok (.if_icmp .lt 32, 3) := by decide +kernel
theorem dL_isWire_236 : decode cL_isWire 236 = .ok (.iload 7, 2) := by decide +kernel
theorem dL_isWire_238 : decode cL_isWire 238 = .ok (.bipush 100, 2) := by decide +kernel
theorem dL_isWire_240 : decode cL_isWire 240 = .ok (.if_icmp .gt 25, 3) := by decide +kernel
theorem dL_isWire_243 : decode cL_isWire 243 = .ok (.iload 7, 2) := by decide +kernel
theorem dL_isWire_245 : decode cL_isWire 245 = .ok (.iconst (-1), 1) := by decide +kernel
theorem dL_isWire_246 : decode cL_isWire 246 = .ok (.if_icmp .eq 15, 3) := by decide +kernel
theorem dL_isWire_249 : decode cL_isWire 249 = .ok (.iload 4, 2) := by decide +kernel
theorem dL_isWire_251 : decode cL_isWire 251 = .ok (.iconst 3, 1) := by decide +kernel
theorem dL_isWire_252 : decode cL_isWire 252 = .ok (.if_icmp .eq 9, 3) := by decide +kernel
theorem dL_isWire_255 : decode cL_isWire 255 = .ok (.iload 4, 2) := by decide +kernel
theorem dL_isWire_257 : decode cL_isWire 257 = .ok (.iconst 4, 1) := by decide +kernel
theorem dL_isWire_258 : decode cL_isWire 258 = .ok (.if_icmp .ne 7, 3) := by decide +kernel
theorem dL_isWire_261 : decode cL_isWire 261 = .ok (.iconst 1, 1) := by decide +kernel
theorem dL_isWire_262 : decode cL_isWire 262 = .ok (.goto 4, 3) := by decide +kernel
theorem dL_isWire_265 : decode cL_isWire 265 = .ok (.iconst 0, 1) := by decide +kernel
theorem dL_isWire_266 : decode cL_isWire 266 = .ok (.istore_n 2, 1) := by decide +kernel
theorem dL_isWire_267 : decode cL_isWire 267 = .ok (.iload_n 2, 1) := by decide +kernel
theorem dL_isWire_268 : decode cL_isWire 268 = .ok (.ifCond .eq 51, 3) := by decide +kernel
theorem dL_isWire_271 : decode cL_isWire 271 = .ok (.aload_n 1, 1) := by decide +kernel
theorem dL_isWire_272 : decode cL_isWire 272 = .ok (.iconst 2, 1) := by decide +kernel
theorem dL_isWire_273 : decode cL_isWire 273 = .ok (.iaload, 1) := by decide +kernel
theorem dL_isWire_274 : decode cL_isWire 274 = .ok (.iconst 1, 1) := by decide +kernel
theorem dL_isWire_275 : decode cL_isWire 275 = .ok (.if_icmp .eq 40, 3) := by decide +kernel
theorem dL_isWire_278 : decode cL_isWire 278 = .ok (.aload_n 0, 1) := by decide +kernel
theorem dL_isWire_279 : decode cL_isWire 279 = .ok (.iconst 0, 1) := by decide +kernel
theorem dL_isWire_280 : decode cL_isWire 280 = .ok (.invokevirtual 69, 3) := by decide +kernel
theorem dL_isWire_283 : decode cL_isWire 283 = .ok (.iconst 4, 1) := by decide +kernel
theorem dL_isWire_284 : decode cL_isWire 284 = .ok (.if_icmp .ne 31, 3) := by decide +kernel
theorem dL_isWire_287 : decode cL_isWire 287 = .ok (.aload_n 0, 1) := by decide +kernel
theorem dL_isWire_288 : decode cL_isWire 288 = .ok (.iconst 1, 1) := by decide +kernel
theorem dL_isWire_289 : decode cL_isWire 289 = .ok (.invokevirtual 69, 3) := by decide +kernel
theorem dL_isWire_292 : decode cL_isWire 292 = .ok (.iconst 4, 1) := by decide +kernel
theorem dL_isWire_293 : decode cL_isWire 293 = .ok (.if_icmp .ne 22, 3) := by decide +kernel
theorem dL_isWire_296 : decode cL_isWire 296 = .ok (.aload_n 0, 1) := by decide +kernel
theorem dL_isWire_297 : decode cL_isWire 297 = .ok (.iload_n 3, 1) := by decide +kernel
theorem dL_isWire_298 : decode cL_isWire 298 = .ok (.iload 5, 2) := by decide +kernel
theorem dL_isWire_300 : decode cL_isWire 300 = .ok (.invokevirtual 102, 3) := by decide +kernel
theorem dL_isWire_303 : decode cL_isWire 303 = .ok (.aload_n 0, 1) := by decide +kernel
theorem dL_isWire_304 : decode cL_isWire 304 = .ok (.iconst 1, 1) := by decide +kernel
theorem dL_isWire_305 : decode cL_isWire 305 = .ok (.iload_n 3, 1) := by decide +kernel
theorem dL_isWire_306 : decode cL_isWire 306 = .ok (.isub, 1) := by decide +kernel
theorem dL_isWire_307 : decode cL_isWire 307 = .ok (.iload 5, 2) := by decide +kernel
theorem dL_isWire_309 : decode cL_isWire 309 = .ok (.invokevirtual 99, 3) := by decide +kernel
theorem dL_isWire_312 : decode cL_isWire 312 = .ok (.if_icmp .ne 7, 3) := by decide +kernel
theorem dL_isWire_315 : decode cL_isWire 315 = .ok (.iconst 1, 1) := by decide +kernel
theorem dL_isWire_316 : decode cL_isWire 316 = .ok (.goto 4, 3) := by decide +kernel
theorem dL_isWire_319 : decode cL_isWire 319 = .ok (.iconst 0, 1) := by decide +kernel
theorem dL_isWire_320 : decode cL_isWire 320 = .ok (.istore_n 2, 1) := by decide +kernel
theorem dL_isWire_321 : decode cL_isWire 321 = .ok (.iinc 5 1, 3) := by decide +kernel
theorem dL_isWire_324 : decode cL_isWire 324 = .ok (.goto (-163), 3) := by decide +kernel
theorem dL_isWire_327 : decode cL_isWire 327 = .ok (.iconst 0, 1) := by decide +kernel
theorem dL_isWire_328 : decode cL_isWire 328 = .ok (.istore 5, 2) := by decide +kernel
theorem dL_isWire_330 : decode cL_isWire 330 = .ok (.iload 5, 2) := by decide +kernel
theorem dL_isWire_332 : decode cL_isWire 332 = .ok (.aload_n 0, 1) := by decide +kernel
theorem dL_isWire_333 : decode cL_isWire 333 = .ok (.iload_n 3, 1) := by decide +kernel
theorem dL_isWire_334 : decode cL_isWire 334 = .ok (.invokevirtual 88, 3) := by decide +kernel
theorem dL_isWire_337 : decode cL_isWire 337 = .ok (.if_icmp .ge 50, 3) := by decide +kernel
theorem dL_isWire_340 : decode cL_isWire 340 = .ok (.iload_n 2, 1) := by decide +kernel
theorem dL_isWire_341 : decode cL_isWire 341 = .ok (.ifCond .eq 46, 3) := by decide +kernel
theorem dL_isWire_344 : decode cL_isWire 344 = .ok (.aload_n 0, 1) := by decide +kernel
theorem dL_isWire_345 : decode cL_isWire 345 = .ok (.bipush 7, 2) := by decide +kernel
theorem dL_isWire_347 : decode cL_isWire 347 = .ok (.iload_n 3, 1) := by decide +kernel
theorem dL_isWire_348 : decode cL_isWire 348 = .ok (.iload 5, 2) := by decide +kernel
theorem dL_isWire_350 : decode cL_isWire 350 = .ok (.iconst 0, 1) := by decide +kernel
theorem dL_isWire_351 : decode cL_isWire 351 = .ok (.iconst 0, 1) := by decide +kernel
theorem dL_isWire_352 : decode cL_isWire 352 = .ok (.iconst 0, 1) := by decide +kernel
theorem dL_isWire_353 : decode cL_isWire 353 = .ok (.invokestatic 95, 3) := by decide +kernel
theorem dL_isWire_356 : decode cL_isWire 356 = .ok (.ifCond .lt 23, 3) := by decide +kernel
theorem dL_isWire_359 : decode cL_isWire 359 = .ok (.aload_n 0, 1) := by decide +kernel
theorem dL_isWire_360 : decode cL_isWire 360 = .ok (.bipush 7, 2) := by decide +kernel
theorem dL_isWire_362 : decode cL_isWire 362 = .ok (.iload_n 3, 1) := by decide +kernel
theorem dL_isWire_363 : decode cL_isWire 363 = .ok (.iload 5, 2) := by decide +kernel
theorem dL_isWire_365 : decode cL_isWire 365 = .ok (.iconst 0, 1) := by decide +kernel
theorem dL_isWire_366 : decode cL_isWire 366 = .ok (.iconst 0, 1) := by decide +kernel
theorem dL_isWire_367 : decode cL_isWire 367 = .ok (.iconst 0, 1) := by decide +kernel
theorem dL_isWire_368 : decode cL_isWire 368 = .ok (.invokestatic 95, 3) := by decide +kernel
theorem dL_isWire_371 : decode cL_isWire 371 = .ok (.iconst 5, 1) := by decide +kernel
theorem dL_isWire_372 : decode cL_isWire 372 = .ok (.if_icmp .gt 7, 3) := by decide +kernel
theorem dL_isWire_375 : decode cL_isWire 375 = .ok (.iconst 1, 1) := by decide +kernel
theorem dL_isWire_376 : decode cL_isWire 376 = .ok (.goto 4, 3) := by decide +kernel
theorem dL_isWire_379 : decode cL_isWire 379 = .ok (.iconst 0, 1) := by decide +kernel
theorem dL_isWire_380 : decode cL_isWire 380 = .ok (.istore_n 2, 1) := by decide +kernel
theorem dL_isWire_381 : decode cL_isWire 381 = .ok (.iinc 5 1, 3) := by decide +kernel
theorem dL_isWire_384 : decode cL_isWire 384 = .ok (.goto (-54), 3) := by decide +kernel
theorem dL_isWire_387 : decode cL_isWire 387 = .ok (.iinc 3 1, 3) := by decide +kernel
theorem dL_isWire_390 : decode cL_isWire 390 = .ok (.goto (-372), 3) := by decide +kernel
theorem dL_isWire_393 : decode cL_isWire 393 = .ok (.iload_n 2, 1) := by decide +kernel
theorem dL_isWire_394 : decode cL_isWire 394 = .ok (.ireturn, 1) := by decide +kernel
