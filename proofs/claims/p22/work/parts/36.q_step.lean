set_option maxRecDepth 20000 in
theorem ggL_step_L_wants : GoodIn wsL_step wsL_wants := goodIn_ca (goodIn_ca (goodIn_ca (goodIn_cons (goodIn_one (c := Cond.code yL_wants cL_wants 15 (some .boolean)) (List.mem_cons_of_mem _ (List.mem_append_left _ (List.mem_append_left _ (List.mem_append_left _ (List.mem_append_left _ (List.mem_append_left _ (List.mem_append_left _ (List.mem_append_left _ (List.mem_append_left _ (List.mem_of_getElem? (i := 3) rfl)))))))))) rfl) (goodIn_app (goodIn_app (goodIn_app (goodIn_app (goodIn_app (goodIn_r wsL_wants_r1 [5, 6, 7, 8, 9, 10, 11, 12, 13, 14, 15, 16, 17, 18, 19, 20, 21, 22, 23, 3, 24, 25, 26, 27] (by decide +kernel) (by decide +kernel)) (goodIn_app (goodIn_r wsL_wants_r2 [28, 29, 30, 31, 32, 33, 34, 35, 36, 37, 38, 39, 40, 41, 42, 43, 44, 45, 46, 47, 48, 49, 50, 51] (by decide +kernel) (by decide +kernel)) (goodIn_app (goodIn_r wsL_wants_r3 [52, 53, 54, 55, 56, 57, 58, 59, 60, 61, 62, 63, 64, 65, 66, 67, 68, 69, 70, 71, 72, 73, 74, 75] (by decide +kernel) (by decide +kernel)) (goodIn_app (goodIn_r wsL_wants_r4 [76, 77, 78, 79, 80, 81, 82, 83, 84, 85, 86, 87, 88, 89, 90, 91, 92, 93, 94, 95, 96, 97, 98, 99] (by decide +kernel) (by decide +kernel)) (goodIn_app (goodIn_r wsL_wants_r5 [100, 101, 102, 103, 104, 105, 106, 107, 108, 109, 110, 111, 112, 113, 114, 115, 116, 117, 118, 119, 120, 121, 122, 123] (by decide +kernel) (by decide +kernel)) (goodIn_app (goodIn_r wsL_wants_r6 [124, 125, 126, 127, 128, 129, 130, 131, 132, 133, 134, 135, 136, 137, 138, 139, 140, 141, 142, 143, 144, 145, 146, 147] (by decide +kernel) (by decide +kernel)) (goodIn_app (goodIn_r wsL_wants_r7 [148, 149, 150, 151, 152, 153, 154, 155, 156, 157, 158, 159, 160, 161, 162, 163, 164, 165, 166, 167, 168, 169, 170, 171] (by decide +kernel) (by decide +kernel)) (goodIn_app (goodIn_r wsL_wants_r8 [172, 173, 174, 175, 176, 177, 178, 179, 180, 181, 182, 183, 184, 185, 186, 187, 188, 189, 190, 191, 192, 193, 194, 195] (by decide +kernel) (by decide +kernel)) (goodIn_app (goodIn_r wsL_wants_r9 [196, 197, 198, 199, 200, 201, 202, 203, 204, 205, 206, 207, 208, 209, 210, 211, 212, 213, 214, 215, 216, 217, 218, 219] (by decide +kernel) (by decide +kernel)) (goodIn_r wsL_wants_r10 [220, 221, 222, 223, 224, 225, 226, 227, 228, 229, 230, 231, 232, 233, 234, 235, 236, 237, 238, 239, 240, 241, 242, 243] (by decide +kernel) (by decide +kernel))))))))))) (goodIn_r wsX00 [297, 298, 299, 300, 301, 302, 303, 304, 305, 306, 307, 308, 309, 310, 311, 312] (by decide +kernel) (by decide +kernel))) (goodIn_r wsX30 [313, 314, 315, 316, 317, 318, 319, 320] (by decide +kernel) (by decide +kernel))) (goodIn_r wsX20 [321, 322, 323, 324, 325, 326] (by decide +kernel) (by decide +kernel))) (goodIn_r wsX10 [327, 328, 329, 330] (by decide +kernel) (by decide +kernel)))) (goodIn_sub (fun _ h => List.mem_cons_of_mem _ (List.mem_append_left _ (List.mem_append_left _ (List.mem_append_right _ h)))) (by decide +kernel))) (goodIn_sub (fun _ h => List.mem_cons_of_mem _ (List.mem_append_left _ (List.mem_append_right _ h))) (by decide +kernel))) (goodIn_sub (fun _ h => List.mem_cons_of_mem _ (List.mem_append_right _ h)) (by decide +kernel))
set_option maxRecDepth 20000 in
theorem gL_step_L_wants : GoodIn wsL_step (va_wsS RL 118 yL_wants wsL_wants) := goodIn_app (goodIn_of _ (by decide +kernel)) ggL_step_L_wants
set_option maxRecDepth 20000 in
theorem ggL_step_L_turns : GoodIn wsL_step wsL_turns := goodIn_ca (goodIn_ca (goodIn_ca (goodIn_cons (goodIn_one (c := Cond.code yL_turns cL_turns 13 (some .boolean)) (List.mem_cons_of_mem _ (List.mem_append_left _ (List.mem_append_left _ (List.mem_append_left _ (List.mem_append_left _ (List.mem_append_left _ (List.mem_append_left _ (List.mem_append_left _ (List.mem_append_right _ (List.mem_append_right _ (List.mem_append_right _ (List.mem_append_right _ (List.mem_append_right _ (List.mem_append_right _ (List.mem_append_right _ (List.mem_append_right _ (List.mem_append_right _ (List.mem_append_right _ (List.mem_append_left _ (List.mem_of_getElem? (i := 5) rfl)))))))))))))))))))) rfl) (goodIn_app (goodIn_app (goodIn_app (goodIn_app (goodIn_app (goodIn_r wsL_turns_r1 [5, 6, 7, 8, 9, 10, 11, 12, 13, 14, 15, 16, 17, 18, 19, 20, 21, 247, 248, 249, 250, 94, 139, 22] (by decide +kernel) (by decide +kernel)) (goodIn_app (goodIn_r wsL_turns_r2 [23, 3, 24, 25, 26, 27, 28, 29, 30, 31, 32, 33, 34, 35, 36, 37, 38, 39, 40, 41, 42, 43, 44, 45] (by decide +kernel) (by decide +kernel)) (goodIn_app (goodIn_r wsL_turns_r3 [46, 47, 48, 49, 50, 51, 52, 53, 54, 55, 56, 57, 58, 59, 60, 61, 62, 63, 64, 65, 66, 67, 68, 69] (by decide +kernel) (by decide +kernel)) (goodIn_app (goodIn_r wsL_turns_r4 [70, 71, 72, 73, 74, 75, 76, 77, 78, 79, 80, 81, 82, 83, 84, 85, 86, 87, 88, 89, 90, 91, 92, 93] (by decide +kernel) (by decide +kernel)) (goodIn_app (goodIn_r wsL_turns_r5 [95, 96, 97, 98, 99, 100, 101, 102, 103, 104, 105, 106, 107, 108, 109, 110, 111, 112, 113, 114, 115, 116, 117, 118] (by decide +kernel) (by decide +kernel)) (goodIn_app (goodIn_r wsL_turns_r6 [119, 120, 121, 122, 123, 124, 125, 126, 127, 128, 129, 130, 131, 132, 133, 134, 135, 136, 137, 138, 140, 141, 142, 143] (by decide +kernel) (by decide +kernel)) (goodIn_app (goodIn_r wsL_turns_r7 [144, 145, 146, 147, 148, 149, 150, 151, 152, 153, 154, 155, 156, 157, 158, 159, 160, 161, 162, 163, 164, 165, 166, 167] (by decide +kernel) (by decide +kernel)) (goodIn_app (goodIn_r wsL_turns_r8 [168, 169, 170, 171, 172, 173, 174, 175, 176, 177, 178, 179, 180, 181, 182, 183, 184, 185, 186, 187, 188, 189, 190, 191] (by decide +kernel) (by decide +kernel)) (goodIn_app (goodIn_r wsL_turns_r9 [192, 193, 194, 195, 196, 197, 198, 199, 200, 201, 202, 203, 204, 205, 206, 207, 208, 209, 210, 211, 212, 213, 214, 215] (by decide +kernel) (by decide +kernel)) (goodIn_app (goodIn_r wsL_turns_r10 [216, 217, 218, 219, 220, 221, 222, 223, 224, 225, 226, 227, 228, 229, 230, 231, 232, 233, 234, 235, 236, 237, 238, 239] (by decide +kernel) (by decide +kernel)) (goodIn_r wsL_turns_r11 [240, 241, 242, 243, 251, 252, 253, 254, 255, 256, 257, 258] (by decide +kernel) (by decide +kernel)))))))))))) (goodIn_r wsX00 [297, 298, 299, 300, 301, 302, 303, 304, 305, 306, 307, 308, 309, 310, 311, 312] (by decide +kernel) (by decide +kernel))) (goodIn_r wsX30 [313, 314, 315, 316, 317, 318, 319, 320] (by decide +kernel) (by decide +kernel))) (goodIn_r wsX20 [321, 322, 323, 324, 325, 326] (by decide +kernel) (by decide +kernel))) (goodIn_r wsX10 [327, 328, 329, 330] (by decide +kernel) (by decide +kernel)))) (goodIn_sub (fun _ h => List.mem_cons_of_mem _ (List.mem_append_left _ (List.mem_append_left _ (List.mem_append_right _ h)))) (by decide +kernel))) (goodIn_sub (fun _ h => List.mem_cons_of_mem _ (List.mem_append_left _ (List.mem_append_right _ h))) (by decide +kernel))) (goodIn_sub (fun _ h => List.mem_cons_of_mem _ (List.mem_append_right _ h)) (by decide +kernel))
set_option maxRecDepth 20000 in
theorem gL_step_L_turns : GoodIn wsL_step (va_wsS RL 122 yL_turns wsL_turns) := goodIn_app (goodIn_of _ (by decide +kernel)) ggL_step_L_turns
set_option maxRecDepth 20000 in
theorem ggL_step_X3_loop : GoodIn wsL_step wsX3_loop := goodIn_r _ [262, 92, 313, 314, 315, 316, 317, 318, 319, 320] (by decide +kernel) (by decide +kernel)
set_option maxRecDepth 20000 in
theorem gL_step_X3_loop : GoodIn wsL_step (wsV RL 126 RX3 yX3_loop wsX3_loop) := goodIn_app (goodIn_of _ (by decide +kernel)) ggL_step_X3_loop
set_option maxRecDepth 20000 in
theorem ggL_step_L_loses : GoodIn wsL_step wsL_loses := goodIn_ca (goodIn_ca (goodIn_ca (goodIn_cons (goodIn_one (c := Cond.code yL_loses cL_loses 9 (some .boolean)) (List.mem_cons_of_mem _ (List.mem_append_left _ (List.mem_append_left _ (List.mem_append_left _ (List.mem_append_left _ (List.mem_append_left _ (List.mem_append_left _ (List.mem_append_left _ (List.mem_append_right _ (List.mem_append_right _ (List.mem_append_right _ (List.mem_append_right _ (List.mem_append_right _ (List.mem_append_right _ (List.mem_append_right _ (List.mem_append_right _ (List.mem_append_right _ (List.mem_append_right _ (List.mem_append_right _ (List.mem_append_left _ (List.mem_of_getElem? (i := 0) rfl))))))))))))))))))))) rfl) (goodIn_app (goodIn_app (goodIn_app (goodIn_app (goodIn_app (goodIn_r wsL_loses_r1 [247, 248, 249, 8, 250, 94, 139, 11, 12, 13, 14, 15, 16, 17, 18, 19, 20, 21, 25, 26, 3, 27, 28, 29] (by decide +kernel) (by decide +kernel)) (goodIn_app (goodIn_r wsL_loses_r2 [30, 31, 32, 33, 34, 35, 36, 37, 38, 39, 40, 41, 42, 43, 44, 45, 46, 47, 48, 49, 50, 51, 52, 53] (by decide +kernel) (by decide +kernel)) (goodIn_app (goodIn_r wsL_loses_r3 [54, 55, 56, 57, 58, 59, 60, 61, 62, 63, 64, 65, 66, 67, 68, 69, 70, 71, 72, 73, 74, 10, 75, 76] (by decide +kernel) (by decide +kernel)) (goodIn_app (goodIn_r wsL_loses_r4 [77, 78, 79, 80, 81, 82, 83, 84, 85, 86, 87, 88, 89, 90, 91, 92, 93, 95, 96, 97, 98, 99, 100, 101] (by decide +kernel) (by decide +kernel)) (goodIn_app (goodIn_r wsL_loses_r5 [102, 103, 104, 105, 106, 107, 108, 109, 110, 111, 112, 113, 114, 115, 116, 117, 118, 119, 120, 121, 122, 123, 124, 125] (by decide +kernel) (by decide +kernel)) (goodIn_app (goodIn_r wsL_loses_r6 [126, 127, 128, 129, 130, 131, 132, 133, 134, 135, 136, 137, 138, 140, 141, 142, 143, 144, 145, 146, 147, 148, 149, 150] (by decide +kernel) (by decide +kernel)) (goodIn_app (goodIn_r wsL_loses_r7 [151, 152, 153, 154, 155, 156, 157, 158, 159, 160, 161, 162, 163, 164, 165, 166, 167, 168, 169, 170, 171, 172, 173, 174] (by decide +kernel) (by decide +kernel)) (goodIn_app (goodIn_r wsL_loses_r8 [175, 176, 177, 178, 179, 180, 181, 182, 183, 184, 185, 186, 187, 188, 189, 190, 191, 192, 193, 194, 195, 196, 197, 198] (by decide +kernel) (by decide +kernel)) (goodIn_app (goodIn_r wsL_loses_r9 [199, 200, 201, 202, 203, 204, 205, 206, 207, 208, 209, 210, 211, 212, 213, 214, 215, 216, 217, 218, 219, 220, 221, 222] (by decide +kernel) (by decide +kernel)) (goodIn_app (goodIn_r wsL_loses_r10 [223, 224, 225, 226, 227, 228, 229, 230, 231, 232, 233, 234, 235, 236, 237, 238, 239, 240, 241, 242, 243, 266, 267, 268] (by decide +kernel) (by decide +kernel)) (goodIn_r wsL_loses_r11 [269, 5, 6, 7, 9, 255, 256, 257, 258] (by decide +kernel) (by decide +kernel)))))))))))) (goodIn_r wsX00 [297, 298, 299, 300, 301, 302, 303, 304, 305, 306, 307, 308, 309, 310, 311, 312] (by decide +kernel) (by decide +kernel))) (goodIn_r wsX20 [321, 322, 323, 324, 325, 326] (by decide +kernel) (by decide +kernel))) (goodIn_r wsX30 [313, 314, 315, 316, 317, 318, 319, 320] (by decide +kernel) (by decide +kernel))) (goodIn_r wsX10 [327, 328, 329, 330] (by decide +kernel) (by decide +kernel)))) (goodIn_sub (fun _ h => List.mem_cons_of_mem _ (List.mem_append_left _ (List.mem_append_left _ (List.mem_append_right _ h)))) (by decide +kernel))) (goodIn_sub (fun _ h => List.mem_cons_of_mem _ (List.mem_append_left _ (List.mem_append_right _ h))) (by decide +kernel))) (goodIn_sub (fun _ h => List.mem_cons_of_mem _ (List.mem_append_right _ h)) (by decide +kernel))
set_option maxRecDepth 20000 in
theorem gL_step_L_loses : GoodIn wsL_step (va_wsS RL 130 yL_loses wsL_loses) := goodIn_app (goodIn_of _ (by decide +kernel)) ggL_step_L_loses
set_option maxRecDepth 20000 in
theorem ggL_step_X3_waiting : GoodIn wsL_step wsX3_waiting := goodIn_ca (goodIn_r _ [250, 94, 139, 11, 12, 8, 13, 14, 15, 16, 17, 18, 19, 20, 21, 297, 298, 299, 300, 301, 302, 303, 304, 305, 306, 307, 308, 309, 310, 311, 312, 321, 322, 323, 324, 325, 326, 313, 314, 315, 316, 317, 318, 319, 320] (by decide +kernel) (by decide +kernel)) (goodIn_sub (fun _ h => List.mem_cons_of_mem _ (List.mem_append_left _ (List.mem_append_left _ (List.mem_append_right _ h)))) (by decide +kernel))
set_option maxRecDepth 20000 in
theorem gL_step_X3_waiting : GoodIn wsL_step (wsV RL 88 RX3 yX3_waiting wsX3_waiting) := goodIn_app (goodIn_of _ (by decide +kernel)) ggL_step_X3_waiting
set_option maxRecDepth 20000 in
theorem ggL_step_L_delivers : GoodIn wsL_step wsL_delivers := goodIn_ca (goodIn_ca (goodIn_ca (goodIn_cons (goodIn_one (c := Cond.code yL_delivers cL_delivers 22 (some .boolean)) (List.mem_cons_of_mem _ (List.mem_append_left _ (List.mem_append_left _ (List.mem_append_left _ (List.mem_append_left _ (List.mem_append_left _ (List.mem_append_left _ (List.mem_append_left _ (List.mem_append_right _ (List.mem_append_right _ (List.mem_append_right _ (List.mem_append_right _ (List.mem_append_right _ (List.mem_append_right _ (List.mem_append_right _ (List.mem_append_right _ (List.mem_append_right _ (List.mem_append_right _ (List.mem_append_right _ (List.mem_append_left _ (List.mem_of_getElem? (i := 7) rfl))))))))))))))))))))) rfl) (goodIn_app (goodIn_app (goodIn_app (goodIn_app (goodIn_app (goodIn_r wsL_delivers_r1 [247, 248, 249, 8, 250, 94, 139, 11, 12, 13, 14, 15, 16, 17, 18, 19, 20, 21, 25, 26, 3, 27, 28, 29] (by decide +kernel) (by decide +kernel)) (goodIn_app (goodIn_r wsL_delivers_r2 [30, 31, 32, 33, 34, 35, 36, 37, 38, 39, 40, 41, 42, 43, 44, 45, 46, 47, 48, 49, 50, 51, 52, 53] (by decide +kernel) (by decide +kernel)) (goodIn_app (goodIn_r wsL_delivers_r3 [54, 55, 56, 57, 58, 59, 60, 61, 62, 63, 64, 65, 66, 67, 68, 69, 70, 71, 72, 73, 74, 10, 75, 76] (by decide +kernel) (by decide +kernel)) (goodIn_app (goodIn_r wsL_delivers_r4 [77, 78, 79, 80, 81, 82, 83, 84, 85, 86, 87, 88, 89, 90, 91, 92, 93, 95, 96, 97, 98, 99, 100, 101] (by decide +kernel) (by decide +kernel)) (goodIn_app (goodIn_r wsL_delivers_r5 [102, 103, 104, 105, 106, 107, 108, 109, 110, 111, 112, 113, 114, 115, 116, 117, 118, 119, 120, 121, 122, 123, 124, 125] (by decide +kernel) (by decide +kernel)) (goodIn_app (goodIn_r wsL_delivers_r6 [126, 127, 128, 129, 130, 131, 132, 133, 134, 135, 136, 137, 138, 140, 141, 142, 143, 144, 145, 146, 147, 148, 149, 150] (by decide +kernel) (by decide +kernel)) (goodIn_app (goodIn_r wsL_delivers_r7 [151, 152, 153, 154, 155, 156, 157, 158, 159, 160, 161, 162, 163, 164, 165, 166, 167, 168, 169, 170, 171, 172, 173, 174] (by decide +kernel) (by decide +kernel)) (goodIn_app (goodIn_r wsL_delivers_r8 [175, 176, 177, 178, 179, 180, 181, 182, 183, 184, 185, 186, 187, 188, 189, 190, 191, 192, 193, 194, 195, 196, 197, 198] (by decide +kernel) (by decide +kernel)) (goodIn_app (goodIn_r wsL_delivers_r9 [199, 200, 201, 202, 203, 204, 205, 206, 207, 208, 209, 210, 211, 212, 213, 214, 215, 216, 217, 218, 219, 220, 221, 222] (by decide +kernel) (by decide +kernel)) (goodIn_app (goodIn_r wsL_delivers_r10 [223, 224, 225, 226, 227, 228, 229, 230, 231, 232, 233, 234, 235, 236, 237, 238, 239, 240, 241, 242, 243, 5, 6, 7] (by decide +kernel) (by decide +kernel)) (goodIn_r wsL_delivers_r11 [9, 255, 256, 257, 258, 266, 267, 268, 269, 22, 23, 24, 273, 274, 275, 276] (by decide +kernel) (by decide +kernel)))))))))))) (goodIn_r wsX00 [297, 298, 299, 300, 301, 302, 303, 304, 305, 306, 307, 308, 309, 310, 311, 312] (by decide +kernel) (by decide +kernel))) (goodIn_r wsX20 [321, 322, 323, 324, 325, 326] (by decide +kernel) (by decide +kernel))) (goodIn_r wsX30 [313, 314, 315, 316, 317, 318, 319, 320] (by decide +kernel) (by decide +kernel))) (goodIn_r wsX10 [327, 328, 329, 330] (by decide +kernel) (by decide +kernel)))) (goodIn_sub (fun _ h => List.mem_cons_of_mem _ (List.mem_append_left _ (List.mem_append_left _ (List.mem_append_right _ h)))) (by decide +kernel))) (goodIn_sub (fun _ h => List.mem_cons_of_mem _ (List.mem_append_left _ (List.mem_append_right _ h))) (by decide +kernel))) (goodIn_sub (fun _ h => List.mem_cons_of_mem _ (List.mem_append_right _ h)) (by decide +kernel))
set_option maxRecDepth 20000 in
theorem gL_step_L_delivers : GoodIn wsL_step (va_wsS RL 133 yL_delivers wsL_delivers) := goodIn_app (goodIn_of _ (by decide +kernel)) ggL_step_L_delivers
set_option maxRecDepth 20000 in
theorem ggL_step_L_ticks : GoodIn wsL_step wsL_ticks := goodIn_ca (goodIn_cons (goodIn_one (c := Cond.code yL_ticks cL_ticks 11 (some .boolean)) (List.mem_cons_of_mem _ (List.mem_append_left _ (List.mem_append_left _ (List.mem_append_left _ (List.mem_append_left _ (List.mem_append_left _ (List.mem_append_left _ (List.mem_append_left _ (List.mem_append_right _ (List.mem_append_right _ (List.mem_append_right _ (List.mem_append_right _ (List.mem_append_right _ (List.mem_append_right _ (List.mem_append_right _ (List.mem_append_right _ (List.mem_append_right _ (List.mem_append_right _ (List.mem_append_right _ (List.mem_append_left _ (List.mem_of_getElem? (i := 14) rfl))))))))))))))))))))) rfl) (goodIn_app (goodIn_app (goodIn_app (goodIn_app (goodIn_r wsL_ticks_r1 [247, 248, 249, 8, 250, 94, 139, 11, 12, 13, 14, 15, 16, 17, 18, 19, 20, 21, 5, 6, 7, 9, 10, 280] (by decide +kernel) (by decide +kernel)) (goodIn_app (goodIn_r wsL_ticks_r2 [281, 282, 283, 93, 284, 285, 286, 287, 288, 87, 289, 290, 291, 51, 292, 53, 122, 49, 50, 52, 293, 294, 295, 296] (by decide +kernel) (by decide +kernel)) (goodIn_app (goodIn_r wsL_ticks_r3 [117, 82, 83, 84, 85, 75, 86, 76, 78, 88, 89, 90, 91, 92, 95, 96, 97, 98, 99, 100, 101, 102, 103, 104] (by decide +kernel) (by decide +kernel)) (goodIn_r wsL_ticks_r4 [105, 106, 107, 108, 109, 123, 124, 125, 126, 127, 255, 256, 257, 258] (by decide +kernel) (by decide +kernel))))) (goodIn_r wsX00 [297, 298, 299, 300, 301, 302, 303, 304, 305, 306, 307, 308, 309, 310, 311, 312] (by decide +kernel) (by decide +kernel))) (goodIn_r wsX20 [321, 322, 323, 324, 325, 326] (by decide +kernel) (by decide +kernel))) (goodIn_r wsX30 [313, 314, 315, 316, 317, 318, 319, 320] (by decide +kernel) (by decide +kernel)))) (goodIn_sub (fun _ h => List.mem_cons_of_mem _ (List.mem_append_left _ (List.mem_append_left _ (List.mem_append_right _ h)))) (by decide +kernel))
set_option maxRecDepth 20000 in
theorem gL_step_L_ticks : GoodIn wsL_step (va_wsS RL 137 yL_ticks wsL_ticks) := goodIn_app (goodIn_of _ (by decide +kernel)) ggL_step_L_ticks
theorem dL_step_0 : decode cL_step 0 = .ok (.iload_n 1, 1) := by decide +kernel
theorem dL_step_1 : decode cL_step 1 = .ok (.iconst 4, 1) := by decide +kernel
theorem dL_step_2 : decode cL_step 2 = .ok (.if_icmp .ge 15, 3) := by decide +kernel
theorem dL_step_5 : decode cL_step 5 = .ok (.aload_n 0, 1) := by decide +kernel
theorem dL_step_6 : decode cL_step 6 = .ok (.iload_n 1, 1) := by decide +kernel
theorem dL_step_7 : decode cL_step 7 = .ok (.iconst 3, 1) := by decide +kernel
theorem dL_step_8 : decode cL_step 8 = .ok (.irem, 1) := by decide +kernel
theorem dL_step_9 : decode cL_step 9 = .ok (.iload_n 2, 1) := by decide +kernel
theorem dL_step_10 : decode cL_step 10 = .ok (.iload_n 3, 1) := by decide +kernel
theorem dL_step_11 : decode cL_step 11 = .ok (.aload 4, 2) := by decide +kernel
theorem dL_step_13 : decode cL_step 13 = .ok (.invokestatic 118, 3) := by decide +kernel
theorem dL_step_16 : decode cL_step 16 = .ok (.ireturn, 1) := by decide +kernel
theorem dL_step_17 : decode cL_step 17 = .ok (.iload_n 1, 1) := by decide +kernel
theorem dL_step_18 : decode cL_step 18 = .ok (.bipush 6, 2) := by decide +kernel
theorem dL_step_20 : decode cL_step 20 = .ok (.if_icmp .ge 34, 3) := by decide +kernel
theorem dL_step_23 : decode cL_step 23 = .ok (.aload_n 0, 1) := by decide +kernel
theorem dL_step_24 : decode cL_step 24 = .ok (.iconst 3, 1) := by decide +kernel
theorem dL_step_25 : decode cL_step 25 = .ok (.iload_n 2, 1) := by decide +kernel
theorem dL_step_26 : decode cL_step 26 = .ok (.iconst 2, 1) := by decide +kernel
theorem dL_step_27 : decode cL_step 27 = .ok (.irem, 1) := by decide +kernel
theorem dL_step_28 : decode cL_step 28 = .ok (.iconst 1, 1) := by decide +kernel
theorem dL_step_29 : decode cL_step 29 = .ok (.iload_n 3, 1) := by decide +kernel
theorem dL_step_30 : decode cL_step 30 = .ok (.iload_n 3, 1) := by decide +kernel
theorem dL_step_31 : decode cL_step 31 = .ok (.bipush 7, 2) := by decide +kernel
theorem dL_step_33 : decode cL_step 33 = .ok (.irem, 1) := by decide +kernel
theorem dL_step_34 : decode cL_step 34 = .ok (.ifCond .ne 7, 3) := by decide +kernel
theorem dL_step_37 : decode cL_step 37 = .ok (.iconst 3, 1) := by decide +kernel
theorem dL_step_38 : decode cL_step 38 = .ok (.goto 6, 3) := by decide +kernel
theorem dL_step_41 : decode cL_step 41 = .ok (.sipush 999, 3) := by decide +kernel
theorem dL_step_44 : decode cL_step 44 = .ok (.irem, 1) := by decide +kernel
theorem dL_step_45 : decode cL_step 45 = .ok (.iadd, 1) := by decide +kernel
theorem dL_step_46 : decode cL_step 46 = .ok (.aload 4, 2) := by decide +kernel
theorem dL_step_48 : decode cL_step 48 = .ok (.aload 5, 2) := by decide +kernel
theorem dL_step_50 : decode cL_step 50 = .ok (.invokestatic 122, 3) := by decide +kernel
theorem dL_step_53 : decode cL_step 53 = .ok (.ireturn, 1) := by decide +kernel
theorem dL_step_54 : decode cL_step 54 = .ok (.iload_n 1, 1) := by decide +kernel
theorem dL_step_55 : decode cL_step 55 = .ok (.bipush 6, 2) := by decide +kernel
theorem dL_step_57 : decode cL_step 57 = .ok (.if_icmp .ne 31, 3) := by decide +kernel
theorem dL_step_60 : decode cL_step 60 = .ok (.iload_n 3, 1) := by decide +kernel
theorem dL_step_61 : decode cL_step 61 = .ok (.iconst 3, 1) := by decide +kernel
theorem dL_step_62 : decode cL_step 62 = .ok (.irem, 1) := by decide +kernel
theorem dL_step_63 : decode cL_step 63 = .ok (.ifCond .gt 19, 3) := by decide +kernel
theorem dL_step_66 : decode cL_step 66 = .ok (.aload_n 0, 1) := by decide +kernel
theorem dL_step_67 : decode cL_step 67 = .ok (.iconst 4, 1) := by decide +kernel
theorem dL_step_68 : decode cL_step 68 = .ok (.iload_n 2, 1) := by decide +kernel
theorem dL_step_69 : decode cL_step 69 = .ok (.iconst 2, 1) := by decide +kernel
theorem dL_step_70 : decode cL_step 70 = .ok (.irem, 1) := by decide +kernel
theorem dL_step_71 : decode cL_step 71 = .ok (.iconst 0, 1) := by decide +kernel
theorem dL_step_72 : decode cL_step 72 = .ok (.aload 4, 2) := by decide +kernel
theorem dL_step_74 : decode cL_step 74 = .ok (.aload 5, 2) := by decide +kernel
theorem dL_step_76 : decode cL_step 76 = .ok (.invokestatic 122, 3) := by decide +kernel
theorem dL_step_79 : decode cL_step 79 = .ok (.ifCond .eq 7, 3) := by decide +kernel
theorem dL_step_82 : decode cL_step 82 = .ok (.iconst 1, 1) := by decide +kernel
theorem dL_step_83 : decode cL_step 83 = .ok (.goto 4, 3) := by decide +kernel
theorem dL_step_86 : decode cL_step 86 = .ok (.iconst 0, 1) := by decide +kernel
theorem dL_step_87 : decode cL_step 87 = .ok (.ireturn, 1) := by decide +kernel
theorem dL_step_88 : decode cL_step 88 = .ok (.iload_n 1, 1) := by decide +kernel
theorem dL_step_89 : decode cL_step 89 = .ok (.bipush 7, 2) := by decide +kernel
theorem dL_step_91 : decode cL_step 91 = .ok (.if_icmp .ne 75, 3) := by decide +kernel
theorem dL_step_94 : decode cL_step 94 = .ok (.iload 6, 2) := by decide +kernel
theorem dL_step_96 : decode cL_step 96 = .ok (.ifCond .eq 70, 3) := by decide +kernel
theorem dL_step_99 : decode cL_step 99 = .ok (.aload 5, 2) := by decide +kernel
theorem dL_step_101 : decode cL_step 101 = .ok (.iconst 1, 1) := by decide +kernel
theorem dL_step_102 : decode cL_step 102 = .ok (.iaload, 1) := by decide +kernel
theorem dL_step_103 : decode cL_step 103 = .ok (.iconst 1, 1) := by decide +kernel
theorem dL_step_104 : decode cL_step 104 = .ok (.if_icmp .ne 7, 3) := by decide +kernel
theorem dL_step_107 : decode cL_step 107 = .ok (.iconst 1, 1) := by decide +kernel
theorem dL_step_108 : decode cL_step 108 = .ok (.goto 4, 3) := by decide +kernel
theorem dL_step_111 : decode cL_step 111 = .ok (.iconst 0, 1) := by decide +kernel
theorem dL_step_112 : decode cL_step 112 = .ok (.istore 7, 2) := by decide +kernel
theorem dL_step_114 : decode cL_step 114 = .ok (.aload 5, 2) := by decide +kernel
theorem dL_step_116 : decode cL_step 116 = .ok (.iconst 1, 1) := by decide +kernel
theorem dL_step_117 : decode cL_step 117 = .ok (.iload_n 2, 1) := by decide +kernel
theorem dL_step_118 : decode cL_step 118 = .ok (.iconst 3, 1) := by decide +kernel
theorem dL_step_119 : decode cL_step 119 = .ok (.irem, 1) := by decide +kernel
theorem dL_step_120 : decode cL_step 120 = .ok (.ifCond .ne 7, 3) := by decide +kernel
theorem dL_step_123 : decode cL_step 123 = .ok (.iconst 1, 1) := by decide +kernel
theorem dL_step_124 : decode cL_step 124 = .ok (.goto 4, 3) := by decide +kernel
theorem dL_step_127 : decode cL_step 127 = .ok (.iconst 0, 1) := by decide +kernel
theorem dL_step_128 : decode cL_step 128 = .ok (.iastore, 1) := by decide +kernel
theorem dL_step_129 : decode cL_step 129 = .ok (.aload 5, 2) := by decide +kernel
theorem dL_step_131 : decode cL_step 131 = .ok (.iconst 2, 1) := by decide +kernel
theorem dL_step_132 : decode cL_step 132 = .ok (.dup2, 1) := by decide +kernel
theorem dL_step_133 : decode cL_step 133 = .ok (.iaload, 1) := by decide +kernel
theorem dL_step_134 : decode cL_step 134 = .ok (.aload 5, 2) := by decide +kernel
theorem dL_step_136 : decode cL_step 136 = .ok (.iconst 1, 1) := by decide +kernel
theorem dL_step_137 : decode cL_step 137 = .ok (.iaload, 1) := by decide +kernel
theorem dL_step_138 : decode cL_step 138 = .ok (.ior, 1) := by decide +kernel
theorem dL_step_139 : decode cL_step 139 = .ok (.iastore, 1) := by decide +kernel
theorem dL_step_140 : decode cL_step 140 = .ok (.aload_n 0, 1) := by decide +kernel
theorem dL_step_141 : decode cL_step 141 = .ok (.iload_n 2, 1) := by decide +kernel
theorem dL_step_142 : decode cL_step 142 = .ok (.iconst 3, 1) := by decide +kernel
theorem dL_step_143 : decode cL_step 143 = .ok (.irem, 1) := by decide +kernel
theorem dL_step_144 : decode cL_step 144 = .ok (.ifCond .ne 7, 3) := by decide +kernel
theorem dL_step_147 : decode cL_step 147 = .ok (.iconst 1, 1) := by decide +kernel
theorem dL_step_148 : decode cL_step 148 = .ok (.goto 4, 3) := by decide +kernel
theorem dL_step_151 : decode cL_step 151 = .ok (.iconst 0, 1) := by decide +kernel
theorem dL_step_152 : decode cL_step 152 = .ok (.invokevirtual 126, 3) := by decide +kernel
theorem dL_step_155 : decode cL_step 155 = .ok (.iload 7, 2) := by decide +kernel
theorem dL_step_157 : decode cL_step 157 = .ok (.if_icmp .ne 7, 3) := by decide +kernel
theorem dL_step_160 : decode cL_step 160 = .ok (.iconst 1, 1) := by decide +kernel
theorem dL_step_161 : decode cL_step 161 = .ok (.goto 4, 3) := by decide +kernel
theorem dL_step_164 : decode cL_step 164 = .ok (.iconst 0, 1) := by decide +kernel
theorem dL_step_165 : decode cL_step 165 = .ok (.ireturn, 1) := by decide +kernel
theorem dL_step_166 : decode cL_step 166 = .ok (.iload_n 1, 1) := by decide +kernel
theorem dL_step_167 : decode cL_step 167 = .ok (.bipush 9, 2) := by decide +kernel
theorem dL_step_169 : decode cL_step 169 = .ok (.if_icmp .ge 11, 3) := by decide +kernel
theorem dL_step_172 : decode cL_step 172 = .ok (.aload_n 0, 1) := by decide +kernel
theorem dL_step_173 : decode cL_step 173 = .ok (.iload_n 2, 1) := by decide +kernel
theorem dL_step_174 : decode cL_step 174 = .ok (.iconst 2, 1) := by decide +kernel
theorem dL_step_175 : decode cL_step 175 = .ok (.irem, 1) := by decide +kernel
theorem dL_step_176 : decode cL_step 176 = .ok (.invokestatic 130, 3) := by decide +kernel
theorem dL_step_179 : decode cL_step 179 = .ok (.ireturn, 1) := by decide +kernel
theorem dL_step_180 : decode cL_step 180 = .ok (.iload_n 1, 1) := by decide +kernel
theorem dL_step_181 : decode cL_step 181 = .ok (.bipush 20, 2) := by decide +kernel
theorem dL_step_183 : decode cL_step 183 = .ok (.if_icmp .ge 37, 3) := by decide +kernel
theorem dL_step_186 : decode cL_step 186 = .ok (.aload_n 0, 1) := by decide +kernel
theorem dL_step_187 : decode cL_step 187 = .ok (.iload_n 2, 1) := by decide +kernel
theorem dL_step_188 : decode cL_step 188 = .ok (.iconst 2, 1) := by decide +kernel
theorem dL_step_189 : decode cL_step 189 = .ok (.irem, 1) := by decide +kernel
theorem dL_step_190 : decode cL_step 190 = .ok (.invokevirtual 88, 3) := by decide +kernel
theorem dL_step_193 : decode cL_step 193 = .ok (.ifCond .le 9, 3) := by decide +kernel
theorem dL_step_196 : decode cL_step 196 = .ok (.iload_n 2, 1) := by decide +kernel
theorem dL_step_197 : decode cL_step 197 = .ok (.iconst 2, 1) := by decide +kernel
theorem dL_step_198 : decode cL_step 198 = .ok (.irem, 1) := by decide +kernel
theorem dL_step_199 : decode cL_step 199 = .ok (.goto 8, 3) := by decide +kernel
theorem dL_step_202 : decode cL_step 202 = .ok (.iconst 1, 1) := by decide +kernel
theorem dL_step_203 : decode cL_step 203 = .ok (.iload_n 2, 1) := by decide +kernel
theorem dL_step_204 : decode cL_step 204 = .ok (.iconst 2, 1) := by decide +kernel
theorem dL_step_205 : decode cL_step 205 = .ok (.irem, 1) := by decide +kernel
theorem dL_step_206 : decode cL_step 206 = .ok (.isub, 1) := by decide +kernel
theorem dL_step_207 : decode cL_step 207 = .ok (.istore 7, 2) := by decide +kernel
theorem dL_step_209 : decode cL_step 209 = .ok (.aload_n 0, 1) := by decide +kernel
theorem dL_step_210 : decode cL_step 210 = .ok (.iload 7, 2) := by decide +kernel
theorem dL_step_212 : decode cL_step 212 = .ok (.aload 4, 2) := by decide +kernel
theorem dL_step_214 : decode cL_step 214 = .ok (.aload 5, 2) := by decide +kernel
theorem dL_step_216 : decode cL_step 216 = .ok (.invokestatic 133, 3) := by decide +kernel
theorem dL_step_219 : decode cL_step 219 = .ok (.ireturn, 1) := by decide +kernel
theorem dL_step_220 : decode cL_step 220 = .ok (.aload_n 0, 1) := by decide +kernel
theorem dL_step_221 : decode cL_step 221 = .ok (.aload 5, 2) := by decide +kernel
theorem dL_step_223 : decode cL_step 223 = .ok (.invokestatic 137, 3) := by decide +kernel
theorem dL_step_226 : decode cL_step 226 = .ok (.ireturn, 1) := by decide +kernel
