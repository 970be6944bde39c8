set_option maxRecDepth 20000 in
theorem ggL_wish_X3_wish : GoodIn wsL_wish wsX3_wish := goodIn_ca (goodIn_ca (goodIn_r _ [7, 8, 9, 10, 11, 12, 13, 14, 6, 15, 16, 17, 18, 19, 20, 21, 22, 23, 24, 25, 26, 27, 28, 29, 30, 31, 32, 33, 34, 35, 36, 37, 38, 39, 40, 41, 42, 43, 44, 45, 46, 47, 48, 49, 50, 51, 52, 53, 54, 55, 56, 57, 58, 59, 60, 61, 62] (by decide +kernel) (by decide +kernel)) (goodIn_sub (fun _ h => List.mem_cons_of_mem _ (List.mem_append_left _ (List.mem_append_right _ h))) (by decide +kernel))) (goodIn_sub (fun _ h => List.mem_cons_of_mem _ (List.mem_append_right _ h)) (by decide +kernel))
set_option maxRecDepth 20000 in
theorem gL_wish_X3_wish : GoodIn wsL_wish (wsV RL 7 RX3 yX3_wish wsX3_wish) := goodIn_app (goodIn_of _ (by decide +kernel)) ggL_wish_X3_wish
set_option maxRecDepth 20000 in
theorem ggL_allow_X3_allow : GoodIn wsL_allow wsX3_allow := goodIn_ca (goodIn_ca (goodIn_r _ [7, 8, 9, 10, 11, 6, 12, 13, 14, 15, 16, 17, 18, 19, 20, 21, 22, 23, 24, 25, 26, 27, 28, 29, 30, 31, 32, 33, 34, 35, 36, 37, 38, 39, 40, 41, 42, 43, 44, 45, 46, 47, 48, 49, 50, 51, 52, 53, 54, 55, 56, 57, 58, 59, 60, 61] (by decide +kernel) (by decide +kernel)) (goodIn_sub (fun _ h => List.mem_cons_of_mem _ (List.mem_append_left _ (List.mem_append_right _ h))) (by decide +kernel))) (goodIn_sub (fun _ h => List.mem_cons_of_mem _ (List.mem_append_right _ h)) (by decide +kernel))
set_option maxRecDepth 20000 in
theorem gL_allow_X3_allow : GoodIn wsL_allow (wsV RL 17 RX3 yX3_allow wsX3_allow) := goodIn_app (goodIn_of _ (by decide +kernel)) ggL_allow_X3_allow
set_option maxRecDepth 20000 in
theorem ggL_refuse_X3_refuse : GoodIn wsL_refuse wsX3_refuse := goodIn_ca (goodIn_ca (goodIn_r _ [7, 8, 9, 10, 6, 11, 12, 13, 14, 15, 16, 17, 18, 19, 20, 21, 22, 23, 24, 25, 26, 27, 28, 29, 30, 31, 32, 33, 34, 35, 36, 37, 38, 39, 40, 41, 42, 43, 44, 45, 46, 47, 48, 49, 50, 51, 52, 53, 54, 55, 56, 57] (by decide +kernel) (by decide +kernel)) (goodIn_sub (fun _ h => List.mem_cons_of_mem _ (List.mem_append_left _ (List.mem_append_right _ h))) (by decide +kernel))) (goodIn_sub (fun _ h => List.mem_cons_of_mem _ (List.mem_append_right _ h)) (by decide +kernel))
set_option maxRecDepth 20000 in
theorem gL_refuse_X3_refuse : GoodIn wsL_refuse (wsV RL 21 RX3 yX3_refuse wsX3_refuse) := goodIn_app (goodIn_of _ (by decide +kernel)) ggL_refuse_X3_refuse
set_option maxRecDepth 20000 in
theorem ggL_open_X3_open : GoodIn wsL_open wsX3_open := goodIn_ca (goodIn_ca (goodIn_r _ [7, 8, 9, 10, 11, 12, 13, 14, 15, 16, 17, 6, 18, 19, 20, 21, 22, 23, 24, 25, 26, 27, 28, 29, 30, 31, 32, 33, 34, 35, 36, 37, 38, 39, 40, 41, 42, 43, 44, 45, 46, 47, 48, 49, 50, 51, 52, 53, 54, 55, 56, 57, 58, 59, 60, 61, 62, 63, 64, 65, 66, 67, 68, 69, 70, 71, 72, 73, 74, 75, 76, 77, 78, 79, 80, 81, 82, 83, 84, 85, 86, 87, 88, 89, 90, 91, 92, 93, 94, 95, 96] (by decide +kernel) (by decide +kernel)) (goodIn_sub (fun _ h => List.mem_cons_of_mem _ (List.mem_append_left _ (List.mem_append_right _ h))) (by decide +kernel))) (goodIn_sub (fun _ h => List.mem_cons_of_mem _ (List.mem_append_right _ h)) (by decide +kernel))
set_option maxRecDepth 20000 in
theorem gL_open_X3_open : GoodIn wsL_open (wsV RL 25 RX3 yX3_open wsX3_open) := goodIn_app (goodIn_of _ (by decide +kernel)) ggL_open_X3_open
set_option maxRecDepth 20000 in
theorem ggL_close_X3_close : GoodIn wsL_close wsX3_close := goodIn_ca (goodIn_ca (goodIn_r _ [7, 8, 9, 10, 11, 12, 13, 6, 14, 15, 16, 17, 18, 19, 20, 21, 22, 23, 24, 25, 26, 27, 28, 29, 30, 31, 32, 33, 34, 35, 36, 37, 38, 39, 40, 41, 42, 43, 44, 45, 46, 47, 48, 49, 50, 51, 52, 53, 54, 55, 56, 57, 58, 59, 60, 61, 62, 63, 64, 65, 66, 67, 68, 69, 70, 71, 72, 73, 74, 75, 76, 77, 78, 79, 80, 81, 82, 83, 84, 85, 86, 87, 88, 89, 90] (by decide +kernel) (by decide +kernel)) (goodIn_sub (fun _ h => List.mem_cons_of_mem _ (List.mem_append_left _ (List.mem_append_right _ h))) (by decide +kernel))) (goodIn_sub (fun _ h => List.mem_cons_of_mem _ (List.mem_append_right _ h)) (by decide +kernel))
set_option maxRecDepth 20000 in
theorem gL_close_X3_close : GoodIn wsL_close (wsV RL 29 RX3 yX3_close wsX3_close) := goodIn_app (goodIn_of _ (by decide +kernel)) ggL_close_X3_close
set_option maxRecDepth 20000 in
theorem ggL_deliver_X3_deliver : GoodIn wsL_deliver wsX3_deliver := goodIn_ca (goodIn_ca (goodIn_r _ [7, 8, 9, 10, 11, 12, 6, 13, 14, 15, 16, 17, 18, 19, 20, 21, 22, 23, 24, 25, 26, 27, 28, 29, 30, 31, 32, 33, 34, 35, 36, 37, 38, 39, 40, 41, 42, 43, 44, 45, 46, 47, 48, 49, 50, 51, 52, 53, 54, 55, 56, 57, 58, 59, 60, 61, 62, 63, 64, 65, 66, 67, 68, 69, 70, 71, 72, 73, 74, 75, 76, 77, 78, 79, 80, 81, 82, 83, 84, 85, 86, 87, 88, 89, 90, 91, 92, 93, 94, 95, 96, 97, 98, 99, 100, 101, 102, 103, 104, 105, 106, 107, 108, 109, 110, 111, 112, 113, 114, 115, 116, 117, 118, 119, 120, 121, 122, 123, 124, 125, 126, 127, 128, 129, 130, 131, 132, 133, 134, 135, 136, 137, 138, 139, 140, 141, 142, 143, 144, 145, 146, 147, 148, 149, 150, 151, 152, 153, 154, 155, 156, 157, 158, 159, 160, 161, 162, 163, 164, 165, 166, 167, 168, 169, 170, 171, 172, 173, 174, 175, 176, 177, 178, 179, 180, 181, 182, 183, 184, 185, 186, 187, 188, 189, 190, 191, 192, 193, 194, 195, 196, 197, 198] (by decide +kernel) (by decide +kernel)) (goodIn_sub (fun _ h => List.mem_cons_of_mem _ (List.mem_append_left _ (List.mem_append_right _ h))) (by decide +kernel))) (goodIn_sub (fun _ h => List.mem_cons_of_mem _ (List.mem_append_right _ h)) (by decide +kernel))
set_option maxRecDepth 20000 in
theorem gL_deliver_X3_deliver : GoodIn wsL_deliver (wsV RL 33 RX3 yX3_deliver wsX3_deliver) := goodIn_app (goodIn_of _ (by decide +kernel)) ggL_deliver_X3_deliver
set_option maxRecDepth 20000 in
theorem ggL_lose_X3_lose : GoodIn wsL_lose wsX3_lose := goodIn_ca (goodIn_ca (goodIn_r _ [7, 8, 9, 10, 6, 11, 12, 13, 14, 15, 16, 17, 18, 19, 20, 21, 22, 23, 24, 25, 26, 27, 28, 29, 30, 31, 32, 33, 34, 35, 36, 37, 38, 39, 40, 41, 42, 43, 44, 45, 46, 47, 48, 49, 50, 51, 52, 53, 54, 55, 56, 57, 58, 59, 60, 61, 62, 63, 64, 65, 66, 67, 68, 69, 70, 71] (by decide +kernel) (by decide +kernel)) (goodIn_sub (fun _ h => List.mem_cons_of_mem _ (List.mem_append_left _ (List.mem_append_right _ h))) (by decide +kernel))) (goodIn_sub (fun _ h => List.mem_cons_of_mem _ (List.mem_append_right _ h)) (by decide +kernel))
set_option maxRecDepth 20000 in
theorem gL_lose_X3_lose : GoodIn wsL_lose (wsV RL 39 RX3 yX3_lose wsX3_lose) := goodIn_app (goodIn_of _ (by decide +kernel)) ggL_lose_X3_lose
set_option maxRecDepth 20000 in
theorem ggL_state_X3_state : GoodIn wsL_state wsX3_state := goodIn_ca (goodIn_r _ [6, 7, 8, 9, 5, 10, 11, 12, 13, 14, 15, 16, 17, 18, 19, 20, 21, 22, 23, 24, 25, 26, 27, 28, 29, 30, 31, 32, 33, 34, 35, 36, 37, 38, 39, 40, 41, 42] (by decide +kernel) (by decide +kernel)) (goodIn_sub (fun _ h => List.mem_cons_of_mem _ (List.mem_append_right _ h)) (by decide +kernel))
set_option maxRecDepth 20000 in
theorem gL_state_X3_state : GoodIn wsL_state (wsV RL 42 RX3 yX3_state wsX3_state) := goodIn_app (goodIn_of _ (by decide +kernel)) ggL_state_X3_state
set_option maxRecDepth 20000 in
theorem ggL_tries_X3_tries : GoodIn wsL_tries wsX3_tries := goodIn_ca (goodIn_r _ [6, 7, 8, 9, 5, 10, 11, 12, 13, 14, 15, 16, 17, 18, 19, 20, 21, 22, 23, 24, 25, 26, 27, 28, 29, 30, 31, 32, 33, 34, 35, 36, 37, 38, 39, 40, 41, 42] (by decide +kernel) (by decide +kernel)) (goodIn_sub (fun _ h => List.mem_cons_of_mem _ (List.mem_append_right _ h)) (by decide +kernel))
set_option maxRecDepth 20000 in
theorem gL_tries_X3_tries : GoodIn wsL_tries (wsV RL 45 RX3 yX3_tries wsX3_tries) := goodIn_app (goodIn_of _ (by decide +kernel)) ggL_tries_X3_tries
set_option maxRecDepth 20000 in
theorem ggL_asked_X3_asked : GoodIn wsL_asked wsX3_asked := goodIn_ca (goodIn_r _ [6, 7, 8, 9, 5, 10, 11, 12, 13, 14, 15, 16, 17, 18, 19, 20, 21, 22, 23, 24, 25, 26, 27, 28, 29, 30, 31, 32, 33, 34, 35, 36, 37, 38, 39, 40, 41, 42, 43, 44, 45] (by decide +kernel) (by decide +kernel)) (goodIn_sub (fun _ h => List.mem_cons_of_mem _ (List.mem_append_right _ h)) (by decide +kernel))
set_option maxRecDepth 20000 in
theorem gL_asked_X3_asked : GoodIn wsL_asked (wsV RL 48 RX3 yX3_asked wsX3_asked) := goodIn_app (goodIn_of _ (by decide +kernel)) ggL_asked_X3_asked
set_option maxRecDepth 20000 in
theorem ggL_granted_X3_granted : GoodIn wsL_granted wsX3_granted := goodIn_ca (goodIn_r _ [6, 7, 8, 9, 10, 5, 11, 12, 13, 14, 15, 16, 17, 18, 19, 20, 21, 22, 23, 24, 25, 26, 27, 28, 29, 30, 31, 32, 33, 34, 35, 36, 37, 38, 39, 40, 41, 42, 43, 44, 45, 46] (by decide +kernel) (by decide +kernel)) (goodIn_sub (fun _ h => List.mem_cons_of_mem _ (List.mem_append_right _ h)) (by decide +kernel))
set_option maxRecDepth 20000 in
theorem gL_granted_X3_granted : GoodIn wsL_granted (wsV RL 52 RX3 yX3_granted wsX3_granted) := goodIn_app (goodIn_of _ (by decide +kernel)) ggL_granted_X3_granted
set_option maxRecDepth 20000 in
theorem ggL_allowed_X3_allowed : GoodIn wsL_allowed wsX3_allowed := goodIn_ca (goodIn_r _ [6, 7, 8, 9, 10, 5, 11, 12, 13, 14, 15, 16, 17, 18, 19, 20, 21, 22, 23, 24, 25, 26, 27, 28, 29, 30, 31, 32, 33, 34, 35, 36, 37, 38, 39, 40, 41, 42, 43, 44, 45, 46] (by decide +kernel) (by decide +kernel)) (goodIn_sub (fun _ h => List.mem_cons_of_mem _ (List.mem_append_right _ h)) (by decide +kernel))
set_option maxRecDepth 20000 in
theorem gL_allowed_X3_allowed : GoodIn wsL_allowed (wsV RL 55 RX3 yX3_allowed wsX3_allowed) := goodIn_app (goodIn_of _ (by decide +kernel)) ggL_allowed_X3_allowed
set_option maxRecDepth 20000 in
theorem ggL_waiting_X3_waiting : GoodIn wsL_waiting wsX3_waiting := goodIn_ca (goodIn_r _ [6, 7, 8, 9, 10, 5, 11, 12, 13, 14, 15, 16, 17, 18, 19, 20, 21, 22, 23, 24, 25, 26, 27, 28, 29, 30, 31, 32, 33, 34, 35, 36, 37, 38, 39, 40, 41, 42, 43, 44, 45, 46, 47, 48, 49] (by decide +kernel) (by decide +kernel)) (goodIn_sub (fun _ h => List.mem_cons_of_mem _ (List.mem_append_right _ h)) (by decide +kernel))
set_option maxRecDepth 20000 in
theorem gL_waiting_X3_waiting : GoodIn wsL_waiting (wsV RL 58 RX3 yX3_waiting wsX3_waiting) := goodIn_app (goodIn_of _ (by decide +kernel)) ggL_waiting_X3_waiting
set_option maxRecDepth 20000 in
theorem ggL_kindAt_X3_kindAt : GoodIn wsL_kindAt wsX3_kindAt := goodIn_ca (goodIn_ca (goodIn_r _ [7, 8, 9, 10, 6, 11, 12, 13, 14, 15, 16, 17, 18, 19, 20, 21, 22, 23, 24, 25, 26, 27, 28, 29, 30, 31, 32, 33, 34, 35, 36, 37, 38, 39, 40, 41, 42, 43, 44, 45, 46, 47, 48, 49, 50, 51, 52, 53, 54, 55, 56, 57, 58, 59, 60, 61, 62, 63, 64, 65, 66] (by decide +kernel) (by decide +kernel)) (goodIn_sub (fun _ h => List.mem_cons_of_mem _ (List.mem_append_left _ (List.mem_append_right _ h))) (by decide +kernel))) (goodIn_sub (fun _ h => List.mem_cons_of_mem _ (List.mem_append_right _ h)) (by decide +kernel))
set_option maxRecDepth 20000 in
theorem gL_kindAt_X3_kindAt : GoodIn wsL_kindAt (wsV RL 61 RX3 yX3_kindAt wsX3_kindAt) := goodIn_app (goodIn_of _ (by decide +kernel)) ggL_kindAt_X3_kindAt
set_option maxRecDepth 20000 in
theorem ggL_lineLength_X3_lineLength : GoodIn wsL_lineLength wsX3_lineLength := goodIn_ca (goodIn_r _ [6, 7, 8, 9, 5, 10, 11, 12, 13, 14, 15, 16, 17, 18, 19, 20, 21, 22, 23, 24, 25, 26, 27, 28, 29, 30, 31, 32, 33, 34, 35, 36, 37, 38, 39, 40, 41, 42, 43, 44, 45, 46, 47, 48, 49, 50, 51, 52, 53, 54, 55, 56, 57, 58, 59, 60, 61, 62, 63, 64, 65, 66, 67, 68, 69, 70, 71, 72, 73, 74, 75, 76, 77, 78, 79, 80, 81, 82, 83, 84, 85, 86, 87, 88, 89, 90, 91, 92, 93, 94, 95, 96, 97, 98, 99, 100, 101, 102, 103, 104, 105, 106, 107, 108, 109, 110, 111, 112, 113, 114, 115, 116, 117, 118, 119, 120, 121, 122, 123, 124, 125, 126, 127, 128, 129, 130, 131, 132, 133, 134, 135, 136, 137, 138, 139, 140, 141, 142, 143, 144, 145, 146, 147, 148, 149, 150, 151, 152, 153, 154, 155, 156, 157, 158, 159, 160, 161, 162, 163, 164, 165, 166, 167, 168, 169, 170, 171, 172, 173, 174, 175, 176, 177, 178, 179, 180, 181, 182, 183, 184, 185, 186, 187, 188, 189, 190, 191, 192, 193, 194, 195, 196, 197, 198, 199, 200, 201, 202, 203, 204, 205, 206, 207, 208, 209, 210, 211, 212, 213, 214, 215, 216, 217, 218, 219, 220, 221, 222, 223, 224, 225, 226, 227, 228, 229, 230, 231, 232, 233, 234, 235, 236, 237, 238, 239, 240, 241, 242, 243, 244, 245, 246, 247, 248, 249, 250, 251, 252, 253, 254, 255, 256, 257, 258, 259, 260, 261, 262, 263, 264, 265, 266, 267, 268, 269, 270, 271, 272, 273, 274, 275, 276, 277, 278, 279, 280, 281, 282, 283, 284, 285, 286] (by decide +kernel) (by decide +kernel)) (goodIn_sub (fun _ h => List.mem_cons_of_mem _ (List.mem_append_right _ h)) (by decide +kernel))
set_option maxRecDepth 20000 in
theorem gL_lineLength_X3_lineLength : GoodIn wsL_lineLength (wsV RL 64 RX3 yX3_lineLength wsX3_lineLength) := goodIn_app (goodIn_of _ (by decide +kernel)) ggL_lineLength_X3_lineLength
set_option maxRecDepth 20000 in
theorem ggL_lineChar_X3_lineChar : GoodIn wsL_lineChar wsX3_lineChar := goodIn_ca (goodIn_ca (goodIn_r _ [7, 8, 9, 10, 11, 12, 6, 13, 14, 15, 16, 17, 18, 19, 20, 21, 22, 23, 24, 25, 26, 27, 28, 29, 30, 31, 32, 33, 34, 35, 36, 37, 38, 39, 40, 41, 42, 43, 44, 45, 46, 47, 48, 49, 50, 51, 52, 53, 54, 55, 56, 57, 58, 59, 60, 61, 62, 63, 64, 65, 66, 67, 68, 69, 70, 71, 72, 73, 74, 75, 76, 77, 78, 79, 80, 81, 82, 83, 84, 85, 86, 87, 88, 89, 90, 91, 92, 93, 94, 95, 96, 97, 98, 99, 100, 101, 102, 103, 104, 105, 106, 107, 108, 109, 110, 111, 112, 113, 114, 115, 116, 117, 118, 119, 120, 121, 122, 123, 124, 125, 126, 127, 128, 129, 130, 131, 132, 133, 134, 135, 136, 137, 138, 139, 140, 141, 142, 143, 144, 145, 146, 147, 148, 149, 150, 151, 152, 153, 154, 155, 156, 157, 158, 159, 160, 161, 162, 163, 164, 165, 166, 167, 168, 169, 170, 171, 172, 173, 174, 175, 176, 177, 178, 179, 180, 181, 182, 183, 184, 185, 186, 187, 188, 189, 190, 191, 192, 193, 194, 195, 196, 197, 198, 199, 200, 201, 202, 203, 204, 205, 206, 207, 208, 209, 210, 211, 212, 213, 214, 215, 216, 217, 218, 219, 220, 221, 222, 223, 224, 225, 226, 227, 228, 229, 230, 231, 232, 233, 234, 235, 236, 237, 238, 239, 240, 241, 242, 243, 244, 245, 246, 247, 248, 249, 250, 251, 252, 253, 254, 255, 256, 257, 258, 259, 260, 261, 262, 263, 264, 265, 266, 267, 268, 269, 270, 271, 272, 273, 274, 275, 276, 277, 278, 279, 280, 281, 282, 283, 284, 285, 286, 287, 288, 289, 290, 291, 292, 293, 294, 295, 296, 297, 298, 299, 300, 301, 302] (by decide +kernel) (by decide +kernel)) (goodIn_sub (fun _ h => List.mem_cons_of_mem _ (List.mem_append_left _ (List.mem_append_right _ h))) (by decide +kernel))) (goodIn_sub (fun _ h => List.mem_cons_of_mem _ (List.mem_append_right _ h)) (by decide +kernel))
set_option maxRecDepth 20000 in
theorem gL_lineChar_X3_lineChar : GoodIn wsL_lineChar (wsV RL 67 RX3 yX3_lineChar wsX3_lineChar) := goodIn_app (goodIn_of _ (by decide +kernel)) ggL_lineChar_X3_lineChar
theorem dL_wish_0 : decode cL_wish 0 = .ok (.aload 6, 2) := by decide +kernel
theorem dL_wish_2 : decode cL_wish 2 = .ok (.iconst 0, 1) := by decide +kernel
theorem dL_wish_3 : decode cL_wish 3 = .ok (.aload_n 0, 1) := by decide +kernel
theorem dL_wish_4 : decode cL_wish 4 = .ok (.iload_n 1, 1) := by decide +kernel
theorem dL_wish_5 : decode cL_wish 5 = .ok (.iload_n 2, 1) := by decide +kernel
theorem dL_wish_6 : decode cL_wish 6 = .ok (.iload_n 3, 1) := by decide +kernel
theorem dL_wish_7 : decode cL_wish 7 = .ok (.iload 4, 2) := by decide +kernel
theorem dL_wish_9 : decode cL_wish 9 = .ok (.iload 5, 2) := by decide +kernel
theorem dL_wish_11 : decode cL_wish 11 = .ok (.invokevirtual 7, 3) := by decide +kernel
theorem dL_wish_14 : decode cL_wish 14 = .ok (.i2l, 1) := by decide +kernel
theorem dL_wish_15 : decode cL_wish 15 = .ok (.lastore, 1) := by decide +kernel
theorem dL_wish_16 : decode cL_wish 16 = .ok (.goto 11, 3) := by decide +kernel
theorem dL_wish_19 : decode cL_wish 19 = .ok (.astore 7, 2) := by decide +kernel
theorem dL_wish_21 : decode cL_wish 21 = .ok (.iconst 1, 1) := by decide +kernel
theorem dL_wish_22 : decode cL_wish 22 = .ok (.ireturn, 1) := by decide +kernel
theorem dL_wish_23 : decode cL_wish 23 = .ok (.astore 7, 2) := by decide +kernel
theorem dL_wish_25 : decode cL_wish 25 = .ok (.iconst 2, 1) := by decide +kernel
theorem dL_wish_26 : decode cL_wish 26 = .ok (.ireturn, 1) := by decide +kernel
theorem dL_wish_27 : decode cL_wish 27 = .ok (.iconst 0, 1) := by decide +kernel
theorem dL_wish_28 : decode cL_wish 28 = .ok (.ireturn, 1) := by decide +kernel
theorem dL_allow_0 : decode cL_allow 0 = .ok (.aload_n 0, 1) := by decide +kernel
theorem dL_allow_1 : decode cL_allow 1 = .ok (.iload_n 1, 1) := by decide +kernel
theorem dL_allow_2 : decode cL_allow 2 = .ok (.iload_n 2, 1) := by decide +kernel
theorem dL_allow_3 : decode cL_allow 3 = .ok (.iload_n 3, 1) := by decide +kernel
theorem dL_allow_4 : decode cL_allow 4 = .ok (.iload 4, 2) := by decide +kernel
theorem dL_allow_6 : decode cL_allow 6 = .ok (.invokevirtual 17, 3) := by decide +kernel
theorem dL_allow_9 : decode cL_allow 9 = .ok (.goto 11, 3) := by decide +kernel
theorem dL_allow_12 : decode cL_allow 12 = .ok (.astore 5, 2) := by decide +kernel
theorem dL_allow_14 : decode cL_allow 14 = .ok (.iconst 1, 1) := by decide +kernel
theorem dL_allow_15 : decode cL_allow 15 = .ok (.ireturn, 1) := by decide +kernel
theorem dL_allow_16 : decode cL_allow 16 = .ok (.astore 5, 2) := by decide +kernel
theorem dL_allow_18 : decode cL_allow 18 = .ok (.iconst 2, 1) := by decide +kernel
theorem dL_allow_19 : decode cL_allow 19 = .ok (.ireturn, 1) := by decide +kernel
theorem dL_allow_20 : decode cL_allow 20 = .ok (.iconst 0, 1) := by decide +kernel
theorem dL_allow_21 : decode cL_allow 21 = .ok (.ireturn, 1) := by decide +kernel
theorem dL_refuse_0 : decode cL_refuse 0 = .ok (.aload 4, 2) := by decide +kernel
theorem dL_refuse_2 : decode cL_refuse 2 = .ok (.iconst 0, 1) := by decide +kernel
theorem dL_refuse_3 : decode cL_refuse 3 = .ok (.aload_n 0, 1) := by decide +kernel
theorem dL_refuse_4 : decode cL_refuse 4 = .ok (.iload_n 1, 1) := by decide +kernel
theorem dL_refuse_5 : decode cL_refuse 5 = .ok (.iload_n 2, 1) := by decide +kernel
theorem dL_refuse_6 : decode cL_refuse 6 = .ok (.iload_n 3, 1) := by decide +kernel
theorem dL_refuse_7 : decode cL_refuse 7 = .ok (.invokevirtual 21, 3) := by decide +kernel
theorem dL_refuse_10 : decode cL_refuse 10 = .ok (.ifCond .eq 7, 3) := by decide +kernel
theorem dL_refuse_13 : decode cL_refuse 13 = .ok (.lconst 1, 1) := by decide +kernel
theorem dL_refuse_14 : decode cL_refuse 14 = .ok (.goto 4, 3) := by decide +kernel
theorem dL_refuse_17 : decode cL_refuse 17 = .ok (.lconst 0, 1) := by decide +kernel
theorem dL_refuse_18 : decode cL_refuse 18 = .ok (.lastore, 1) := by decide +kernel
theorem dL_refuse_19 : decode cL_refuse 19 = .ok (.goto 11, 3) := by decide +kernel
theorem dL_refuse_22 : decode cL_refuse 22 = .ok (.astore 5, 2) := by decide +kernel
theorem dL_refuse_24 : decode cL_refuse 24 = .ok (.iconst 1, 1) := by decide +kernel
theorem dL_refuse_25 : decode cL_refuse 25 = .ok (.ireturn, 1) := by decide +kernel
theorem dL_refuse_26 : decode cL_refuse 26 = .ok (.astore 5, 2) := by decide +kernel
theorem dL_refuse_28 : decode cL_refuse 28 = .ok (.iconst 2, 1) := by decide +kernel
theorem dL_refuse_29 : decode cL_refuse 29 = .ok (.ireturn, 1) := by decide +kernel
theorem dL_refuse_30 : decode cL_refuse 30 = .ok (.iconst 0, 1) := by decide +kernel
theorem dL_refuse_31 : decode cL_refuse 31 = .ok (.ireturn, 1) := by decide +kernel
theorem dL_open_0 : decode cL_open 0 = .ok (.aload_n 0, 1) := by decide +kernel
theorem dL_open_1 : decode cL_open 1 = .ok (.iload_n 1, 1) := by decide +kernel
theorem dL_open_2 : decode cL_open 2 = .ok (.iload_n 2, 1) := by decide +kernel
theorem dL_open_3 : decode cL_open 3 = .ok (.invokevirtual 25, 3) := by decide +kernel
theorem dL_open_6 : decode cL_open 6 = .ok (.goto 9, 3) := by decide +kernel
theorem dL_open_9 : decode cL_open 9 = .ok (.astore_n 3, 1) := by decide +kernel
theorem dL_open_10 : decode cL_open 10 = .ok (.iconst 1, 1) := by decide +kernel
theorem dL_open_11 : decode cL_open 11 = .ok (.ireturn, 1) := by decide +kernel
theorem dL_open_12 : decode cL_open 12 = .ok (.astore_n 3, 1) := by decide +kernel
theorem dL_open_13 : decode cL_open 13 = .ok (.iconst 2, 1) := by decide +kernel
theorem dL_open_14 : decode cL_open 14 = .ok (.ireturn, 1) := by decide +kernel
theorem dL_open_15 : decode cL_open 15 = .ok (.iconst 0, 1) := by decide +kernel
theorem dL_open_16 : decode cL_open 16 = .ok (.ireturn, 1) := by decide +kernel
theorem dL_close_0 : decode cL_close 0 = .ok (.aload_n 0, 1) := by decide +kernel
theorem dL_close_1 : decode cL_close 1 = .ok (.iload_n 1, 1) := by decide +kernel
theorem dL_close_2 : decode cL_close 2 = .ok (.invokevirtual 29, 3) := by decide +kernel
theorem dL_close_5 : decode cL_close 5 = .ok (.goto 9, 3) := by decide +kernel
theorem dL_close_8 : decode cL_close 8 = .ok (.astore_n 2, 1) := by decide +kernel
theorem dL_close_9 : decode cL_close 9 = .ok (.iconst 1, 1) := by decide +kernel
theorem dL_close_10 : decode cL_close 10 = .ok (.ireturn, 1) := by decide +kernel
theorem dL_close_11 : decode cL_close 11 = .ok (.astore_n 2, 1) := by decide +kernel
theorem dL_close_12 : decode cL_close 12 = .ok (.iconst 2, 1) := by decide +kernel
theorem dL_close_13 : decode cL_close 13 = .ok (.ireturn, 1) := by decide +kernel
theorem dL_close_14 : decode cL_close 14 = .ok (.iconst 0, 1) := by decide +kernel
theorem dL_close_15 : decode cL_close 15 = .ok (.ireturn, 1) := by decide +kernel
theorem dL_deliver_0 : decode cL_deliver 0 = .ok (.aload_n 2, 1) := by decide +kernel
theorem dL_deliver_1 : decode cL_deliver 1 = .ok (.iconst 0, 1) := by decide +kernel
theorem dL_deliver_2 : decode cL_deliver 2 = .ok (.aload_n 0, 1) := by decide +kernel
theorem dL_deliver_3 : decode cL_deliver 3 = .ok (.iload_n 1, 1) := by decide +kernel
theorem dL_deliver_4 : decode cL_deliver 4 = .ok (.invokevirtual 33, 3) := by decide +kernel
theorem dL_deliver_7 : decode cL_deliver 7 = .ok (.i2l, 1) := by decide +kernel
theorem dL_deliver_8 : decode cL_deliver 8 = .ok (.lastore, 1) := by decide +kernel
theorem dL_deliver_9 : decode cL_deliver 9 = .ok (.goto 9, 3) := by decide +kernel
theorem dL_deliver_12 : decode cL_deliver 12 = .ok (.astore_n 3, 1) := by decide +kernel
theorem dL_deliver_13 : decode cL_deliver 13 = .ok (.iconst 1, 1) := by decide +kernel
theorem dL_deliver_14 : decode cL_deliver 14 = .ok (.ireturn, 1) := by decide +kernel
theorem dL_deliver_15 : decode cL_deliver 15 = .ok (.astore_n 3, 1) := by decide +kernel
theorem dL_deliver_16 : decode cL_deliver 16 = .ok (.iconst 2, 1) := by decide +kernel
theorem dL_deliver_17 : decode cL_deliver 17 = .ok (.ireturn, 1) := by decide +kernel
theorem dL_deliver_18 : decode cL_deliver 18 = .ok (.iconst 0, 1) := by decide +kernel
theorem dL_deliver_19 : decode cL_deliver 19 = .ok (.ireturn, 1) := by decide +kernel
theorem dL_lose_0 : decode cL_lose 0 = .ok (.aload_n 2, 1) := by decide +kernel
theorem dL_lose_1 : decode cL_lose 1 = .ok (.iconst 0, 1) := by decide +kernel
theorem dL_lose_2 : decode cL_lose 2 = .ok (.aload_n 0, 1) := by decide +kernel
theorem dL_lose_3 : decode cL_lose 3 = .ok (.iload_n 1, 1) := by decide +kernel
theorem dL_lose_4 : decode cL_lose 4 = .ok (.invokevirtual 39, 3) := by decide +kernel
theorem dL_lose_7 : decode cL_lose 7 = .ok (.i2l, 1) := by decide +kernel
theorem dL_lose_8 : decode cL_lose 8 = .ok (.lastore, 1) := by decide +kernel
theorem dL_lose_9 : decode cL_lose 9 = .ok (.goto 9, 3) := by decide +kernel
theorem dL_lose_12 : decode cL_lose 12 = .ok (.astore_n 3, 1) := by decide +kernel
theorem dL_lose_13 : decode cL_lose 13 = .ok (.iconst 1, 1) := by decide +kernel
theorem dL_lose_14 : decode cL_lose 14 = .ok (.ireturn, 1) := by decide +kernel
theorem dL_lose_15 : decode cL_lose 15 = .ok (.astore_n 3, 1) := by decide +kernel
theorem dL_lose_16 : decode cL_lose 16 = .ok (.iconst 2, 1) := by decide +kernel
theorem dL_lose_17 : decode cL_lose 17 = .ok (.ireturn, 1) := by decide +kernel
theorem dL_lose_18 : decode cL_lose 18 = .ok (.iconst 0, 1) := by decide +kernel
theorem dL_lose_19 : decode cL_lose 19 = .ok (.ireturn, 1) := by decide +kernel
theorem dL_state_0 : decode cL_state 0 = .ok (.aload_n 2, 1) := by decide +kernel
theorem dL_state_1 : decode cL_state 1 = .ok (.iconst 0, 1) := by decide +kernel
theorem dL_state_2 : decode cL_state 2 = .ok (.aload_n 0, 1) := by decide +kernel
theorem dL_state_3 : decode cL_state 3 = .ok (.iload_n 1, 1) := by decide +kernel
theorem dL_state_4 : decode cL_state 4 = .ok (.invokevirtual 42, 3) := by decide +kernel
theorem dL_state_7 : decode cL_state 7 = .ok (.i2l, 1) := by decide +kernel
theorem dL_state_8 : decode cL_state 8 = .ok (.lastore, 1) := by decide +kernel
theorem dL_state_9 : decode cL_state 9 = .ok (.goto 6, 3) := by decide +kernel
theorem dL_state_12 : decode cL_state 12 = .ok (.astore_n 3, 1) := by decide +kernel
theorem dL_state_13 : decode cL_state 13 = .ok (.iconst 1, 1) := by decide +kernel
theorem dL_state_14 : decode cL_state 14 = .ok (.ireturn, 1) := by decide +kernel
theorem dL_state_15 : decode cL_state 15 = .ok (.iconst 0, 1) := by decide +kernel
theorem dL_state_16 : decode cL_state 16 = .ok (.ireturn, 1) := by decide +kernel
theorem dL_tries_0 : decode cL_tries 0 = .ok (.aload_n 2, 1) := by decide +kernel
theorem dL_tries_1 : decode cL_tries 1 = .ok (.iconst 0, 1) := by decide +kernel
theorem dL_tries_2 : decode cL_tries 2 = .ok (.aload_n 0, 1) := by decide +kernel
theorem dL_tries_3 : decode cL_tries 3 = .ok (.iload_n 1, 1) := by decide +kernel
theorem dL_tries_4 : decode cL_tries 4 = .ok (.invokevirtual 45, 3) := by decide +kernel
theorem dL_tries_7 : decode cL_tries 7 = .ok (.i2l, 1) := by decide +kernel
theorem dL_tries_8 : decode cL_tries 8 = .ok (.lastore, 1) := by decide +kernel
theorem dL_tries_9 : decode cL_tries 9 = .ok (.goto 6, 3) := by decide +kernel
theorem dL_tries_12 : decode cL_tries 12 = .ok (.astore_n 3, 1) := by decide +kernel
theorem dL_tries_13 : decode cL_tries 13 = .ok (.iconst 1, 1) := by decide +kernel
theorem dL_tries_14 : decode cL_tries 14 = .ok (.ireturn, 1) := by decide +kernel
theorem dL_tries_15 : decode cL_tries 15 = .ok (.iconst 0, 1) := by decide +kernel
theorem dL_tries_16 : decode cL_tries 16 = .ok (.ireturn, 1) := by decide +kernel
theorem dL_asked_0 : decode cL_asked 0 = .ok (.aload_n 3, 1) := by decide +kernel
theorem dL_asked_1 : decode cL_asked 1 = .ok (.iconst 0, 1) := by decide +kernel
theorem dL_asked_2 : decode cL_asked 2 = .ok (.aload_n 0, 1) := by decide +kernel
theorem dL_asked_3 : decode cL_asked 3 = .ok (.iload_n 1, 1) := by decide +kernel
theorem dL_asked_4 : decode cL_asked 4 = .ok (.iload_n 2, 1) := by decide +kernel
theorem dL_asked_5 : decode cL_asked 5 = .ok (.invokevirtual 48, 3) := by decide +kernel
theorem dL_asked_8 : decode cL_asked 8 = .ok (.i2l, 1) := by decide +kernel
theorem dL_asked_9 : decode cL_asked 9 = .ok (.lastore, 1) := by decide +kernel
theorem dL_asked_10 : decode cL_asked 10 = .ok (.goto 7, 3) := by decide +kernel
theorem dL_asked_13 : decode cL_asked 13 = .ok (.astore 4, 2) := by decide +kernel
theorem dL_asked_15 : decode cL_asked 15 = .ok (.iconst 1, 1) := by decide +kernel
theorem dL_asked_16 : decode cL_asked 16 = .ok (.ireturn, 1) := by decide +kernel
theorem dL_asked_17 : decode cL_asked 17 = .ok (.iconst 0, 1) := by decide +kernel
theorem dL_asked_18 : decode cL_asked 18 = .ok (.ireturn, 1) := by decide +kernel
theorem dL_granted_0 : decode cL_granted 0 = .ok (.aload_n 3, 1) := by decide +kernel
theorem dL_granted_1 : decode cL_granted 1 = .ok (.iconst 0, 1) := by decide +kernel
theorem dL_granted_2 : decode cL_granted 2 = .ok (.aload_n 0, 1) := by decide +kernel
theorem dL_granted_3 : decode cL_granted 3 = .ok (.iload_n 1, 1) := by decide +kernel
theorem dL_granted_4 : decode cL_granted 4 = .ok (.iload_n 2, 1) := by decide +kernel
theorem dL_granted_5 : decode cL_granted 5 = .ok (.invokevirtual 52, 3) := by decide +kernel
theorem dL_granted_8 : decode cL_granted 8 = .ok (.i2l, 1) := by decide +kernel
theorem dL_granted_9 : decode cL_granted 9 = .ok (.lastore, 1) := by decide +kernel
theorem dL_granted_10 : decode cL_granted 10 = .ok (.goto 7, 3) := by decide +kernel
theorem dL_granted_13 : decode cL_granted 13 = .ok (.astore 4, 2) := by decide +kernel
theorem dL_granted_15 : decode cL_granted 15 = .ok (.iconst 1, 1) := by decide +kernel
theorem dL_granted_16 : decode cL_granted 16 = .ok (.ireturn, 1) := by decide +kernel
theorem dL_granted_17 : decode cL_granted 17 = .ok (.iconst 0, 1) := by decide +kernel
theorem dL_granted_18 : decode cL_granted 18 = .ok (.ireturn, 1) := by decide +kernel
theorem dL_allowed_0 : decode cL_allowed 0 = .ok (.aload_n 3, 1) := by decide +kernel
theorem dL_allowed_1 : decode cL_allowed 1 = .ok (.iconst 0, 1) := by decide +kernel
theorem dL_allowed_2 : decode cL_allowed 2 = .ok (.aload_n 0, 1) := by decide +kernel
theorem dL_allowed_3 : decode cL_allowed 3 = .ok (.iload_n 1, 1) := by decide +kernel
theorem dL_allowed_4 : decode cL_allowed 4 = .ok (.iload_n 2, 1) := by decide +kernel
theorem dL_allowed_5 : decode cL_allowed 5 = .ok (.invokevirtual 55, 3) := by decide +kernel
theorem dL_allowed_8 : decode cL_allowed 8 = .ok (.i2l, 1) := by decide +kernel
theorem dL_allowed_9 : decode cL_allowed 9 = .ok (.lastore, 1) := by decide +kernel
theorem dL_allowed_10 : decode cL_allowed 10 = .ok (.goto 7, 3) := by decide +kernel
theorem dL_allowed_13 : decode cL_allowed 13 = .ok (.astore 4, 2) := by decide +kernel
theorem dL_allowed_15 : decode cL_allowed 15 = .ok (.iconst 1, 1) := by decide +kernel
theorem dL_allowed_16 : decode cL_allowed 16 = .ok (.ireturn, 1) := by decide +kernel
theorem dL_allowed_17 : decode cL_allowed 17 = .ok (.iconst 0, 1) := by decide +kernel
theorem dL_allowed_18 : decode cL_allowed 18 = .ok (.ireturn, 1) := by decide +kernel
theorem dL_waiting_0 : decode cL_waiting 0 = .ok (.aload_n 2, 1) := by decide +kernel
theorem dL_waiting_1 : decode cL_waiting 1 = .ok (.iconst 0, 1) := by decide +kernel
theorem dL_waiting_2 : decode cL_waiting 2 = .ok (.aload_n 0, 1) := by decide +kernel
theorem dL_waiting_3 : decode cL_waiting 3 = .ok (.iload_n 1, 1) := by decide +kernel
theorem dL_waiting_4 : decode cL_waiting 4 = .ok (.invokevirtual 58, 3) := by decide +kernel
theorem dL_waiting_7 : decode cL_waiting 7 = .ok (.i2l, 1) := by decide +kernel
theorem dL_waiting_8 : decode cL_waiting 8 = .ok (.lastore, 1) := by decide +kernel
theorem dL_waiting_9 : decode cL_waiting 9 = .ok (.goto 6, 3) := by decide +kernel
theorem dL_waiting_12 : decode cL_waiting 12 = .ok (.astore_n 3, 1) := by decide +kernel
theorem dL_waiting_13 : decode cL_waiting 13 = .ok (.iconst 1, 1) := by decide +kernel
theorem dL_waiting_14 : decode cL_waiting 14 = .ok (.ireturn, 1) := by decide +kernel
theorem dL_waiting_15 : decode cL_waiting 15 = .ok (.iconst 0, 1) := by decide +kernel
theorem dL_waiting_16 : decode cL_waiting 16 = .ok (.ireturn, 1) := by decide +kernel
theorem dL_kindAt_0 : decode cL_kindAt 0 = .ok (.aload_n 3, 1) := by decide +kernel
theorem dL_kindAt_1 : decode cL_kindAt 1 = .ok (.iconst 0, 1) := by decide +kernel
theorem dL_kindAt_2 : decode cL_kindAt 2 = .ok (.aload_n 0, 1) := by decide +kernel
theorem dL_kindAt_3 : decode cL_kindAt 3 = .ok (.iload_n 1, 1) := by decide +kernel
theorem dL_kindAt_4 : decode cL_kindAt 4 = .ok (.iload_n 2, 1) := by decide +kernel
theorem dL_kindAt_5 : decode cL_kindAt 5 = .ok (.invokevirtual 61, 3) := by decide +kernel
theorem dL_kindAt_8 : decode cL_kindAt 8 = .ok (.i2l, 1) := by decide +kernel
theorem dL_kindAt_9 : decode cL_kindAt 9 = .ok (.lastore, 1) := by decide +kernel
theorem dL_kindAt_10 : decode cL_kindAt 10 = .ok (.goto 11, 3) := by decide +kernel
theorem dL_kindAt_13 : decode cL_kindAt 13 = .ok (.astore 4, 2) := by decide +kernel
theorem dL_kindAt_15 : decode cL_kindAt 15 = .ok (.iconst 1, 1) := by decide +kernel
theorem dL_kindAt_16 : decode cL_kindAt 16 = .ok (.ireturn, 1) := by decide +kernel
theorem dL_kindAt_17 : decode cL_kindAt 17 = .ok (.astore 4, 2) := by decide +kernel
theorem dL_kindAt_19 : decode cL_kindAt 19 = .ok (.iconst 2, 1) := by decide +kernel
theorem dL_kindAt_20 : decode cL_kindAt 20 = .ok (.ireturn, 1) := by decide +kernel
theorem dL_kindAt_21 : decode cL_kindAt 21 = .ok (.iconst 0, 1) := by decide +kernel
theorem dL_kindAt_22 : decode cL_kindAt 22 = .ok (.ireturn, 1) := by decide +kernel
theorem dL_lineLength_0 : decode cL_lineLength 0 = .ok (.aload_n 2, 1) := by decide +kernel
theorem dL_lineLength_1 : decode cL_lineLength 1 = .ok (.iconst 0, 1) := by decide +kernel
theorem dL_lineLength_2 : decode cL_lineLength 2 = .ok (.aload_n 0, 1) := by decide +kernel
theorem dL_lineLength_3 : decode cL_lineLength 3 = .ok (.iload_n 1, 1) := by decide +kernel
theorem dL_lineLength_4 : decode cL_lineLength 4 = .ok (.invokevirtual 64, 3) := by decide +kernel
theorem dL_lineLength_7 : decode cL_lineLength 7 = .ok (.i2l, 1) := by decide +kernel
theorem dL_lineLength_8 : decode cL_lineLength 8 = .ok (.lastore, 1) := by decide +kernel
theorem dL_lineLength_9 : decode cL_lineLength 9 = .ok (.goto 6, 3) := by decide +kernel
theorem dL_lineLength_12 : decode cL_lineLength 12 = .ok (.astore_n 3, 1) := by decide +kernel
theorem dL_lineLength_13 : decode cL_lineLength 13 = .ok (.iconst 1, 1) := by decide +kernel
theorem dL_lineLength_14 : decode cL_lineLength 14 = .ok (.ireturn, 1) := by decide +kernel
theorem dL_lineLength_15 : decode cL_lineLength 15 = .ok (.iconst 0, 1) := by decide +kernel
theorem dL_lineLength_16 : decode cL_lineLength 16 = .ok (.ireturn, 1) := by decide +kernel
theorem dL_lineChar_0 : decode cL_lineChar 0 = .ok (.aload_n 3, 1) := by decide +kernel
theorem dL_lineChar_1 : decode cL_lineChar 1 = .ok (.iconst 0, 1) := by decide +kernel
theorem dL_lineChar_2 : decode cL_lineChar 2 = .ok (.aload_n 0, 1) := by decide +kernel
theorem dL_lineChar_3 : decode cL_lineChar 3 = .ok (.iload_n 1, 1) := by decide +kernel
theorem dL_lineChar_4 : decode cL_lineChar 4 = .ok (.iload_n 2, 1) := by decide +kernel
theorem dL_lineChar_5 : decode cL_lineChar 5 = .ok (.invokevirtual 67, 3) := by decide +kernel
theorem dL_lineChar_8 : decode cL_lineChar 8 = .ok (.i2l, 1) := by decide +kernel
theorem dL_lineChar_9 : decode cL_lineChar 9 = .ok (.lastore, 1) := by decide +kernel
theorem dL_lineChar_10 : decode cL_lineChar 10 = .ok (.goto 11, 3) := by decide +kernel
theorem dL_lineChar_13 : decode cL_lineChar 13 = .ok (.astore 4, 2) := by decide +kernel
theorem dL_lineChar_15 : decode cL_lineChar 15 = .ok (.iconst 1, 1) := by decide +kernel
theorem dL_lineChar_16 : decode cL_lineChar 16 = .ok (.ireturn, 1) := by decide +kernel
theorem dL_lineChar_17 : decode cL_lineChar 17 = .ok (.astore 4, 2) := by decide +kernel
theorem dL_lineChar_19 : decode cL_lineChar 19 = .ok (.iconst 2, 1) := by decide +kernel
theorem dL_lineChar_20 : decode cL_lineChar 20 = .ok (.ireturn, 1) := by decide +kernel
theorem dL_lineChar_21 : decode cL_lineChar 21 = .ok (.iconst 0, 1) := by decide +kernel
theorem dL_lineChar_22 : decode cL_lineChar 22 = .ok (.ireturn, 1) := by decide +kernel
