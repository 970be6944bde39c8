set_option maxRecDepth 20000 in
theorem ggL_row_X3_waiting : GoodIn wsL_row wsX3_waiting := goodIn_ca (goodIn_r _ [6, 7, 8, 9, 10, 5, 11, 12, 13, 14, 15, 16, 17, 18, 19, 40, 41, 42, 43, 44, 45, 46, 47, 48, 49, 50, 51, 52, 53, 54, 55, 56, 57, 58, 59, 60, 61, 62, 63, 64, 65, 66, 67, 68, 69] (by decide +kernel) (by decide +kernel)) (goodIn_sub (fun _ h => List.mem_cons_of_mem _ (List.mem_append_left _ (List.mem_append_right _ h))) (by decide +kernel))
set_option maxRecDepth 20000 in
theorem gL_row_X3_waiting : GoodIn wsL_row (wsV RL 88 RX3 yX3_waiting wsX3_waiting) := goodIn_app (goodIn_of _ (by decide +kernel)) ggL_row_X3_waiting
set_option maxRecDepth 20000 in
theorem ggL_row_X3_kindAt : GoodIn wsL_row wsX3_kindAt := goodIn_ca (goodIn_ca (goodIn_r _ [23, 7, 9, 10, 5, 11, 12, 13, 14, 15, 16, 17, 18, 19, 24, 25, 26, 27, 28, 8, 29, 30, 31, 32, 33, 34, 35, 36, 37, 38, 39, 40, 41, 42, 43, 44, 45, 46, 47, 48, 49, 50, 51, 52, 53, 54, 55, 62, 63, 64, 65, 66, 67, 68, 69, 56, 57, 58, 59, 60, 61] (by decide +kernel) (by decide +kernel)) (goodIn_sub (fun _ h => List.mem_cons_of_mem _ (List.mem_append_left _ (List.mem_append_right _ h))) (by decide +kernel))) (goodIn_sub (fun _ h => List.mem_cons_of_mem _ (List.mem_append_right _ h)) (by decide +kernel))
set_option maxRecDepth 20000 in
theorem gL_row_X3_kindAt : GoodIn wsL_row (wsV RL 53 RX3 yX3_kindAt wsX3_kindAt) := goodIn_app (goodIn_of _ (by decide +kernel)) ggL_row_X3_kindAt
theorem dL_row_0 : decode cL_row 0 = .ok (.lconst 0, 1) := by decide +kernel
theorem dL_row_1 : decode cL_row 1 = .ok (.lstore_n 3, 1) := by decide +kernel
theorem dL_row_2 : decode cL_row 2 = .ok (.aload_n 0, 1) := by decide +kernel
theorem dL_row_3 : decode cL_row 3 = .ok (.iload_n 1, 1) := by decide +kernel
theorem dL_row_4 : decode cL_row 4 = .ok (.invokevirtual 88, 3) := by decide +kernel
theorem dL_row_7 : decode cL_row 7 = .ok (.iconst 1, 1) := by decide +kernel
theorem dL_row_8 : decode cL_row 8 = .ok (.isub, 1) := by decide +kernel
theorem dL_row_9 : decode cL_row 9 = .ok (.istore 5, 2) := by decide +kernel
theorem dL_row_11 : decode cL_row 11 = .ok (.iload 5, 2) := by decide +kernel
theorem dL_row_13 : decode cL_row 13 = .ok (.iload_n 2, 1) := by decide +kernel
theorem dL_row_14 : decode cL_row 14 = .ok (.if_icmp .lt 26, 3) := by decide +kernel
theorem dL_row_17 : decode cL_row 17 = .ok (.ldc2_w 105, 3) := by decide +kernel
theorem dL_row_20 : decode cL_row 20 = .ok (.lload_n 3, 1) := by decide +kernel
theorem dL_row_21 : decode cL_row 21 = .ok (.lmul, 1) := by decide +kernel
theorem dL_row_22 : decode cL_row 22 = .ok (.aload_n 0, 1) := by decide +kernel
theorem dL_row_23 : decode cL_row 23 = .ok (.iload_n 1, 1) := by decide +kernel
theorem dL_row_24 : decode cL_row 24 = .ok (.iload 5, 2) := by decide +kernel
theorem dL_row_26 : decode cL_row 26 = .ok (.invokevirtual 53, 3) := by decide +kernel
theorem dL_row_29 : decode cL_row 29 = .ok (.i2l, 1) := by decide +kernel
theorem dL_row_30 : decode cL_row 30 = .ok (.ladd, 1) := by decide +kernel
theorem dL_row_31 : decode cL_row 31 = .ok (.lconst 1, 1) := by decide +kernel
theorem dL_row_32 : decode cL_row 32 = .ok (.ladd, 1) := by decide +kernel
theorem dL_row_33 : decode cL_row 33 = .ok (.lstore_n 3, 1) := by decide +kernel
theorem dL_row_34 : decode cL_row 34 = .ok (.iinc 5 (-1), 3) := by decide +kernel
theorem dL_row_37 : decode cL_row 37 = .ok (.goto (-26), 3) := by decide +kernel
theorem dL_row_40 : decode cL_row 40 = .ok (.lload_n 3, 1) := by decide +kernel
theorem dL_row_41 : decode cL_row 41 = .ok (.lreturn, 1) := by decide +kernel
