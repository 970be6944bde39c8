set_option maxRecDepth 20000 in
theorem ggL_opens_X3_open : GoodIn wsL_opens wsX3_open := goodIn_ca (goodIn_ca (goodIn_r _ [5, 6, 7, 8, 9, 10, 11, 12, 13, 14, 15, 4, 16, 17, 18, 19, 20, 21, 22, 23, 24, 25, 26, 27, 28, 29, 30, 31, 32, 33, 34, 35, 36, 37, 38, 39, 40, 41, 42, 43, 44, 45, 46, 47, 48, 49, 50, 51, 52, 53, 54, 55, 56, 57, 58, 59, 60, 61, 62, 63, 64, 65, 66, 67, 68, 69, 70, 71, 72, 73, 74, 75, 76, 77, 78, 79, 80, 81, 82, 83, 84, 85, 86, 87, 88, 89, 90, 91, 92, 93, 94] (by decide +kernel) (by decide +kernel)) (goodIn_sub (fun _ h => List.mem_cons_of_mem _ (List.mem_append_left _ (List.mem_append_right _ h))) (by decide +kernel))) (goodIn_sub (fun _ h => List.mem_cons_of_mem _ (List.mem_append_right _ h)) (by decide +kernel))
set_option maxRecDepth 20000 in
theorem gL_opens_X3_open : GoodIn wsL_opens (wsV RL 10 RX3 yX3_open wsX3_open) := goodIn_app (goodIn_of _ (by decide +kernel)) ggL_opens_X3_open
theorem dL_opens_0 : decode cL_opens 0 = .ok (.aload_n 0, 1) := by decide +kernel
theorem dL_opens_1 : decode cL_opens 1 = .ok (.iload_n 1, 1) := by decide +kernel
theorem dL_opens_2 : decode cL_opens 2 = .ok (.iload_n 2, 1) := by decide +kernel
theorem dL_opens_3 : decode cL_opens 3 = .ok (.invokevirtual 10, 3) := by decide +kernel
theorem dL_opens_6 : decode cL_opens 6 = .ok (.iconst 0, 1) := by decide +kernel
theorem dL_opens_7 : decode cL_opens 7 = .ok (.ireturn, 1) := by decide +kernel
