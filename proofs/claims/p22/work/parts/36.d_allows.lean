set_option maxRecDepth 20000 in
theorem ggL_allows_X3_allow : GoodIn wsL_allows wsX3_allow := goodIn_ca (goodIn_ca (goodIn_r _ [5, 6, 7, 8, 9, 4, 10, 11, 12, 13, 14, 15, 16, 17, 18, 19, 20, 21, 22, 23, 24, 25, 26, 27, 28, 29, 30, 31, 32, 33, 34, 35, 36, 37, 38, 39, 40, 41, 42, 43, 44, 45, 46, 47, 48, 49, 50, 51, 52, 53, 54, 55, 56, 57, 58, 59] (by decide +kernel) (by decide +kernel)) (goodIn_sub (fun _ h => List.mem_cons_of_mem _ (List.mem_append_left _ (List.mem_append_right _ h))) (by decide +kernel))) (goodIn_sub (fun _ h => List.mem_cons_of_mem _ (List.mem_append_right _ h)) (by decide +kernel))
set_option maxRecDepth 20000 in
theorem gL_allows_X3_allow : GoodIn wsL_allows (wsV RL 20 RX3 yX3_allow wsX3_allow) := goodIn_app (goodIn_of _ (by decide +kernel)) ggL_allows_X3_allow
theorem dL_allows_0 : decode cL_allows 0 = .ok (.aload_n 0, 1) := by decide +kernel
theorem dL_allows_1 : decode cL_allows 1 = .ok (.iload_n 1, 1) := by decide +kernel
theorem dL_allows_2 : decode cL_allows 2 = .ok (.iload_n 2, 1) := by decide +kernel
theorem dL_allows_3 : decode cL_allows 3 = .ok (.iload_n 3, 1) := by decide +kernel
theorem dL_allows_4 : decode cL_allows 4 = .ok (.iload 4, 2) := by decide +kernel
theorem dL_allows_6 : decode cL_allows 6 = .ok (.invokevirtual 20, 3) := by decide +kernel
theorem dL_allows_9 : decode cL_allows 9 = .ok (.iconst 0, 1) := by decide +kernel
theorem dL_allows_10 : decode cL_allows 10 = .ok (.ireturn, 1) := by decide +kernel
