set_option maxRecDepth 20000 in
theorem ggL_asks_X3_wish : GoodIn wsL_asks wsX3_wish := goodIn_ca (goodIn_ca (goodIn_r _ [7, 8, 9, 10, 11, 12, 13, 14, 6, 15, 16, 17, 18, 19, 20, 21, 22, 23, 24, 25, 26, 27, 28, 29, 30, 31, 32, 33, 34, 35, 36, 37, 38, 231, 232, 233, 234, 235, 236, 237, 238, 239, 240, 241, 242, 243, 244, 245, 246, 247, 248, 249, 250, 251, 252, 253, 254] (by decide +kernel) (by decide +kernel)) (goodIn_sub (fun _ h => List.mem_cons_of_mem _ (List.mem_append_left _ (List.mem_append_left _ (List.mem_append_right _ h)))) (by decide +kernel))) (goodIn_sub (fun _ h => List.mem_cons_of_mem _ (List.mem_append_left _ (List.mem_append_right _ h))) (by decide +kernel))
set_option maxRecDepth 20000 in
theorem gL_asks_X3_wish : GoodIn wsL_asks (wsV RL 24 RX3 yX3_wish wsX3_wish) := goodIn_app (goodIn_of _ (by decide +kernel)) ggL_asks_X3_wish
set_option maxRecDepth 20000 in
theorem ggL_asks_L_allows : GoodIn wsL_asks wsL_allows := goodIn_ca (goodIn_ca (goodIn_r _ [42, 43, 44, 45, 6, 46, 47, 48, 13, 14, 15, 8, 9, 16, 17, 18, 19, 20, 21, 22, 23, 24, 25, 26, 27, 28, 29, 30, 31, 32, 33, 34, 35, 36, 37, 38, 231, 232, 233, 234, 235, 236, 237, 238, 239, 240, 241, 242, 243, 244, 245, 246, 247, 248, 249, 250, 251, 252, 253, 254] (by decide +kernel) (by decide +kernel)) (goodIn_sub (fun _ h => List.mem_cons_of_mem _ (List.mem_append_left _ (List.mem_append_left _ (List.mem_append_right _ h)))) (by decide +kernel))) (goodIn_sub (fun _ h => List.mem_cons_of_mem _ (List.mem_append_left _ (List.mem_append_right _ h))) (by decide +kernel))
set_option maxRecDepth 20000 in
theorem gL_asks_L_allows : GoodIn wsL_asks (va_wsS RL 28 yL_allows wsL_allows) := goodIn_app (goodIn_of _ (by decide +kernel)) ggL_asks_L_allows
set_option maxRecDepth 20000 in
theorem ggL_asks_X3_refuse : GoodIn wsL_asks wsX3_refuse := goodIn_ca (goodIn_ca (goodIn_r _ [52, 53, 13, 14, 6, 15, 8, 9, 16, 17, 18, 22, 23, 24, 25, 26, 27, 28, 29, 30, 31, 32, 33, 34, 35, 36, 37, 38, 231, 232, 233, 234, 235, 236, 237, 238, 239, 240, 241, 242, 243, 244, 245, 246, 247, 248, 249, 250, 251, 252, 253, 254] (by decide +kernel) (by decide +kernel)) (goodIn_sub (fun _ h => List.mem_cons_of_mem _ (List.mem_append_left _ (List.mem_append_left _ (List.mem_append_right _ h)))) (by decide +kernel))) (goodIn_sub (fun _ h => List.mem_cons_of_mem _ (List.mem_append_left _ (List.mem_append_right _ h))) (by decide +kernel))
set_option maxRecDepth 20000 in
theorem gL_asks_X3_refuse : GoodIn wsL_asks (wsV RL 34 RX3 yX3_refuse wsX3_refuse) := goodIn_app (goodIn_of _ (by decide +kernel)) ggL_asks_X3_refuse
set_option maxRecDepth 20000 in
theorem ggL_asks_L_opens : GoodIn wsL_asks wsL_opens := goodIn_ca (goodIn_ca (goodIn_r _ [56, 57, 58, 59, 6, 60, 8, 9, 61, 62, 63, 64, 10, 65, 13, 14, 15, 22, 23, 24, 25, 26, 27, 28, 29, 30, 31, 32, 33, 34, 35, 36, 37, 38, 66, 67, 68, 69, 70, 71, 72, 73, 74, 75, 76, 77, 78, 79, 80, 81, 82, 83, 84, 85, 86, 87, 88, 89, 90, 91, 92, 93, 94, 95, 96, 231, 232, 233, 234, 235, 236, 237, 238, 239, 240, 241, 242, 243, 244, 245, 246, 247, 248, 249, 250, 251, 252, 253, 254, 255, 256, 257, 258, 259, 260] (by decide +kernel) (by decide +kernel)) (goodIn_sub (fun _ h => List.mem_cons_of_mem _ (List.mem_append_left _ (List.mem_append_left _ (List.mem_append_right _ h)))) (by decide +kernel))) (goodIn_sub (fun _ h => List.mem_cons_of_mem _ (List.mem_append_left _ (List.mem_append_right _ h))) (by decide +kernel))
set_option maxRecDepth 20000 in
theorem gL_asks_L_opens : GoodIn wsL_asks (va_wsS RL 38 yL_opens wsL_opens) := goodIn_app (goodIn_of _ (by decide +kernel)) ggL_asks_L_opens
set_option maxRecDepth 20000 in
theorem ggL_asks_L_closes : GoodIn wsL_asks wsL_closes := goodIn_ca (goodIn_ca (goodIn_r _ [99, 100, 101, 102, 6, 103, 31, 32, 61, 104, 13, 14, 15, 8, 9, 22, 23, 24, 25, 26, 27, 105, 106, 107, 36, 108, 38, 109, 34, 35, 37, 110, 111, 112, 113, 74, 114, 75, 76, 77, 78, 79, 80, 81, 82, 83, 84, 85, 86, 87, 88, 89, 90, 91, 92, 93, 94, 95, 96, 231, 232, 233, 234, 235, 236, 237, 238, 239, 240, 241, 242, 243, 244, 245, 246, 247, 248, 249, 250, 251, 252, 253, 254, 255, 256, 257, 258, 259, 260] (by decide +kernel) (by decide +kernel)) (goodIn_sub (fun _ h => List.mem_cons_of_mem _ (List.mem_append_left _ (List.mem_append_right _ h))) (by decide +kernel))) (goodIn_sub (fun _ h => List.mem_cons_of_mem _ (List.mem_append_left _ (List.mem_append_left _ (List.mem_append_right _ h)))) (by decide +kernel))
set_option maxRecDepth 20000 in
theorem gL_asks_L_closes : GoodIn wsL_asks (va_wsS RL 42 yL_closes wsL_closes) := goodIn_app (goodIn_of _ (by decide +kernel)) ggL_asks_L_closes
set_option maxRecDepth 20000 in
theorem ggL_asks_X3_deliver : GoodIn wsL_asks wsX3_deliver := goodIn_ca (goodIn_ca (goodIn_r _ [118, 81, 119, 120, 13, 14, 6, 15, 8, 9, 22, 23, 24, 25, 26, 27, 121, 122, 123, 124, 125, 126, 127, 128, 129, 85, 130, 88, 96, 131, 89, 132, 90, 133, 134, 91, 135, 136, 137, 138, 87, 92, 93, 94, 95, 139, 140, 141, 142, 143, 73, 144, 145, 146, 147, 114, 61, 75, 76, 77, 78, 79, 80, 82, 83, 84, 86, 105, 106, 107, 36, 108, 38, 109, 34, 35, 37, 148, 149, 150, 151, 152, 153, 154, 155, 63, 64, 62, 156, 157, 158, 159, 160, 69, 70, 71, 72, 74, 65, 161, 162, 163, 164, 165, 166, 167, 168, 169, 170, 171, 172, 173, 174, 175, 176, 177, 178, 179, 180, 181, 182, 183, 184, 185, 186, 187, 188, 189, 67, 68, 66, 190, 191, 192, 193, 194, 195, 196, 197, 198, 199, 200, 201, 202, 203, 204, 205, 206, 207, 208, 209, 210, 211, 212, 213, 214, 215, 216, 217, 231, 232, 233, 234, 235, 236, 237, 238, 239, 240, 241, 242, 243, 244, 245, 246, 247, 248, 249, 250, 251, 252, 253, 254, 261, 262, 263, 264, 255, 256, 257, 258, 259, 260] (by decide +kernel) (by decide +kernel)) (goodIn_sub (fun _ h => List.mem_cons_of_mem _ (List.mem_append_left _ (List.mem_append_left _ (List.mem_append_right _ h)))) (by decide +kernel))) (goodIn_sub (fun _ h => List.mem_cons_of_mem _ (List.mem_append_right _ h)) (by decide +kernel))
set_option maxRecDepth 20000 in
theorem gL_asks_X3_deliver : GoodIn wsL_asks (wsV RL 46 RX3 yX3_deliver wsX3_deliver) := goodIn_app (goodIn_of _ (by decide +kernel)) ggL_asks_X3_deliver
set_option maxRecDepth 20000 in
theorem ggL_asks_X3_lose : GoodIn wsL_asks wsX3_lose := goodIn_ca (goodIn_ca (goodIn_r _ [221, 81, 13, 14, 6, 15, 8, 9, 22, 23, 24, 25, 26, 27, 121, 122, 123, 124, 125, 126, 222, 223, 224, 85, 225, 88, 92, 93, 94, 95, 96, 226, 136, 137, 138, 87, 231, 232, 233, 234, 235, 236, 237, 238, 239, 240, 241, 242, 243, 244, 245, 246, 247, 248, 249, 250, 251, 252, 253, 254, 255, 256, 257, 258, 259, 260] (by decide +kernel) (by decide +kernel)) (goodIn_sub (fun _ h => List.mem_cons_of_mem _ (List.mem_append_left _ (List.mem_append_left _ (List.mem_append_right _ h)))) (by decide +kernel))) (goodIn_sub (fun _ h => List.mem_cons_of_mem _ (List.mem_append_right _ h)) (by decide +kernel))
set_option maxRecDepth 20000 in
theorem gL_asks_X3_lose : GoodIn wsL_asks (wsV RL 50 RX3 yX3_lose wsX3_lose) := goodIn_app (goodIn_of _ (by decide +kernel)) ggL_asks_X3_lose
set_option maxRecDepth 20000 in
theorem ggL_asks_X3_kindAt : GoodIn wsL_asks wsX3_kindAt := goodIn_ca (goodIn_ca (goodIn_r _ [230, 81, 13, 14, 6, 15, 8, 9, 22, 23, 24, 25, 26, 27, 121, 122, 123, 124, 125, 126, 222, 223, 224, 85, 225, 88, 92, 93, 94, 95, 96, 231, 232, 233, 234, 235, 236, 237, 238, 239, 240, 241, 242, 243, 244, 245, 246, 247, 248, 249, 250, 251, 252, 253, 254, 255, 256, 257, 258, 259, 260] (by decide +kernel) (by decide +kernel)) (goodIn_sub (fun _ h => List.mem_cons_of_mem _ (List.mem_append_left _ (List.mem_append_left _ (List.mem_append_right _ h)))) (by decide +kernel))) (goodIn_sub (fun _ h => List.mem_cons_of_mem _ (List.mem_append_right _ h)) (by decide +kernel))
set_option maxRecDepth 20000 in
theorem gL_asks_X3_kindAt : GoodIn wsL_asks (wsV RL 53 RX3 yX3_kindAt wsX3_kindAt) := goodIn_app (goodIn_of _ (by decide +kernel)) ggL_asks_X3_kindAt
theorem dL_asks_0 : decode cL_asks 0 = .ok (.iload_n 1, 1) := by decide +kernel
theorem dL_asks_1 : decode cL_asks 1 = .ok (.ifCond .ne 18, 3) := by decide +kernel
theorem dL_asks_4 : decode cL_asks 4 = .ok (.aload_n 0, 1) := by decide +kernel
theorem dL_asks_5 : decode cL_asks 5 = .ok (.iload_n 2, 1) := by decide +kernel
theorem dL_asks_6 : decode cL_asks 6 = .ok (.iload_n 3, 1) := by decide +kernel
theorem dL_asks_7 : decode cL_asks 7 = .ok (.iload 4, 2) := by decide +kernel
theorem dL_asks_9 : decode cL_asks 9 = .ok (.iload 5, 2) := by decide +kernel
theorem dL_asks_11 : decode cL_asks 11 = .ok (.iload 6, 2) := by decide +kernel
theorem dL_asks_13 : decode cL_asks 13 = .ok (.invokevirtual 24, 3) := by decide +kernel
theorem dL_asks_16 : decode cL_asks 16 = .ok (.goto 113, 3) := by decide +kernel
theorem dL_asks_19 : decode cL_asks 19 = .ok (.iload_n 1, 1) := by decide +kernel
theorem dL_asks_20 : decode cL_asks 20 = .ok (.iconst 1, 1) := by decide +kernel
theorem dL_asks_21 : decode cL_asks 21 = .ok (.if_icmp .ne 16, 3) := by decide +kernel
theorem dL_asks_24 : decode cL_asks 24 = .ok (.aload_n 0, 1) := by decide +kernel
theorem dL_asks_25 : decode cL_asks 25 = .ok (.iload_n 2, 1) := by decide +kernel
theorem dL_asks_26 : decode cL_asks 26 = .ok (.iload_n 3, 1) := by decide +kernel
theorem dL_asks_27 : decode cL_asks 27 = .ok (.iload 5, 2) := by decide +kernel
theorem dL_asks_29 : decode cL_asks 29 = .ok (.iload 6, 2) := by decide +kernel
theorem dL_asks_31 : decode cL_asks 31 = .ok (.invokestatic 28, 3) := by decide +kernel
theorem dL_asks_34 : decode cL_asks 34 = .ok (.goto 95, 3) := by decide +kernel
theorem dL_asks_37 : decode cL_asks 37 = .ok (.iload_n 1, 1) := by decide +kernel
theorem dL_asks_38 : decode cL_asks 38 = .ok (.iconst 2, 1) := by decide +kernel
theorem dL_asks_39 : decode cL_asks 39 = .ok (.if_icmp .ne 30, 3) := by decide +kernel
theorem dL_asks_42 : decode cL_asks 42 = .ok (.aload_n 0, 1) := by decide +kernel
theorem dL_asks_43 : decode cL_asks 43 = .ok (.iload_n 2, 1) := by decide +kernel
theorem dL_asks_44 : decode cL_asks 44 = .ok (.iload_n 3, 1) := by decide +kernel
theorem dL_asks_45 : decode cL_asks 45 = .ok (.iload 4, 2) := by decide +kernel
theorem dL_asks_47 : decode cL_asks 47 = .ok (.ifCond .le 7, 3) := by decide +kernel
theorem dL_asks_50 : decode cL_asks 50 = .ok (.iconst 1, 1) := by decide +kernel
theorem dL_asks_51 : decode cL_asks 51 = .ok (.goto 4, 3) := by decide +kernel
theorem dL_asks_54 : decode cL_asks 54 = .ok (.iconst 0, 1) := by decide +kernel
theorem dL_asks_55 : decode cL_asks 55 = .ok (.invokevirtual 34, 3) := by decide +kernel
theorem dL_asks_58 : decode cL_asks 58 = .ok (.ifCond .eq 7, 3) := by decide +kernel
theorem dL_asks_61 : decode cL_asks 61 = .ok (.iconst 1, 1) := by decide +kernel
theorem dL_asks_62 : decode cL_asks 62 = .ok (.goto 67, 3) := by decide +kernel
theorem dL_asks_65 : decode cL_asks 65 = .ok (.iconst 0, 1) := by decide +kernel
theorem dL_asks_66 : decode cL_asks 66 = .ok (.goto 63, 3) := by decide +kernel
theorem dL_asks_69 : decode cL_asks 69 = .ok (.iload_n 1, 1) := by decide +kernel
theorem dL_asks_70 : decode cL_asks 70 = .ok (.iconst 3, 1) := by decide +kernel
theorem dL_asks_71 : decode cL_asks 71 = .ok (.if_icmp .ne 12, 3) := by decide +kernel
theorem dL_asks_74 : decode cL_asks 74 = .ok (.aload_n 0, 1) := by decide +kernel
theorem dL_asks_75 : decode cL_asks 75 = .ok (.iload_n 2, 1) := by decide +kernel
theorem dL_asks_76 : decode cL_asks 76 = .ok (.iload_n 3, 1) := by decide +kernel
theorem dL_asks_77 : decode cL_asks 77 = .ok (.invokestatic 38, 3) := by decide +kernel
theorem dL_asks_80 : decode cL_asks 80 = .ok (.goto 49, 3) := by decide +kernel
theorem dL_asks_83 : decode cL_asks 83 = .ok (.iload_n 1, 1) := by decide +kernel
theorem dL_asks_84 : decode cL_asks 84 = .ok (.iconst 4, 1) := by decide +kernel
theorem dL_asks_85 : decode cL_asks 85 = .ok (.if_icmp .ne 11, 3) := by decide +kernel
theorem dL_asks_88 : decode cL_asks 88 = .ok (.aload_n 0, 1) := by decide +kernel
theorem dL_asks_89 : decode cL_asks 89 = .ok (.iload_n 2, 1) := by decide +kernel
theorem dL_asks_90 : decode cL_asks 90 = .ok (.invokestatic 42, 3) := by decide +kernel
theorem dL_asks_93 : decode cL_asks 93 = .ok (.goto 36, 3) := by decide +kernel
theorem dL_asks_96 : decode cL_asks 96 = .ok (.iload_n 1, 1) := by decide +kernel
theorem dL_asks_97 : decode cL_asks 97 = .ok (.iconst 5, 1) := by decide +kernel
theorem dL_asks_98 : decode cL_asks 98 = .ok (.if_icmp .ne 11, 3) := by decide +kernel
theorem dL_asks_101 : decode cL_asks 101 = .ok (.aload_n 0, 1) := by decide +kernel
theorem dL_asks_102 : decode cL_asks 102 = .ok (.iload_n 2, 1) := by decide +kernel
theorem dL_asks_103 : decode cL_asks 103 = .ok (.invokevirtual 46, 3) := by decide +kernel
theorem dL_asks_106 : decode cL_asks 106 = .ok (.goto 23, 3) := by decide +kernel
theorem dL_asks_109 : decode cL_asks 109 = .ok (.iload_n 1, 1) := by decide +kernel
theorem dL_asks_110 : decode cL_asks 110 = .ok (.bipush 6, 2) := by decide +kernel
theorem dL_asks_112 : decode cL_asks 112 = .ok (.if_icmp .ne 11, 3) := by decide +kernel
theorem dL_asks_115 : decode cL_asks 115 = .ok (.aload_n 0, 1) := by decide +kernel
theorem dL_asks_116 : decode cL_asks 116 = .ok (.iload_n 2, 1) := by decide +kernel
theorem dL_asks_117 : decode cL_asks 117 = .ok (.invokevirtual 50, 3) := by decide +kernel
theorem dL_asks_120 : decode cL_asks 120 = .ok (.goto 9, 3) := by decide +kernel
theorem dL_asks_123 : decode cL_asks 123 = .ok (.aload_n 0, 1) := by decide +kernel
theorem dL_asks_124 : decode cL_asks 124 = .ok (.iload_n 2, 1) := by decide +kernel
theorem dL_asks_125 : decode cL_asks 125 = .ok (.iload_n 3, 1) := by decide +kernel
theorem dL_asks_126 : decode cL_asks 126 = .ok (.invokevirtual 53, 3) := by decide +kernel
theorem dL_asks_129 : decode cL_asks 129 = .ok (.ireturn, 1) := by decide +kernel
theorem dL_asks_130 : decode cL_asks 130 = .ok (.astore 7, 2) := by decide +kernel
theorem dL_asks_132 : decode cL_asks 132 = .ok (.bipush (-8), 2) := by decide +kernel
theorem dL_asks_134 : decode cL_asks 134 = .ok (.ireturn, 1) := by decide +kernel
theorem dL_asks_135 : decode cL_asks 135 = .ok (.astore 7, 2) := by decide +kernel
theorem dL_asks_137 : decode cL_asks 137 = .ok (.bipush (-10), 2) := by decide +kernel
theorem dL_asks_139 : decode cL_asks 139 = .ok (.ireturn, 1) := by decide +kernel
