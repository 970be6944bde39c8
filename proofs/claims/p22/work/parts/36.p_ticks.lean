set_option maxRecDepth 20000 in
theorem ggL_ticks_X3_waiting : GoodIn wsL_ticks wsX3_waiting := goodIn_ca (goodIn_r _ [5, 6, 7, 8, 9, 4, 10, 11, 12, 13, 14, 15, 16, 17, 18, 87, 88, 89, 90, 91, 92, 93, 94, 95, 96, 97, 98, 99, 100, 101, 102, 103, 104, 105, 106, 107, 108, 109, 110, 111, 112, 113, 114, 115, 116] (by decide +kernel) (by decide +kernel)) (goodIn_sub (fun _ h => List.mem_cons_of_mem _ (List.mem_append_right _ h)) (by decide +kernel))
set_option maxRecDepth 20000 in
theorem gL_ticks_X3_waiting : GoodIn wsL_ticks (wsV RL 88 RX3 yX3_waiting wsX3_waiting) := goodIn_app (goodIn_of _ (by decide +kernel)) ggL_ticks_X3_waiting
set_option maxRecDepth 20000 in
theorem ggL_ticks_X3_state : GoodIn wsL_ticks wsX3_state := goodIn_ca (goodIn_r _ [22, 23, 8, 9, 4, 10, 11, 12, 13, 14, 15, 16, 17, 18, 87, 88, 89, 90, 91, 92, 93, 94, 95, 96, 97, 98, 99, 100, 101, 102, 109, 110, 111, 112, 113, 114, 115, 116] (by decide +kernel) (by decide +kernel)) (goodIn_sub (fun _ h => List.mem_cons_of_mem _ (List.mem_append_right _ h)) (by decide +kernel))
set_option maxRecDepth 20000 in
theorem gL_ticks_X3_state : GoodIn wsL_ticks (wsV RL 69 RX3 yX3_state wsX3_state) := goodIn_app (goodIn_of _ (by decide +kernel)) ggL_ticks_X3_state
set_option maxRecDepth 20000 in
theorem ggL_ticks_X3_tick : GoodIn wsL_ticks wsX3_tick := goodIn_r _ [27, 28, 29, 30, 31, 32, 4, 33, 34, 13, 14, 15, 16, 17, 18, 35, 36, 37, 38, 39, 40, 41, 42, 43, 44, 45, 46, 47, 48, 23, 49, 50, 51, 52, 53, 54, 55, 56, 57, 58, 59, 60, 61, 62, 6, 63, 64, 65, 66, 67, 68, 69, 70, 71, 72, 73, 74, 75, 76, 77, 78, 79, 80, 81, 82, 109, 110, 111, 112, 113, 114, 115, 116, 87, 88, 89, 90, 91, 92, 93, 94, 95, 96, 97, 98, 99, 100, 101, 102, 103, 104, 105, 106, 107, 108] (by decide +kernel) (by decide +kernel)
set_option maxRecDepth 20000 in
theorem gL_ticks_X3_tick : GoodIn wsL_ticks (wsV RL 115 RX3 yX3_tick wsX3_tick) := goodIn_app (goodIn_of _ (by decide +kernel)) ggL_ticks_X3_tick
set_option maxRecDepth 20000 in
theorem ggL_ticks_X3_tries : GoodIn wsL_ticks wsX3_tries := goodIn_ca (goodIn_r _ [86, 54, 8, 9, 4, 10, 11, 12, 13, 14, 15, 16, 17, 18, 87, 88, 89, 90, 91, 92, 93, 94, 95, 96, 97, 98, 99, 100, 101, 102, 109, 110, 111, 112, 113, 114, 115, 116] (by decide +kernel) (by decide +kernel)) (goodIn_sub (fun _ h => List.mem_cons_of_mem _ (List.mem_append_right _ h)) (by decide +kernel))
set_option maxRecDepth 20000 in
theorem gL_ticks_X3_tries : GoodIn wsL_ticks (wsV RL 85 RX3 yX3_tries wsX3_tries) := goodIn_app (goodIn_of _ (by decide +kernel)) ggL_ticks_X3_tries
theorem dL_ticks_0 : decode cL_ticks 0 = .ok (.aload_n 0, 1) := by decide +kernel
theorem dL_ticks_1 : decode cL_ticks 1 = .ok (.iconst 0, 1) := by decide +kernel
theorem dL_ticks_2 : decode cL_ticks 2 = .ok (.invokevirtual 88, 3) := by decide +kernel
theorem dL_ticks_5 : decode cL_ticks 5 = .ok (.aload_n 0, 1) := by decide +kernel
theorem dL_ticks_6 : decode cL_ticks 6 = .ok (.iconst 1, 1) := by decide +kernel
theorem dL_ticks_7 : decode cL_ticks 7 = .ok (.invokevirtual 88, 3) := by decide +kernel
theorem dL_ticks_10 : decode cL_ticks 10 = .ok (.iadd, 1) := by decide +kernel
theorem dL_ticks_11 : decode cL_ticks 11 = .ok (.istore_n 2, 1) := by decide +kernel
theorem dL_ticks_12 : decode cL_ticks 12 = .ok (.aload_n 0, 1) := by decide +kernel
theorem dL_ticks_13 : decode cL_ticks 13 = .ok (.iconst 0, 1) := by decide +kernel
theorem dL_ticks_14 : decode cL_ticks 14 = .ok (.invokevirtual 88, 3) := by decide +kernel
theorem dL_ticks_17 : decode cL_ticks 17 = .ok (.bipush 10, 2) := by decide +kernel
theorem dL_ticks_19 : decode cL_ticks 19 = .ok (.if_icmp .gt 13, 3) := by decide +kernel
theorem dL_ticks_22 : decode cL_ticks 22 = .ok (.aload_n 0, 1) := by decide +kernel
theorem dL_ticks_23 : decode cL_ticks 23 = .ok (.iconst 1, 1) := by decide +kernel
theorem dL_ticks_24 : decode cL_ticks 24 = .ok (.invokevirtual 88, 3) := by decide +kernel
theorem dL_ticks_27 : decode cL_ticks 27 = .ok (.bipush 10, 2) := by decide +kernel
theorem dL_ticks_29 : decode cL_ticks 29 = .ok (.if_icmp .le 7, 3) := by decide +kernel
theorem dL_ticks_32 : decode cL_ticks 32 = .ok (.iconst 1, 1) := by decide +kernel
theorem dL_ticks_33 : decode cL_ticks 33 = .ok (.goto 4, 3) := by decide +kernel
theorem dL_ticks_36 : decode cL_ticks 36 = .ok (.iconst 0, 1) := by decide +kernel
theorem dL_ticks_37 : decode cL_ticks 37 = .ok (.istore_n 3, 1) := by decide +kernel
theorem dL_ticks_38 : decode cL_ticks 38 = .ok (.aload_n 0, 1) := by decide +kernel
theorem dL_ticks_39 : decode cL_ticks 39 = .ok (.iconst 0, 1) := by decide +kernel
theorem dL_ticks_40 : decode cL_ticks 40 = .ok (.invokevirtual 69, 3) := by decide +kernel
theorem dL_ticks_43 : decode cL_ticks 43 = .ok (.istore 4, 2) := by decide +kernel
theorem dL_ticks_45 : decode cL_ticks 45 = .ok (.aload_n 0, 1) := by decide +kernel
theorem dL_ticks_46 : decode cL_ticks 46 = .ok (.iconst 1, 1) := by decide +kernel
theorem dL_ticks_47 : decode cL_ticks 47 = .ok (.invokevirtual 69, 3) := by decide +kernel
theorem dL_ticks_50 : decode cL_ticks 50 = .ok (.istore 5, 2) := by decide +kernel
theorem dL_ticks_52 : decode cL_ticks 52 = .ok (.aload_n 0, 1) := by decide +kernel
theorem dL_ticks_53 : decode cL_ticks 53 = .ok (.invokevirtual 115, 3) := by decide +kernel
theorem dL_ticks_56 : decode cL_ticks 56 = .ok (.istore 6, 2) := by decide +kernel
theorem dL_ticks_58 : decode cL_ticks 58 = .ok (.aload_n 1, 1) := by decide +kernel
theorem dL_ticks_59 : decode cL_ticks 59 = .ok (.iconst 0, 1) := by decide +kernel
theorem dL_ticks_60 : decode cL_ticks 60 = .ok (.dup2, 1) := by decide +kernel
theorem dL_ticks_61 : decode cL_ticks 61 = .ok (.iaload, 1) := by decide +kernel
theorem dL_ticks_62 : decode cL_ticks 62 = .ok (.iconst 1, 1) := by decide +kernel
theorem dL_ticks_63 : decode cL_ticks 63 = .ok (.iadd, 1) := by decide +kernel
theorem dL_ticks_64 : decode cL_ticks 64 = .ok (.iastore, 1) := by decide +kernel
theorem dL_ticks_65 : decode cL_ticks 65 = .ok (.iload 6, 2) := by decide +kernel
theorem dL_ticks_67 : decode cL_ticks 67 = .ok (.ifCond .lt 56, 3) := by decide +kernel
theorem dL_ticks_70 : decode cL_ticks 70 = .ok (.iload 6, 2) := by decide +kernel
theorem dL_ticks_72 : decode cL_ticks 72 = .ok (.iconst 2, 1) := by decide +kernel
theorem dL_ticks_73 : decode cL_ticks 73 = .ok (.if_icmp .gt 50, 3) := by decide +kernel
theorem dL_ticks_76 : decode cL_ticks 76 = .ok (.iload_n 3, 1) := by decide +kernel
theorem dL_ticks_77 : decode cL_ticks 77 = .ok (.ifCond .eq 24, 3) := by decide +kernel
theorem dL_ticks_80 : decode cL_ticks 80 = .ok (.aload_n 0, 1) := by decide +kernel
theorem dL_ticks_81 : decode cL_ticks 81 = .ok (.iconst 0, 1) := by decide +kernel
theorem dL_ticks_82 : decode cL_ticks 82 = .ok (.invokevirtual 88, 3) := by decide +kernel
theorem dL_ticks_85 : decode cL_ticks 85 = .ok (.aload_n 0, 1) := by decide +kernel
theorem dL_ticks_86 : decode cL_ticks 86 = .ok (.iconst 1, 1) := by decide +kernel
theorem dL_ticks_87 : decode cL_ticks 87 = .ok (.invokevirtual 88, 3) := by decide +kernel
theorem dL_ticks_90 : decode cL_ticks 90 = .ok (.iadd, 1) := by decide +kernel
theorem dL_ticks_91 : decode cL_ticks 91 = .ok (.iload_n 2, 1) := by decide +kernel
theorem dL_ticks_92 : decode cL_ticks 92 = .ok (.isub, 1) := by decide +kernel
theorem dL_ticks_93 : decode cL_ticks 93 = .ok (.iload 6, 2) := by decide +kernel
theorem dL_ticks_95 : decode cL_ticks 95 = .ok (.if_icmp .gt 28, 3) := by decide +kernel
theorem dL_ticks_98 : decode cL_ticks 98 = .ok (.goto 21, 3) := by decide +kernel
theorem dL_ticks_101 : decode cL_ticks 101 = .ok (.aload_n 0, 1) := by decide +kernel
theorem dL_ticks_102 : decode cL_ticks 102 = .ok (.iconst 0, 1) := by decide +kernel
theorem dL_ticks_103 : decode cL_ticks 103 = .ok (.invokevirtual 88, 3) := by decide +kernel
theorem dL_ticks_106 : decode cL_ticks 106 = .ok (.aload_n 0, 1) := by decide +kernel
theorem dL_ticks_107 : decode cL_ticks 107 = .ok (.iconst 1, 1) := by decide +kernel
theorem dL_ticks_108 : decode cL_ticks 108 = .ok (.invokevirtual 88, 3) := by decide +kernel
theorem dL_ticks_111 : decode cL_ticks 111 = .ok (.iadd, 1) := by decide +kernel
theorem dL_ticks_112 : decode cL_ticks 112 = .ok (.iload_n 2, 1) := by decide +kernel
theorem dL_ticks_113 : decode cL_ticks 113 = .ok (.isub, 1) := by decide +kernel
theorem dL_ticks_114 : decode cL_ticks 114 = .ok (.iload 6, 2) := by decide +kernel
theorem dL_ticks_116 : decode cL_ticks 116 = .ok (.if_icmp .ne 7, 3) := by decide +kernel
theorem dL_ticks_119 : decode cL_ticks 119 = .ok (.iconst 1, 1) := by decide +kernel
theorem dL_ticks_120 : decode cL_ticks 120 = .ok (.goto 4, 3) := by decide +kernel
theorem dL_ticks_123 : decode cL_ticks 123 = .ok (.iconst 0, 1) := by decide +kernel
theorem dL_ticks_124 : decode cL_ticks 124 = .ok (.istore 7, 2) := by decide +kernel
theorem dL_ticks_126 : decode cL_ticks 126 = .ok (.iconst 0, 1) := by decide +kernel
theorem dL_ticks_127 : decode cL_ticks 127 = .ok (.istore 8, 2) := by decide +kernel
theorem dL_ticks_129 : decode cL_ticks 129 = .ok (.iload 8, 2) := by decide +kernel
theorem dL_ticks_131 : decode cL_ticks 131 = .ok (.iconst 2, 1) := by decide +kernel
theorem dL_ticks_132 : decode cL_ticks 132 = .ok (.if_icmp .ge 169, 3) := by decide +kernel
theorem dL_ticks_135 : decode cL_ticks 135 = .ok (.iload 8, 2) := by decide +kernel
theorem dL_ticks_137 : decode cL_ticks 137 = .ok (.ifCond .ne 8, 3) := by decide +kernel
theorem dL_ticks_140 : decode cL_ticks 140 = .ok (.iload 4, 2) := by decide +kernel
theorem dL_ticks_142 : decode cL_ticks 142 = .ok (.goto 5, 3) := by decide +kernel
theorem dL_ticks_145 : decode cL_ticks 145 = .ok (.iload 5, 2) := by decide +kernel
theorem dL_ticks_147 : decode cL_ticks 147 = .ok (.istore 9, 2) := by decide +kernel
theorem dL_ticks_149 : decode cL_ticks 149 = .ok (.aload_n 0, 1) := by decide +kernel
theorem dL_ticks_150 : decode cL_ticks 150 = .ok (.iload 8, 2) := by decide +kernel
theorem dL_ticks_152 : decode cL_ticks 152 = .ok (.invokevirtual 69, 3) := by decide +kernel
theorem dL_ticks_155 : decode cL_ticks 155 = .ok (.istore 10, 2) := by decide +kernel
theorem dL_ticks_157 : decode cL_ticks 157 = .ok (.iload 7, 2) := by decide +kernel
theorem dL_ticks_159 : decode cL_ticks 159 = .ok (.ifCond .eq 133, 3) := by decide +kernel
theorem dL_ticks_162 : decode cL_ticks 162 = .ok (.iload 9, 2) := by decide +kernel
theorem dL_ticks_164 : decode cL_ticks 164 = .ok (.iconst 1, 1) := by decide +kernel
theorem dL_ticks_165 : decode cL_ticks 165 = .ok (.if_icmp .ne 28, 3) := by decide +kernel
theorem dL_ticks_168 : decode cL_ticks 168 = .ok (.iload 10, 2) := by decide +kernel
theorem dL_ticks_170 : decode cL_ticks 170 = .ok (.iconst 1, 1) := by decide +kernel
theorem dL_ticks_171 : decode cL_ticks 171 = .ok (.if_icmp .eq 117, 3) := by decide +kernel
theorem dL_ticks_174 : decode cL_ticks 174 = .ok (.iload 10, 2) := by decide +kernel
theorem dL_ticks_176 : decode cL_ticks 176 = .ok (.bipush 6, 2) := by decide +kernel
theorem dL_ticks_178 : decode cL_ticks 178 = .ok (.if_icmp .ne 114, 3) := by decide +kernel
theorem dL_ticks_181 : decode cL_ticks 181 = .ok (.aload_n 0, 1) := by decide +kernel
theorem dL_ticks_182 : decode cL_ticks 182 = .ok (.iload 8, 2) := by decide +kernel
theorem dL_ticks_184 : decode cL_ticks 184 = .ok (.invokevirtual 85, 3) := by decide +kernel
theorem dL_ticks_187 : decode cL_ticks 187 = .ok (.ifCond .ne 105, 3) := by decide +kernel
theorem dL_ticks_190 : decode cL_ticks 190 = .ok (.goto 98, 3) := by decide +kernel
theorem dL_ticks_193 : decode cL_ticks 193 = .ok (.iload 9, 2) := by decide +kernel
theorem dL_ticks_195 : decode cL_ticks 195 = .ok (.iconst 2, 1) := by decide +kernel
theorem dL_ticks_196 : decode cL_ticks 196 = .ok (.if_icmp .ne 34, 3) := by decide +kernel
theorem dL_ticks_199 : decode cL_ticks 199 = .ok (.iload 10, 2) := by decide +kernel
theorem dL_ticks_201 : decode cL_ticks 201 = .ok (.iconst 2, 1) := by decide +kernel
theorem dL_ticks_202 : decode cL_ticks 202 = .ok (.if_icmp .eq 86, 3) := by decide +kernel
theorem dL_ticks_205 : decode cL_ticks 205 = .ok (.iload 10, 2) := by decide +kernel
theorem dL_ticks_207 : decode cL_ticks 207 = .ok (.iconst 1, 1) := by decide +kernel
theorem dL_ticks_208 : decode cL_ticks 208 = .ok (.if_icmp .eq 80, 3) := by decide +kernel
theorem dL_ticks_211 : decode cL_ticks 211 = .ok (.iload 10, 2) := by decide +kernel
theorem dL_ticks_213 : decode cL_ticks 213 = .ok (.bipush 6, 2) := by decide +kernel
theorem dL_ticks_215 : decode cL_ticks 215 = .ok (.if_icmp .ne 77, 3) := by decide +kernel
theorem dL_ticks_218 : decode cL_ticks 218 = .ok (.aload_n 0, 1) := by decide +kernel
theorem dL_ticks_219 : decode cL_ticks 219 = .ok (.iload 8, 2) := by decide +kernel
theorem dL_ticks_221 : decode cL_ticks 221 = .ok (.invokevirtual 85, 3) := by decide +kernel
theorem dL_ticks_224 : decode cL_ticks 224 = .ok (.ifCond .ne 68, 3) := by decide +kernel
theorem dL_ticks_227 : decode cL_ticks 227 = .ok (.goto 61, 3) := by decide +kernel
theorem dL_ticks_230 : decode cL_ticks 230 = .ok (.iload 9, 2) := by decide +kernel
theorem dL_ticks_232 : decode cL_ticks 232 = .ok (.iconst 3, 1) := by decide +kernel
theorem dL_ticks_233 : decode cL_ticks 233 = .ok (.if_icmp .ne 28, 3) := by decide +kernel
theorem dL_ticks_236 : decode cL_ticks 236 = .ok (.iload 10, 2) := by decide +kernel
theorem dL_ticks_238 : decode cL_ticks 238 = .ok (.iconst 3, 1) := by decide +kernel
theorem dL_ticks_239 : decode cL_ticks 239 = .ok (.if_icmp .eq 49, 3) := by decide +kernel
theorem dL_ticks_242 : decode cL_ticks 242 = .ok (.iload 10, 2) := by decide +kernel
theorem dL_ticks_244 : decode cL_ticks 244 = .ok (.bipush 6, 2) := by decide +kernel
theorem dL_ticks_246 : decode cL_ticks 246 = .ok (.if_icmp .ne 46, 3) := by decide +kernel
theorem dL_ticks_249 : decode cL_ticks 249 = .ok (.aload_n 0, 1) := by decide +kernel
theorem dL_ticks_250 : decode cL_ticks 250 = .ok (.iload 8, 2) := by decide +kernel
theorem dL_ticks_252 : decode cL_ticks 252 = .ok (.invokevirtual 85, 3) := by decide +kernel
theorem dL_ticks_255 : decode cL_ticks 255 = .ok (.ifCond .ne 37, 3) := by decide +kernel
theorem dL_ticks_258 : decode cL_ticks 258 = .ok (.goto 30, 3) := by decide +kernel
theorem dL_ticks_261 : decode cL_ticks 261 = .ok (.iload 9, 2) := by decide +kernel
theorem dL_ticks_263 : decode cL_ticks 263 = .ok (.iconst 5, 1) := by decide +kernel
theorem dL_ticks_264 : decode cL_ticks 264 = .ok (.if_icmp .ne 17, 3) := by decide +kernel
theorem dL_ticks_267 : decode cL_ticks 267 = .ok (.iload 10, 2) := by decide +kernel
theorem dL_ticks_269 : decode cL_ticks 269 = .ok (.iconst 5, 1) := by decide +kernel
theorem dL_ticks_270 : decode cL_ticks 270 = .ok (.if_icmp .eq 18, 3) := by decide +kernel
theorem dL_ticks_273 : decode cL_ticks 273 = .ok (.iload 10, 2) := by decide +kernel
theorem dL_ticks_275 : decode cL_ticks 275 = .ok (.ifCond .ne 17, 3) := by decide +kernel
theorem dL_ticks_278 : decode cL_ticks 278 = .ok (.goto 10, 3) := by decide +kernel
theorem dL_ticks_281 : decode cL_ticks 281 = .ok (.iload 10, 2) := by decide +kernel
theorem dL_ticks_283 : decode cL_ticks 283 = .ok (.iload 9, 2) := by decide +kernel
theorem dL_ticks_285 : decode cL_ticks 285 = .ok (.if_icmp .ne 7, 3) := by decide +kernel
theorem dL_ticks_288 : decode cL_ticks 288 = .ok (.iconst 1, 1) := by decide +kernel
theorem dL_ticks_289 : decode cL_ticks 289 = .ok (.goto 4, 3) := by decide +kernel
theorem dL_ticks_292 : decode cL_ticks 292 = .ok (.iconst 0, 1) := by decide +kernel
theorem dL_ticks_293 : decode cL_ticks 293 = .ok (.istore 7, 2) := by decide +kernel
theorem dL_ticks_295 : decode cL_ticks 295 = .ok (.iinc 8 1, 3) := by decide +kernel
theorem dL_ticks_298 : decode cL_ticks 298 = .ok (.goto (-169), 3) := by decide +kernel
theorem dL_ticks_301 : decode cL_ticks 301 = .ok (.iload 7, 2) := by decide +kernel
theorem dL_ticks_303 : decode cL_ticks 303 = .ok (.ireturn, 1) := by decide +kernel
