theorem dX4_init_0 : decode cX4_init 0 = .ok (.aload_n 0, 1) := by decide +kernel
theorem dX4_init_1 : decode cX4_init 1 = .ok (.invokespecial 1, 3) := by decide +kernel
theorem dX4_init_4 : decode cX4_init 4 = .ok (.aload_n 0, 1) := by decide +kernel
theorem dX4_init_5 : decode cX4_init 5 = .ok (.bipush 8, 2) := by decide +kernel
theorem dX4_init_7 : decode cX4_init 7 = .ok (.newarray .int, 2) := by decide +kernel
theorem dX4_init_9 : decode cX4_init 9 = .ok (.putfield 7, 3) := by decide +kernel
theorem dX4_init_12 : decode cX4_init 12 = .ok (.aload_n 0, 1) := by decide +kernel
theorem dX4_init_13 : decode cX4_init 13 = .ok (.bipush 8, 2) := by decide +kernel
theorem dX4_init_15 : decode cX4_init 15 = .ok (.newarray .int, 2) := by decide +kernel
theorem dX4_init_17 : decode cX4_init 17 = .ok (.putfield 13, 3) := by decide +kernel
theorem dX4_init_20 : decode cX4_init 20 = .ok (.aload_n 0, 1) := by decide +kernel
theorem dX4_init_21 : decode cX4_init 21 = .ok (.bipush 8, 2) := by decide +kernel
theorem dX4_init_23 : decode cX4_init 23 = .ok (.newarray .int, 2) := by decide +kernel
theorem dX4_init_25 : decode cX4_init 25 = .ok (.putfield 16, 3) := by decide +kernel
theorem dX4_init_28 : decode cX4_init 28 = .ok (.aload_n 0, 1) := by decide +kernel
theorem dX4_init_29 : decode cX4_init 29 = .ok (.bipush 8, 2) := by decide +kernel
theorem dX4_init_31 : decode cX4_init 31 = .ok (.newarray .int, 2) := by decide +kernel
theorem dX4_init_33 : decode cX4_init 33 = .ok (.putfield 19, 3) := by decide +kernel
theorem dX4_init_36 : decode cX4_init 36 = .ok (.aload_n 0, 1) := by decide +kernel
theorem dX4_init_37 : decode cX4_init 37 = .ok (.bipush 8, 2) := by decide +kernel
theorem dX4_init_39 : decode cX4_init 39 = .ok (.newarray .int, 2) := by decide +kernel
theorem dX4_init_41 : decode cX4_init 41 = .ok (.putfield 22, 3) := by decide +kernel
theorem dX4_init_44 : decode cX4_init 44 = .ok (.aload_n 0, 1) := by decide +kernel
theorem dX4_init_45 : decode cX4_init 45 = .ok (.bipush 8, 2) := by decide +kernel
theorem dX4_init_47 : decode cX4_init 47 = .ok (.newarray .boolean, 2) := by decide +kernel
theorem dX4_init_49 : decode cX4_init 49 = .ok (.putfield 25, 3) := by decide +kernel
theorem dX4_init_52 : decode cX4_init 52 = .ok (.aload_n 0, 1) := by decide +kernel
theorem dX4_init_53 : decode cX4_init 53 = .ok (.bipush 8, 2) := by decide +kernel
theorem dX4_init_55 : decode cX4_init 55 = .ok (.newarray .int, 2) := by decide +kernel
theorem dX4_init_57 : decode cX4_init 57 = .ok (.putfield 29, 3) := by decide +kernel
theorem dX4_init_60 : decode cX4_init 60 = .ok (.aload_n 0, 1) := by decide +kernel
theorem dX4_init_61 : decode cX4_init 61 = .ok (.bipush 8, 2) := by decide +kernel
theorem dX4_init_63 : decode cX4_init 63 = .ok (.newarray .int, 2) := by decide +kernel
theorem dX4_init_65 : decode cX4_init 65 = .ok (.putfield 32, 3) := by decide +kernel
theorem dX4_init_68 : decode cX4_init 68 = .ok (.aload_n 0, 1) := by decide +kernel
theorem dX4_init_69 : decode cX4_init 69 = .ok (.iconst 2, 1) := by decide +kernel
theorem dX4_init_70 : decode cX4_init 70 = .ok (.newarray .int, 2) := by decide +kernel
theorem dX4_init_72 : decode cX4_init 72 = .ok (.putfield 35, 3) := by decide +kernel
theorem dX4_init_75 : decode cX4_init 75 = .ok (.aload_n 0, 1) := by decide +kernel
theorem dX4_init_76 : decode cX4_init 76 = .ok (.iconst 2, 1) := by decide +kernel
theorem dX4_init_77 : decode cX4_init 77 = .ok (.newarray .int, 2) := by decide +kernel
theorem dX4_init_79 : decode cX4_init 79 = .ok (.putfield 38, 3) := by decide +kernel
theorem dX4_init_82 : decode cX4_init 82 = .ok (.aload_n 0, 1) := by decide +kernel
theorem dX4_init_83 : decode cX4_init 83 = .ok (.iconst 2, 1) := by decide +kernel
theorem dX4_init_84 : decode cX4_init 84 = .ok (.newarray .int, 2) := by decide +kernel
theorem dX4_init_86 : decode cX4_init 86 = .ok (.putfield 41, 3) := by decide +kernel
theorem dX4_init_89 : decode cX4_init 89 = .ok (.aload_n 0, 1) := by decide +kernel
theorem dX4_init_90 : decode cX4_init 90 = .ok (.iconst 2, 1) := by decide +kernel
theorem dX4_init_91 : decode cX4_init 91 = .ok (.newarray .int, 2) := by decide +kernel
theorem dX4_init_93 : decode cX4_init 93 = .ok (.putfield 44, 3) := by decide +kernel
theorem dX4_init_96 : decode cX4_init 96 = .ok (.aload_n 0, 1) := by decide +kernel
theorem dX4_init_97 : decode cX4_init 97 = .ok (.iconst 2, 1) := by decide +kernel
theorem dX4_init_98 : decode cX4_init 98 = .ok (.newarray .int, 2) := by decide +kernel
theorem dX4_init_100 : decode cX4_init 100 = .ok (.putfield 47, 3) := by decide +kernel
theorem dX4_init_103 : decode cX4_init 103 = .ok (.aload_n 0, 1) := by decide +kernel
theorem dX4_init_104 : decode cX4_init 104 = .ok (.iconst 2, 1) := by decide +kernel
theorem dX4_init_105 : decode cX4_init 105 = .ok (.newarray .int, 2) := by decide +kernel
theorem dX4_init_107 : decode cX4_init 107 = .ok (.putfield 50, 3) := by decide +kernel
theorem dX4_init_110 : decode cX4_init 110 = .ok (.aload_n 0, 1) := by decide +kernel
theorem dX4_init_111 : decode cX4_init 111 = .ok (.iconst 2, 1) := by decide +kernel
theorem dX4_init_112 : decode cX4_init 112 = .ok (.newarray .int, 2) := by decide +kernel
theorem dX4_init_114 : decode cX4_init 114 = .ok (.putfield 53, 3) := by decide +kernel
theorem dX4_init_117 : decode cX4_init 117 = .ok (.aload_n 0, 1) := by decide +kernel
theorem dX4_init_118 : decode cX4_init 118 = .ok (.iconst 2, 1) := by decide +kernel
theorem dX4_init_119 : decode cX4_init 119 = .ok (.newarray .int, 2) := by decide +kernel
theorem dX4_init_121 : decode cX4_init 121 = .ok (.putfield 56, 3) := by decide +kernel
theorem dX4_init_124 : decode cX4_init 124 = .ok (.aload_n 0, 1) := by decide +kernel
theorem dX4_init_125 : decode cX4_init 125 = .ok (.bipush 24, 2) := by decide +kernel
theorem dX4_init_127 : decode cX4_init 127 = .ok (.newarray .int, 2) := by decide +kernel
theorem dX4_init_129 : decode cX4_init 129 = .ok (.putfield 59, 3) := by decide +kernel
theorem dX4_init_132 : decode cX4_init 132 = .ok (.aload_n 0, 1) := by decide +kernel
theorem dX4_init_133 : decode cX4_init 133 = .ok (.bipush 24, 2) := by decide +kernel
theorem dX4_init_135 : decode cX4_init 135 = .ok (.newarray .int, 2) := by decide +kernel
theorem dX4_init_137 : decode cX4_init 137 = .ok (.putfield 62, 3) := by decide +kernel
theorem dX4_init_140 : decode cX4_init 140 = .ok (.aload_n 0, 1) := by decide +kernel
theorem dX4_init_141 : decode cX4_init 141 = .ok (.bipush 24, 2) := by decide +kernel
theorem dX4_init_143 : decode cX4_init 143 = .ok (.newarray .int, 2) := by decide +kernel
theorem dX4_init_145 : decode cX4_init 145 = .ok (.putfield 65, 3) := by decide +kernel
theorem dX4_init_148 : decode cX4_init 148 = .ok (.aload_n 0, 1) := by decide +kernel
theorem dX4_init_149 : decode cX4_init 149 = .ok (.bipush 96, 2) := by decide +kernel
theorem dX4_init_151 : decode cX4_init 151 = .ok (.newarray .int, 2) := by decide +kernel
theorem dX4_init_153 : decode cX4_init 153 = .ok (.putfield 68, 3) := by decide +kernel
theorem dX4_init_156 : decode cX4_init 156 = .ok (.aload_n 0, 1) := by decide +kernel
theorem dX4_init_157 : decode cX4_init 157 = .ok (.iconst 4, 1) := by decide +kernel
theorem dX4_init_158 : decode cX4_init 158 = .ok (.newarray .int, 2) := by decide +kernel
theorem dX4_init_160 : decode cX4_init 160 = .ok (.putfield 71, 3) := by decide +kernel
theorem dX4_init_163 : decode cX4_init 163 = .ok (.aload_n 0, 1) := by decide +kernel
theorem dX4_init_164 : decode cX4_init 164 = .ok (.iconst 4, 1) := by decide +kernel
theorem dX4_init_165 : decode cX4_init 165 = .ok (.newarray .int, 2) := by decide +kernel
theorem dX4_init_167 : decode cX4_init 167 = .ok (.putfield 74, 3) := by decide +kernel
theorem dX4_init_170 : decode cX4_init 170 = .ok (.iconst 0, 1) := by decide +kernel
theorem dX4_init_171 : decode cX4_init 171 = .ok (.istore_n 1, 1) := by decide +kernel
theorem dX4_init_172 : decode cX4_init 172 = .ok (.iload_n 1, 1) := by decide +kernel
theorem dX4_init_173 : decode cX4_init 173 = .ok (.bipush 8, 2) := by decide +kernel
theorem dX4_init_175 : decode cX4_init 175 = .ok (.if_icmp .ge 46, 3) := by decide +kernel
theorem dX4_init_178 : decode cX4_init 178 = .ok (.aload_n 0, 1) := by decide +kernel
theorem dX4_init_179 : decode cX4_init 179 = .ok (.getfield 7, 3) := by decide +kernel
theorem dX4_init_182 : decode cX4_init 182 = .ok (.iload_n 1, 1) := by decide +kernel
theorem dX4_init_183 : decode cX4_init 183 = .ok (.iconst (-1), 1) := by decide +kernel
theorem dX4_init_184 : decode cX4_init 184 = .ok (.iastore, 1) := by decide +kernel
theorem dX4_init_185 : decode cX4_init 185 = .ok (.aload_n 0, 1) := by decide +kernel
theorem dX4_init_186 : decode cX4_init 186 = .ok (.getfield 29, 3) := by decide +kernel
theorem dX4_init_189 : decode cX4_init 189 = .ok (.iload_n 1, 1) := by decide +kernel
theorem dX4_init_190 : decode cX4_init 190 = .ok (.iconst (-1), 1) := by decide +kernel
theorem dX4_init_191 : decode cX4_init 191 = .ok (.iastore, 1) := by decide +kernel
theorem dX4_init_192 : decode cX4_init 192 = .ok (.aload_n 0, 1) := by decide +kernel
theorem dX4_init_193 : decode cX4_init 193 = .ok (.getfield 32, 3) := by decide +kernel
theorem dX4_init_196 : decode cX4_init 196 = .ok (.iload_n 1, 1) := by decide +kernel
theorem dX4_init_197 : decode cX4_init 197 = .ok (.iconst (-1), 1) := by decide +kernel
theorem dX4_init_198 : decode cX4_init 198 = .ok (.iastore, 1) := by decide +kernel
theorem dX4_init_199 : decode cX4_init 199 = .ok (.aload_n 0, 1) := by decide +kernel
theorem dX4_init_200 : decode cX4_init 200 = .ok (.getfield 16, 3) := by decide +kernel
theorem dX4_init_203 : decode cX4_init 203 = .ok (.iload_n 1, 1) := by decide +kernel
theorem dX4_init_204 : decode cX4_init 204 = .ok (.bipush 100, 2) := by decide +kernel
theorem dX4_init_206 : decode cX4_init 206 = .ok (.iastore, 1) := by decide +kernel
theorem dX4_init_207 : decode cX4_init 207 = .ok (.aload_n 0, 1) := by decide +kernel
theorem dX4_init_208 : decode cX4_init 208 = .ok (.getfield 22, 3) := by decide +kernel
theorem dX4_init_211 : decode cX4_init 211 = .ok (.iload_n 1, 1) := by decide +kernel
theorem dX4_init_212 : decode cX4_init 212 = .ok (.bipush 100, 2) := by decide +kernel
theorem dX4_init_214 : decode cX4_init 214 = .ok (.iastore, 1) := by decide +kernel
theorem dX4_init_215 : decode cX4_init 215 = .ok (.iinc 1 1, 3) := by decide +kernel
theorem dX4_init_218 : decode cX4_init 218 = .ok (.goto (-46), 3) := by decide +kernel
theorem dX4_init_221 : decode cX4_init 221 = .ok (.return_, 1) := by decide +kernel
theorem dX4_thrown_0 : decode cX4_thrown 0 = .ok (.aload_n 0, 1) := by decide +kernel
theorem dX4_thrown_1 : decode cX4_thrown 1 = .ok (.getfield 77, 3) := by decide +kernel
theorem dX4_thrown_4 : decode cX4_thrown 4 = .ok (.ireturn, 1) := by decide +kernel
theorem dX4_can_0 : decode cX4_can 0 = .ok (.aload_n 0, 1) := by decide +kernel
theorem dX4_can_1 : decode cX4_can 1 = .ok (.iload_n 1, 1) := by decide +kernel
theorem dX4_can_2 : decode cX4_can 2 = .ok (.putfield 77, 3) := by decide +kernel
theorem dX4_can_5 : decode cX4_can 5 = .ok (.iload_n 1, 1) := by decide +kernel
theorem dX4_can_6 : decode cX4_can 6 = .ok (.ifCond .ne 7, 3) := by decide +kernel
theorem dX4_can_9 : decode cX4_can 9 = .ok (.iconst 1, 1) := by decide +kernel
theorem dX4_can_10 : decode cX4_can 10 = .ok (.goto 4, 3) := by decide +kernel
theorem dX4_can_13 : decode cX4_can 13 = .ok (.iconst 0, 1) := by decide +kernel
theorem dX4_can_14 : decode cX4_can 14 = .ok (.ireturn, 1) := by decide +kernel
theorem dX4_isIn_0 : decode cX4_isIn 0 = .ok (.iload_n 0, 1) := by decide +kernel
theorem dX4_isIn_1 : decode cX4_isIn 1 = .ok (.iload_n 1, 1) := by decide +kernel
theorem dX4_isIn_2 : decode cX4_isIn 2 = .ok (.if_icmp .lt 12, 3) := by decide +kernel
theorem dX4_isIn_5 : decode cX4_isIn 5 = .ok (.iload_n 0, 1) := by decide +kernel
theorem dX4_isIn_6 : decode cX4_isIn 6 = .ok (.iload_n 2, 1) := by decide +kernel
theorem dX4_isIn_7 : decode cX4_isIn 7 = .ok (.if_icmp .gt 7, 3) := by decide +kernel
theorem dX4_isIn_10 : decode cX4_isIn 10 = .ok (.iconst 1, 1) := by decide +kernel
theorem dX4_isIn_11 : decode cX4_isIn 11 = .ok (.goto 4, 3) := by decide +kernel
theorem dX4_isIn_14 : decode cX4_isIn 14 = .ok (.iconst 0, 1) := by decide +kernel
theorem dX4_isIn_15 : decode cX4_isIn 15 = .ok (.ireturn, 1) := by decide +kernel
set_option maxRecDepth 20000 in
theorem ggX4_isEnd_X4_isIn : GoodIn wsX4_isEnd wsX4_isIn := goodIn_r _ [4] (by decide +kernel) (by decide +kernel)
set_option maxRecDepth 20000 in
theorem gX4_isEnd_X4_isIn : GoodIn wsX4_isEnd (va_wsS RX4 81 yX4_isIn wsX4_isIn) := goodIn_app (goodIn_of _ (by decide +kernel)) ggX4_isEnd_X4_isIn
theorem dX4_isEnd_0 : decode cX4_isEnd 0 = .ok (.iload_n 0, 1) := by decide +kernel
theorem dX4_isEnd_1 : decode cX4_isEnd 1 = .ok (.iconst 0, 1) := by decide +kernel
theorem dX4_isEnd_2 : decode cX4_isEnd 2 = .ok (.iconst 1, 1) := by decide +kernel
theorem dX4_isEnd_3 : decode cX4_isEnd 3 = .ok (.invokestatic 81, 3) := by decide +kernel
theorem dX4_isEnd_6 : decode cX4_isEnd 6 = .ok (.ireturn, 1) := by decide +kernel
set_option maxRecDepth 20000 in
theorem ggX4_isOption_X4_isEnd : GoodIn wsX4_isOption wsX4_isEnd := goodIn_r _ [4, 5, 6, 3, 7] (by decide +kernel) (by decide +kernel)
set_option maxRecDepth 20000 in
theorem gX4_isOption_X4_isEnd : GoodIn wsX4_isOption (va_wsS RX4 85 yX4_isEnd wsX4_isEnd) := goodIn_app (goodIn_of _ (by decide +kernel)) ggX4_isOption_X4_isEnd
set_option maxRecDepth 20000 in
theorem ggX4_isOption_X4_isIn : GoodIn wsX4_isOption wsX4_isIn := goodIn_r _ [7] (by decide +kernel) (by decide +kernel)
set_option maxRecDepth 20000 in
theorem gX4_isOption_X4_isIn : GoodIn wsX4_isOption (va_wsS RX4 81 yX4_isIn wsX4_isIn) := goodIn_app (goodIn_of _ (by decide +kernel)) ggX4_isOption_X4_isIn
theorem dX4_isOption_0 : decode cX4_isOption 0 = .ok (.iload_n 0, 1) := by decide +kernel
theorem dX4_isOption_1 : decode cX4_isOption 1 = .ok (.invokestatic 85, 3) := by decide +kernel
theorem dX4_isOption_4 : decode cX4_isOption 4 = .ok (.ifCond .eq 16, 3) := by decide +kernel
theorem dX4_isOption_7 : decode cX4_isOption 7 = .ok (.iload_n 1, 1) := by decide +kernel
theorem dX4_isOption_8 : decode cX4_isOption 8 = .ok (.iconst 0, 1) := by decide +kernel
theorem dX4_isOption_9 : decode cX4_isOption 9 = .ok (.iconst 3, 1) := by decide +kernel
theorem dX4_isOption_10 : decode cX4_isOption 10 = .ok (.invokestatic 81, 3) := by decide +kernel
theorem dX4_isOption_13 : decode cX4_isOption 13 = .ok (.ifCond .eq 7, 3) := by decide +kernel
theorem dX4_isOption_16 : decode cX4_isOption 16 = .ok (.iconst 1, 1) := by decide +kernel
theorem dX4_isOption_17 : decode cX4_isOption 17 = .ok (.goto 4, 3) := by decide +kernel
theorem dX4_isOption_20 : decode cX4_isOption 20 = .ok (.iconst 0, 1) := by decide +kernel
theorem dX4_isOption_21 : decode cX4_isOption 21 = .ok (.ireturn, 1) := by decide +kernel
theorem dX4_isShut_0 : decode cX4_isShut 0 = .ok (.aload_n 0, 1) := by decide +kernel
theorem dX4_isShut_1 : decode cX4_isShut 1 = .ok (.getfield 35, 3) := by decide +kernel
theorem dX4_isShut_4 : decode cX4_isShut 4 = .ok (.iload_n 1, 1) := by decide +kernel
theorem dX4_isShut_5 : decode cX4_isShut 5 = .ok (.iaload, 1) := by decide +kernel
theorem dX4_isShut_6 : decode cX4_isShut 6 = .ok (.ifCond .eq 25, 3) := by decide +kernel
theorem dX4_isShut_9 : decode cX4_isShut 9 = .ok (.aload_n 0, 1) := by decide +kernel
theorem dX4_isShut_10 : decode cX4_isShut 10 = .ok (.getfield 35, 3) := by decide +kernel
theorem dX4_isShut_13 : decode cX4_isShut 13 = .ok (.iload_n 1, 1) := by decide +kernel
theorem dX4_isShut_14 : decode cX4_isShut 14 = .ok (.iaload, 1) := by decide +kernel
theorem dX4_isShut_15 : decode cX4_isShut 15 = .ok (.bipush 6, 2) := by decide +kernel
theorem dX4_isShut_17 : decode cX4_isShut 17 = .ok (.if_icmp .eq 14, 3) := by decide +kernel
theorem dX4_isShut_20 : decode cX4_isShut 20 = .ok (.aload_n 0, 1) := by decide +kernel
theorem dX4_isShut_21 : decode cX4_isShut 21 = .ok (.getfield 35, 3) := by decide +kernel
theorem dX4_isShut_24 : decode cX4_isShut 24 = .ok (.iload_n 1, 1) := by decide +kernel
theorem dX4_isShut_25 : decode cX4_isShut 25 = .ok (.iaload, 1) := by decide +kernel
theorem dX4_isShut_26 : decode cX4_isShut 26 = .ok (.bipush 7, 2) := by decide +kernel
theorem dX4_isShut_28 : decode cX4_isShut 28 = .ok (.if_icmp .ne 7, 3) := by decide +kernel
theorem dX4_isShut_31 : decode cX4_isShut 31 = .ok (.iconst 1, 1) := by decide +kernel
theorem dX4_isShut_32 : decode cX4_isShut 32 = .ok (.goto 4, 3) := by decide +kernel
theorem dX4_isShut_35 : decode cX4_isShut 35 = .ok (.iconst 0, 1) := by decide +kernel
theorem dX4_isShut_36 : decode cX4_isShut 36 = .ok (.ireturn, 1) := by decide +kernel
set_option maxRecDepth 20000 in
theorem ggX4_isSpan_X4_isIn : GoodIn wsX4_isSpan wsX4_isIn := goodIn_r _ [4] (by decide +kernel) (by decide +kernel)
set_option maxRecDepth 20000 in
theorem gX4_isSpan_X4_isIn : GoodIn wsX4_isSpan (va_wsS RX4 81 yX4_isIn wsX4_isIn) := goodIn_app (goodIn_of _ (by decide +kernel)) ggX4_isSpan_X4_isIn
theorem dX4_isSpan_0 : decode cX4_isSpan 0 = .ok (.iload_n 0, 1) := by decide +kernel
theorem dX4_isSpan_1 : decode cX4_isSpan 1 = .ok (.iconst 0, 1) := by decide +kernel
theorem dX4_isSpan_2 : decode cX4_isSpan 2 = .ok (.bipush 100, 2) := by decide +kernel
theorem dX4_isSpan_4 : decode cX4_isSpan 4 = .ok (.invokestatic 81, 3) := by decide +kernel
theorem dX4_isSpan_7 : decode cX4_isSpan 7 = .ok (.ifCond .eq 17, 3) := by decide +kernel
theorem dX4_isSpan_10 : decode cX4_isSpan 10 = .ok (.iload_n 1, 1) := by decide +kernel
theorem dX4_isSpan_11 : decode cX4_isSpan 11 = .ok (.iload_n 0, 1) := by decide +kernel
theorem dX4_isSpan_12 : decode cX4_isSpan 12 = .ok (.bipush 100, 2) := by decide +kernel
theorem dX4_isSpan_14 : decode cX4_isSpan 14 = .ok (.invokestatic 81, 3) := by decide +kernel
theorem dX4_isSpan_17 : decode cX4_isSpan 17 = .ok (.ifCond .eq 7, 3) := by decide +kernel
theorem dX4_isSpan_20 : decode cX4_isSpan 20 = .ok (.iconst 1, 1) := by decide +kernel
theorem dX4_isSpan_21 : decode cX4_isSpan 21 = .ok (.goto 4, 3) := by decide +kernel
theorem dX4_isSpan_24 : decode cX4_isSpan 24 = .ok (.iconst 0, 1) := by decide +kernel
theorem dX4_isSpan_25 : decode cX4_isSpan 25 = .ok (.ireturn, 1) := by decide +kernel
set_option maxRecDepth 20000 in
theorem ggX4_wish_X4_isOption : GoodIn wsX4_wish wsX4_isOption := goodIn_r _ [7, 8, 9, 6, 10, 11, 12, 13] (by decide +kernel) (by decide +kernel)
set_option maxRecDepth 20000 in
theorem gX4_wish_X4_isOption : GoodIn wsX4_wish (va_wsS RX4 89 yX4_isOption wsX4_isOption) := goodIn_app (goodIn_of _ (by decide +kernel)) ggX4_wish_X4_isOption
set_option maxRecDepth 20000 in
theorem ggX4_wish_X4_isSpan : GoodIn wsX4_wish wsX4_isSpan := goodIn_r _ [16, 11, 12, 6, 13] (by decide +kernel) (by decide +kernel)
set_option maxRecDepth 20000 in
theorem gX4_wish_X4_isSpan : GoodIn wsX4_wish (va_wsS RX4 93 yX4_isSpan wsX4_isSpan) := goodIn_app (goodIn_of _ (by decide +kernel)) ggX4_wish_X4_isSpan
set_option maxRecDepth 20000 in
theorem ggX4_wish_X4_isIn : GoodIn wsX4_wish wsX4_isIn := goodIn_r _ [13] (by decide +kernel) (by decide +kernel)
set_option maxRecDepth 20000 in
theorem gX4_wish_X4_isIn : GoodIn wsX4_wish (va_wsS RX4 81 yX4_isIn wsX4_isIn) := goodIn_app (goodIn_of _ (by decide +kernel)) ggX4_wish_X4_isIn
set_option maxRecDepth 20000 in
theorem ggX4_wish_X4_isShut : GoodIn wsX4_wish wsX4_isShut := goodIn_r _ [20, 21, 27, 28, 29, 30, 31, 32, 33, 34, 35, 36, 37, 38, 39, 40, 41, 42, 43, 44, 45, 46, 47, 48, 49, 50, 51, 52, 53, 54, 55] (by decide +kernel) (by decide +kernel)
set_option maxRecDepth 20000 in
theorem gX4_wish_X4_isShut : GoodIn wsX4_wish (wsV RX4 96 RX4 yX4_isShut wsX4_isShut) := goodIn_app (goodIn_of _ (by decide +kernel)) ggX4_wish_X4_isShut
set_option maxRecDepth 20000 in
theorem ggX4_wish_X4_can : GoodIn wsX4_wish wsX4_can := goodIn_r _ [25, 26, 27, 28, 29, 30, 31, 32, 33, 34, 35, 36, 37, 38, 39, 40, 41, 42, 43, 44, 45, 46, 47, 48, 49, 50, 51, 52, 53, 54, 55] (by decide +kernel) (by decide +kernel)
set_option maxRecDepth 20000 in
theorem gX4_wish_X4_can : GoodIn wsX4_wish (wsV RX4 99 RX4 yX4_can wsX4_can) := goodIn_app (goodIn_of _ (by decide +kernel)) ggX4_wish_X4_can
theorem dX4_wish_0 : decode cX4_wish 0 = .ok (.iload_n 1, 1) := by decide +kernel
theorem dX4_wish_1 : decode cX4_wish 1 = .ok (.iload_n 2, 1) := by decide +kernel
theorem dX4_wish_2 : decode cX4_wish 2 = .ok (.invokestatic 89, 3) := by decide +kernel
theorem dX4_wish_5 : decode cX4_wish 5 = .ok (.ifCond .eq 33, 3) := by decide +kernel
theorem dX4_wish_8 : decode cX4_wish 8 = .ok (.iload 4, 2) := by decide +kernel
theorem dX4_wish_10 : decode cX4_wish 10 = .ok (.iload 5, 2) := by decide +kernel
theorem dX4_wish_12 : decode cX4_wish 12 = .ok (.invokestatic 93, 3) := by decide +kernel
theorem dX4_wish_15 : decode cX4_wish 15 = .ok (.ifCond .eq 23, 3) := by decide +kernel
theorem dX4_wish_18 : decode cX4_wish 18 = .ok (.iload_n 3, 1) := by decide +kernel
theorem dX4_wish_19 : decode cX4_wish 19 = .ok (.iconst (-1), 1) := by decide +kernel
theorem dX4_wish_20 : decode cX4_wish 20 = .ok (.if_icmp .eq 14, 3) := by decide +kernel
theorem dX4_wish_23 : decode cX4_wish 23 = .ok (.iload_n 3, 1) := by decide +kernel
theorem dX4_wish_24 : decode cX4_wish 24 = .ok (.iload 4, 2) := by decide +kernel
theorem dX4_wish_26 : decode cX4_wish 26 = .ok (.iload 5, 2) := by decide +kernel
theorem dX4_wish_28 : decode cX4_wish 28 = .ok (.invokestatic 81, 3) := by decide +kernel
theorem dX4_wish_31 : decode cX4_wish 31 = .ok (.ifCond .eq 7, 3) := by decide +kernel
theorem dX4_wish_34 : decode cX4_wish 34 = .ok (.iconst 1, 1) := by decide +kernel
theorem dX4_wish_35 : decode cX4_wish 35 = .ok (.goto 4, 3) := by decide +kernel
theorem dX4_wish_38 : decode cX4_wish 38 = .ok (.iconst 0, 1) := by decide +kernel
theorem dX4_wish_39 : decode cX4_wish 39 = .ok (.istore 6, 2) := by decide +kernel
theorem dX4_wish_41 : decode cX4_wish 41 = .ok (.aload_n 0, 1) := by decide +kernel
theorem dX4_wish_42 : decode cX4_wish 42 = .ok (.iload 6, 2) := by decide +kernel
theorem dX4_wish_44 : decode cX4_wish 44 = .ok (.ifCond .ne 7, 3) := by decide +kernel
theorem dX4_wish_47 : decode cX4_wish 47 = .ok (.iconst 1, 1) := by decide +kernel
theorem dX4_wish_48 : decode cX4_wish 48 = .ok (.goto 16, 3) := by decide +kernel
theorem dX4_wish_51 : decode cX4_wish 51 = .ok (.aload_n 0, 1) := by decide +kernel
theorem dX4_wish_52 : decode cX4_wish 52 = .ok (.iload_n 1, 1) := by decide +kernel
theorem dX4_wish_53 : decode cX4_wish 53 = .ok (.invokevirtual 96, 3) := by decide +kernel
theorem dX4_wish_56 : decode cX4_wish 56 = .ok (.ifCond .eq 7, 3) := by decide +kernel
theorem dX4_wish_59 : decode cX4_wish 59 = .ok (.iconst 0, 1) := by decide +kernel
theorem dX4_wish_60 : decode cX4_wish 60 = .ok (.goto 4, 3) := by decide +kernel
theorem dX4_wish_63 : decode cX4_wish 63 = .ok (.iconst 2, 1) := by decide +kernel
theorem dX4_wish_64 : decode cX4_wish 64 = .ok (.invokevirtual 99, 3) := by decide +kernel
theorem dX4_wish_67 : decode cX4_wish 67 = .ok (.ifCond .ne 5, 3) := by decide +kernel
theorem dX4_wish_70 : decode cX4_wish 70 = .ok (.iconst 0, 1) := by decide +kernel
theorem dX4_wish_71 : decode cX4_wish 71 = .ok (.ireturn, 1) := by decide +kernel
theorem dX4_wish_72 : decode cX4_wish 72 = .ok (.iconst 4, 1) := by decide +kernel
theorem dX4_wish_73 : decode cX4_wish 73 = .ok (.iload_n 1, 1) := by decide +kernel
theorem dX4_wish_74 : decode cX4_wish 74 = .ok (.imul, 1) := by decide +kernel
theorem dX4_wish_75 : decode cX4_wish 75 = .ok (.iload_n 2, 1) := by decide +kernel
theorem dX4_wish_76 : decode cX4_wish 76 = .ok (.iadd, 1) := by decide +kernel
theorem dX4_wish_77 : decode cX4_wish 77 = .ok (.istore 7, 2) := by decide +kernel
theorem dX4_wish_79 : decode cX4_wish 79 = .ok (.aload_n 0, 1) := by decide +kernel
theorem dX4_wish_80 : decode cX4_wish 80 = .ok (.getfield 7, 3) := by decide +kernel
theorem dX4_wish_83 : decode cX4_wish 83 = .ok (.iload 7, 2) := by decide +kernel
theorem dX4_wish_85 : decode cX4_wish 85 = .ok (.iaload, 1) := by decide +kernel
theorem dX4_wish_86 : decode cX4_wish 86 = .ok (.istore 8, 2) := by decide +kernel
theorem dX4_wish_88 : decode cX4_wish 88 = .ok (.aload_n 0, 1) := by decide +kernel
theorem dX4_wish_89 : decode cX4_wish 89 = .ok (.getfield 7, 3) := by decide +kernel
theorem dX4_wish_92 : decode cX4_wish 92 = .ok (.iload 7, 2) := by decide +kernel
theorem dX4_wish_94 : decode cX4_wish 94 = .ok (.iload_n 3, 1) := by decide +kernel
theorem dX4_wish_95 : decode cX4_wish 95 = .ok (.iastore, 1) := by decide +kernel
theorem dX4_wish_96 : decode cX4_wish 96 = .ok (.aload_n 0, 1) := by decide +kernel
theorem dX4_wish_97 : decode cX4_wish 97 = .ok (.getfield 13, 3) := by decide +kernel
theorem dX4_wish_100 : decode cX4_wish 100 = .ok (.iload 7, 2) := by decide +kernel
theorem dX4_wish_102 : decode cX4_wish 102 = .ok (.iload 4, 2) := by decide +kernel
theorem dX4_wish_104 : decode cX4_wish 104 = .ok (.iastore, 1) := by decide +kernel
theorem dX4_wish_105 : decode cX4_wish 105 = .ok (.aload_n 0, 1) := by decide +kernel
theorem dX4_wish_106 : decode cX4_wish 106 = .ok (.getfield 16, 3) := by decide +kernel
theorem dX4_wish_109 : decode cX4_wish 109 = .ok (.iload 7, 2) := by decide +kernel
theorem dX4_wish_111 : decode cX4_wish 111 = .ok (.iload 5, 2) := by decide +kernel
theorem dX4_wish_113 : decode cX4_wish 113 = .ok (.iastore, 1) := by decide +kernel
theorem dX4_wish_114 : decode cX4_wish 114 = .ok (.iload 8, 2) := by decide +kernel
theorem dX4_wish_116 : decode cX4_wish 116 = .ok (.ireturn, 1) := by decide +kernel
set_option maxRecDepth 20000 in
theorem ggX4_allow_X4_isOption : GoodIn wsX4_allow wsX4_isOption := goodIn_r _ [6, 7, 8, 5, 9, 10, 11, 12] (by decide +kernel) (by decide +kernel)
set_option maxRecDepth 20000 in
theorem gX4_allow_X4_isOption : GoodIn wsX4_allow (va_wsS RX4 89 yX4_isOption wsX4_isOption) := goodIn_app (goodIn_of _ (by decide +kernel)) ggX4_allow_X4_isOption
set_option maxRecDepth 20000 in
theorem ggX4_allow_X4_isSpan : GoodIn wsX4_allow wsX4_isSpan := goodIn_r _ [15, 10, 11, 5, 12] (by decide +kernel) (by decide +kernel)
set_option maxRecDepth 20000 in
theorem gX4_allow_X4_isSpan : GoodIn wsX4_allow (va_wsS RX4 93 yX4_isSpan wsX4_isSpan) := goodIn_app (goodIn_of _ (by decide +kernel)) ggX4_allow_X4_isSpan
set_option maxRecDepth 20000 in
theorem ggX4_allow_X4_isShut : GoodIn wsX4_allow wsX4_isShut := goodIn_r _ [19, 20, 26, 27, 28, 29, 30, 31, 32, 33, 34, 35, 36, 37, 38, 39, 40, 41, 42, 43, 44, 45, 46, 47, 48, 49, 50, 51, 52, 53, 54] (by decide +kernel) (by decide +kernel)
set_option maxRecDepth 20000 in
theorem gX4_allow_X4_isShut : GoodIn wsX4_allow (wsV RX4 96 RX4 yX4_isShut wsX4_isShut) := goodIn_app (goodIn_of _ (by decide +kernel)) ggX4_allow_X4_isShut
set_option maxRecDepth 20000 in
theorem ggX4_allow_X4_can : GoodIn wsX4_allow wsX4_can := goodIn_r _ [24, 25, 26, 27, 28, 29, 30, 31, 32, 33, 34, 35, 36, 37, 38, 39, 40, 41, 42, 43, 44, 45, 46, 47, 48, 49, 50, 51, 52, 53, 54] (by decide +kernel) (by decide +kernel)
set_option maxRecDepth 20000 in
theorem gX4_allow_X4_can : GoodIn wsX4_allow (wsV RX4 99 RX4 yX4_can wsX4_can) := goodIn_app (goodIn_of _ (by decide +kernel)) ggX4_allow_X4_can
theorem dX4_allow_0 : decode cX4_allow 0 = .ok (.aload_n 0, 1) := by decide +kernel
theorem dX4_allow_1 : decode cX4_allow 1 = .ok (.iload_n 1, 1) := by decide +kernel
theorem dX4_allow_2 : decode cX4_allow 2 = .ok (.iload_n 2, 1) := by decide +kernel
theorem dX4_allow_3 : decode cX4_allow 3 = .ok (.invokestatic 89, 3) := by decide +kernel
theorem dX4_allow_6 : decode cX4_allow 6 = .ok (.ifCond .eq 12, 3) := by decide +kernel
theorem dX4_allow_9 : decode cX4_allow 9 = .ok (.iload_n 3, 1) := by decide +kernel
theorem dX4_allow_10 : decode cX4_allow 10 = .ok (.iload 4, 2) := by decide +kernel
theorem dX4_allow_12 : decode cX4_allow 12 = .ok (.invokestatic 93, 3) := by decide +kernel
theorem dX4_allow_15 : decode cX4_allow 15 = .ok (.ifCond .ne 7, 3) := by decide +kernel
theorem dX4_allow_18 : decode cX4_allow 18 = .ok (.iconst 1, 1) := by decide +kernel
theorem dX4_allow_19 : decode cX4_allow 19 = .ok (.goto 16, 3) := by decide +kernel
theorem dX4_allow_22 : decode cX4_allow 22 = .ok (.aload_n 0, 1) := by decide +kernel
theorem dX4_allow_23 : decode cX4_allow 23 = .ok (.iload_n 1, 1) := by decide +kernel
theorem dX4_allow_24 : decode cX4_allow 24 = .ok (.invokevirtual 96, 3) := by decide +kernel
theorem dX4_allow_27 : decode cX4_allow 27 = .ok (.ifCond .eq 7, 3) := by decide +kernel
theorem dX4_allow_30 : decode cX4_allow 30 = .ok (.iconst 0, 1) := by decide +kernel
theorem dX4_allow_31 : decode cX4_allow 31 = .ok (.goto 4, 3) := by decide +kernel
theorem dX4_allow_34 : decode cX4_allow 34 = .ok (.iconst 2, 1) := by decide +kernel
theorem dX4_allow_35 : decode cX4_allow 35 = .ok (.invokevirtual 99, 3) := by decide +kernel
theorem dX4_allow_38 : decode cX4_allow 38 = .ok (.ifCond .eq 26, 3) := by decide +kernel
theorem dX4_allow_41 : decode cX4_allow 41 = .ok (.aload_n 0, 1) := by decide +kernel
theorem dX4_allow_42 : decode cX4_allow 42 = .ok (.getfield 19, 3) := by decide +kernel
theorem dX4_allow_45 : decode cX4_allow 45 = .ok (.iconst 4, 1) := by decide +kernel
theorem dX4_allow_46 : decode cX4_allow 46 = .ok (.iload_n 1, 1) := by decide +kernel
theorem dX4_allow_47 : decode cX4_allow 47 = .ok (.imul, 1) := by decide +kernel
theorem dX4_allow_48 : decode cX4_allow 48 = .ok (.iload_n 2, 1) := by decide +kernel
theorem dX4_allow_49 : decode cX4_allow 49 = .ok (.iadd, 1) := by decide +kernel
theorem dX4_allow_50 : decode cX4_allow 50 = .ok (.iload_n 3, 1) := by decide +kernel
theorem dX4_allow_51 : decode cX4_allow 51 = .ok (.iastore, 1) := by decide +kernel
theorem dX4_allow_52 : decode cX4_allow 52 = .ok (.aload_n 0, 1) := by decide +kernel
theorem dX4_allow_53 : decode cX4_allow 53 = .ok (.getfield 22, 3) := by decide +kernel
theorem dX4_allow_56 : decode cX4_allow 56 = .ok (.iconst 4, 1) := by decide +kernel
theorem dX4_allow_57 : decode cX4_allow 57 = .ok (.iload_n 1, 1) := by decide +kernel
theorem dX4_allow_58 : decode cX4_allow 58 = .ok (.imul, 1) := by decide +kernel
theorem dX4_allow_59 : decode cX4_allow 59 = .ok (.iload_n 2, 1) := by decide +kernel
theorem dX4_allow_60 : decode cX4_allow 60 = .ok (.iadd, 1) := by decide +kernel
theorem dX4_allow_61 : decode cX4_allow 61 = .ok (.iload 4, 2) := by decide +kernel
theorem dX4_allow_63 : decode cX4_allow 63 = .ok (.iastore, 1) := by decide +kernel
theorem dX4_allow_64 : decode cX4_allow 64 = .ok (.return_, 1) := by decide +kernel
set_option maxRecDepth 20000 in
theorem ggX4_refuse_X4_isOption : GoodIn wsX4_refuse wsX4_isOption := goodIn_r _ [5, 6, 7, 4, 8, 9, 10, 11] (by decide +kernel) (by decide +kernel)
set_option maxRecDepth 20000 in
theorem gX4_refuse_X4_isOption : GoodIn wsX4_refuse (va_wsS RX4 89 yX4_isOption wsX4_isOption) := goodIn_app (goodIn_of _ (by decide +kernel)) ggX4_refuse_X4_isOption
set_option maxRecDepth 20000 in
theorem ggX4_refuse_X4_isShut : GoodIn wsX4_refuse wsX4_isShut := goodIn_r _ [15, 16, 22, 23, 24, 25, 26, 27, 28, 29, 30, 31, 32, 33, 34, 35, 36, 37, 38, 39, 40, 41, 42, 43, 44, 45, 46, 47, 48, 49, 50] (by decide +kernel) (by decide +kernel)
set_option maxRecDepth 20000 in
theorem gX4_refuse_X4_isShut : GoodIn wsX4_refuse (wsV RX4 96 RX4 yX4_isShut wsX4_isShut) := goodIn_app (goodIn_of _ (by decide +kernel)) ggX4_refuse_X4_isShut
set_option maxRecDepth 20000 in
theorem ggX4_refuse_X4_can : GoodIn wsX4_refuse wsX4_can := goodIn_r _ [20, 21, 22, 23, 24, 25, 26, 27, 28, 29, 30, 31, 32, 33, 34, 35, 36, 37, 38, 39, 40, 41, 42, 43, 44, 45, 46, 47, 48, 49, 50] (by decide +kernel) (by decide +kernel)
set_option maxRecDepth 20000 in
theorem gX4_refuse_X4_can : GoodIn wsX4_refuse (wsV RX4 99 RX4 yX4_can wsX4_can) := goodIn_app (goodIn_of _ (by decide +kernel)) ggX4_refuse_X4_can
theorem dX4_refuse_0 : decode cX4_refuse 0 = .ok (.aload_n 0, 1) := by decide +kernel
theorem dX4_refuse_1 : decode cX4_refuse 1 = .ok (.iload_n 1, 1) := by decide +kernel
theorem dX4_refuse_2 : decode cX4_refuse 2 = .ok (.iload_n 2, 1) := by decide +kernel
theorem dX4_refuse_3 : decode cX4_refuse 3 = .ok (.invokestatic 89, 3) := by decide +kernel
theorem dX4_refuse_6 : decode cX4_refuse 6 = .ok (.ifCond .ne 7, 3) := by decide +kernel
theorem dX4_refuse_9 : decode cX4_refuse 9 = .ok (.iconst 1, 1) := by decide +kernel
theorem dX4_refuse_10 : decode cX4_refuse 10 = .ok (.goto 16, 3) := by decide +kernel
theorem dX4_refuse_13 : decode cX4_refuse 13 = .ok (.aload_n 0, 1) := by decide +kernel
theorem dX4_refuse_14 : decode cX4_refuse 14 = .ok (.iload_n 1, 1) := by decide +kernel
theorem dX4_refuse_15 : decode cX4_refuse 15 = .ok (.invokevirtual 96, 3) := by decide +kernel
theorem dX4_refuse_18 : decode cX4_refuse 18 = .ok (.ifCond .eq 7, 3) := by decide +kernel
theorem dX4_refuse_21 : decode cX4_refuse 21 = .ok (.iconst 0, 1) := by decide +kernel
theorem dX4_refuse_22 : decode cX4_refuse 22 = .ok (.goto 4, 3) := by decide +kernel
theorem dX4_refuse_25 : decode cX4_refuse 25 = .ok (.iconst 2, 1) := by decide +kernel
theorem dX4_refuse_26 : decode cX4_refuse 26 = .ok (.invokevirtual 99, 3) := by decide +kernel
theorem dX4_refuse_29 : decode cX4_refuse 29 = .ok (.ifCond .ne 5, 3) := by decide +kernel
theorem dX4_refuse_32 : decode cX4_refuse 32 = .ok (.iconst 0, 1) := by decide +kernel
theorem dX4_refuse_33 : decode cX4_refuse 33 = .ok (.ireturn, 1) := by decide +kernel
theorem dX4_refuse_34 : decode cX4_refuse 34 = .ok (.aload_n 0, 1) := by decide +kernel
theorem dX4_refuse_35 : decode cX4_refuse 35 = .ok (.getfield 25, 3) := by decide +kernel
theorem dX4_refuse_38 : decode cX4_refuse 38 = .ok (.iconst 4, 1) := by decide +kernel
theorem dX4_refuse_39 : decode cX4_refuse 39 = .ok (.iload_n 1, 1) := by decide +kernel
theorem dX4_refuse_40 : decode cX4_refuse 40 = .ok (.imul, 1) := by decide +kernel
theorem dX4_refuse_41 : decode cX4_refuse 41 = .ok (.iload_n 2, 1) := by decide +kernel
theorem dX4_refuse_42 : decode cX4_refuse 42 = .ok (.iadd, 1) := by decide +kernel
theorem dX4_refuse_43 : decode cX4_refuse 43 = .ok (.baload, 1) := by decide +kernel
theorem dX4_refuse_44 : decode cX4_refuse 44 = .ok (.istore 4, 2) := by decide +kernel
theorem dX4_refuse_46 : decode cX4_refuse 46 = .ok (.aload_n 0, 1) := by decide +kernel
theorem dX4_refuse_47 : decode cX4_refuse 47 = .ok (.getfield 25, 3) := by decide +kernel
theorem dX4_refuse_50 : decode cX4_refuse 50 = .ok (.iconst 4, 1) := by decide +kernel
theorem dX4_refuse_51 : decode cX4_refuse 51 = .ok (.iload_n 1, 1) := by decide +kernel
theorem dX4_refuse_52 : decode cX4_refuse 52 = .ok (.imul, 1) := by decide +kernel
theorem dX4_refuse_53 : decode cX4_refuse 53 = .ok (.iload_n 2, 1) := by decide +kernel
theorem dX4_refuse_54 : decode cX4_refuse 54 = .ok (.iadd, 1) := by decide +kernel
theorem dX4_refuse_55 : decode cX4_refuse 55 = .ok (.iload_n 3, 1) := by decide +kernel
theorem dX4_refuse_56 : decode cX4_refuse 56 = .ok (.bastore, 1) := by decide +kernel
theorem dX4_refuse_57 : decode cX4_refuse 57 = .ok (.iload 4, 2) := by decide +kernel
theorem dX4_refuse_59 : decode cX4_refuse 59 = .ok (.ireturn, 1) := by decide +kernel
theorem dX4_loop_0 : decode cX4_loop 0 = .ok (.aload_n 0, 1) := by decide +kernel
theorem dX4_loop_1 : decode cX4_loop 1 = .ok (.iconst 0, 1) := by decide +kernel
theorem dX4_loop_2 : decode cX4_loop 2 = .ok (.putfield 77, 3) := by decide +kernel
theorem dX4_loop_5 : decode cX4_loop 5 = .ok (.aload_n 0, 1) := by decide +kernel
theorem dX4_loop_6 : decode cX4_loop 6 = .ok (.getfield 102, 3) := by decide +kernel
theorem dX4_loop_9 : decode cX4_loop 9 = .ok (.istore_n 2, 1) := by decide +kernel
theorem dX4_loop_10 : decode cX4_loop 10 = .ok (.aload_n 0, 1) := by decide +kernel
theorem dX4_loop_11 : decode cX4_loop 11 = .ok (.iload_n 1, 1) := by decide +kernel
theorem dX4_loop_12 : decode cX4_loop 12 = .ok (.putfield 102, 3) := by decide +kernel
theorem dX4_loop_15 : decode cX4_loop 15 = .ok (.iload_n 2, 1) := by decide +kernel
theorem dX4_loop_16 : decode cX4_loop 16 = .ok (.ireturn, 1) := by decide +kernel
theorem dX4_send_0 : decode cX4_send 0 = .ok (.aload_n 0, 1) := by decide +kernel
theorem dX4_send_1 : decode cX4_send 1 = .ok (.getfield 102, 3) := by decide +kernel
theorem dX4_send_4 : decode cX4_send 4 = .ok (.ifCond .eq 7, 3) := by decide +kernel
theorem dX4_send_7 : decode cX4_send 7 = .ok (.iload_n 1, 1) := by decide +kernel
theorem dX4_send_8 : decode cX4_send 8 = .ok (.goto 6, 3) := by decide +kernel
theorem dX4_send_11 : decode cX4_send 11 = .ok (.iconst 1, 1) := by decide +kernel
theorem dX4_send_12 : decode cX4_send 12 = .ok (.iload_n 1, 1) := by decide +kernel
theorem dX4_send_13 : decode cX4_send 13 = .ok (.isub, 1) := by decide +kernel
theorem dX4_send_14 : decode cX4_send 14 = .ok (.istore 5, 2) := by decide +kernel
theorem dX4_send_16 : decode cX4_send 16 = .ok (.aload_n 0, 1) := by decide +kernel
theorem dX4_send_17 : decode cX4_send 17 = .ok (.dup, 1) := by decide +kernel
theorem dX4_send_18 : decode cX4_send 18 = .ok (.getfield 106, 3) := by decide +kernel
theorem dX4_send_21 : decode cX4_send 21 = .ok (.iconst 1, 1) := by decide +kernel
theorem dX4_send_22 : decode cX4_send 22 = .ok (.iadd, 1) := by decide +kernel
theorem dX4_send_23 : decode cX4_send 23 = .ok (.putfield 106, 3) := by decide +kernel
theorem dX4_send_26 : decode cX4_send 26 = .ok (.aload_n 0, 1) := by decide +kernel
theorem dX4_send_27 : decode cX4_send 27 = .ok (.getfield 56, 3) := by decide +kernel
theorem dX4_send_30 : decode cX4_send 30 = .ok (.iload 5, 2) := by decide +kernel
theorem dX4_send_32 : decode cX4_send 32 = .ok (.iaload, 1) := by decide +kernel
theorem dX4_send_33 : decode cX4_send 33 = .ok (.bipush 12, 2) := by decide +kernel
theorem dX4_send_35 : decode cX4_send 35 = .ok (.if_icmp .ge 88, 3) := by decide +kernel
theorem dX4_send_38 : decode cX4_send 38 = .ok (.bipush 12, 2) := by decide +kernel
theorem dX4_send_40 : decode cX4_send 40 = .ok (.iload 5, 2) := by decide +kernel
theorem dX4_send_42 : decode cX4_send 42 = .ok (.imul, 1) := by decide +kernel
theorem dX4_send_43 : decode cX4_send 43 = .ok (.aload_n 0, 1) := by decide +kernel
theorem dX4_send_44 : decode cX4_send 44 = .ok (.getfield 56, 3) := by decide +kernel
theorem dX4_send_47 : decode cX4_send 47 = .ok (.iload 5, 2) := by decide +kernel
theorem dX4_send_49 : decode cX4_send 49 = .ok (.iaload, 1) := by decide +kernel
theorem dX4_send_50 : decode cX4_send 50 = .ok (.iadd, 1) := by decide +kernel
theorem dX4_send_51 : decode cX4_send 51 = .ok (.istore 6, 2) := by decide +kernel
theorem dX4_send_53 : decode cX4_send 53 = .ok (.aload_n 0, 1) := by decide +kernel
theorem dX4_send_54 : decode cX4_send 54 = .ok (.getfield 59, 3) := by decide +kernel
theorem dX4_send_57 : decode cX4_send 57 = .ok (.iload 6, 2) := by decide +kernel
theorem dX4_send_59 : decode cX4_send 59 = .ok (.iload_n 2, 1) := by decide +kernel
theorem dX4_send_60 : decode cX4_send 60 = .ok (.iastore, 1) := by decide +kernel
theorem dX4_send_61 : decode cX4_send 61 = .ok (.aload_n 0, 1) := by decide +kernel
theorem dX4_send_62 : decode cX4_send 62 = .ok (.getfield 62, 3) := by decide +kernel
theorem dX4_send_65 : decode cX4_send 65 = .ok (.iload 6, 2) := by decide +kernel
theorem dX4_send_67 : decode cX4_send 67 = .ok (.iload_n 3, 1) := by decide +kernel
theorem dX4_send_68 : decode cX4_send 68 = .ok (.iastore, 1) := by decide +kernel
theorem dX4_send_69 : decode cX4_send 69 = .ok (.aload_n 0, 1) := by decide +kernel
theorem dX4_send_70 : decode cX4_send 70 = .ok (.getfield 65, 3) := by decide +kernel
theorem dX4_send_73 : decode cX4_send 73 = .ok (.iload 6, 2) := by decide +kernel
theorem dX4_send_75 : decode cX4_send 75 = .ok (.iload 4, 2) := by decide +kernel
theorem dX4_send_77 : decode cX4_send 77 = .ok (.iastore, 1) := by decide +kernel
theorem dX4_send_78 : decode cX4_send 78 = .ok (.iconst 0, 1) := by decide +kernel
theorem dX4_send_79 : decode cX4_send 79 = .ok (.istore 7, 2) := by decide +kernel
theorem dX4_send_81 : decode cX4_send 81 = .ok (.iload 7, 2) := by decide +kernel
theorem dX4_send_83 : decode cX4_send 83 = .ok (.iconst 4, 1) := by decide +kernel
theorem dX4_send_84 : decode cX4_send 84 = .ok (.if_icmp .ge 28, 3) := by decide +kernel
theorem dX4_send_87 : decode cX4_send 87 = .ok (.aload_n 0, 1) := by decide +kernel
theorem dX4_send_88 : decode cX4_send 88 = .ok (.getfield 68, 3) := by decide +kernel
theorem dX4_send_91 : decode cX4_send 91 = .ok (.iconst 4, 1) := by decide +kernel
theorem dX4_send_92 : decode cX4_send 92 = .ok (.iload 6, 2) := by decide +kernel
theorem dX4_send_94 : decode cX4_send 94 = .ok (.imul, 1) := by decide +kernel
theorem dX4_send_95 : decode cX4_send 95 = .ok (.iload 7, 2) := by decide +kernel
theorem dX4_send_97 : decode cX4_send 97 = .ok (.iadd, 1) := by decide +kernel
theorem dX4_send_98 : decode cX4_send 98 = .ok (.aload_n 0, 1) := by decide +kernel
theorem dX4_send_99 : decode cX4_send 99 = .ok (.getfield 74, 3) := by decide +kernel
theorem dX4_send_102 : decode cX4_send 102 = .ok (.iload 7, 2) := by decide +kernel
theorem dX4_send_104 : decode cX4_send 104 = .ok (.iaload, 1) := by decide +kernel
theorem dX4_send_105 : decode cX4_send 105 = .ok (.iastore, 1) := by decide +kernel
theorem dX4_send_106 : decode cX4_send 106 = .ok (.iinc 7 1, 3) := by decide +kernel
theorem dX4_send_109 : decode cX4_send 109 = .ok (.goto (-28), 3) := by decide +kernel
theorem dX4_send_112 : decode cX4_send 112 = .ok (.aload_n 0, 1) := by decide +kernel
theorem dX4_send_113 : decode cX4_send 113 = .ok (.getfield 56, 3) := by decide +kernel
theorem dX4_send_116 : decode cX4_send 116 = .ok (.iload 5, 2) := by decide +kernel
theorem dX4_send_118 : decode cX4_send 118 = .ok (.dup2, 1) := by decide +kernel
theorem dX4_send_119 : decode cX4_send 119 = .ok (.iaload, 1) := by decide +kernel
theorem dX4_send_120 : decode cX4_send 120 = .ok (.iconst 1, 1) := by decide +kernel
theorem dX4_send_121 : decode cX4_send 121 = .ok (.iadd, 1) := by decide +kernel
theorem dX4_send_122 : decode cX4_send 122 = .ok (.iastore, 1) := by decide +kernel
theorem dX4_send_123 : decode cX4_send 123 = .ok (.return_, 1) := by decide +kernel
theorem dX4_takes_0 : decode cX4_takes 0 = .ok (.bipush 12, 2) := by decide +kernel
theorem dX4_takes_2 : decode cX4_takes 2 = .ok (.iload_n 1, 1) := by decide +kernel
theorem dX4_takes_3 : decode cX4_takes 3 = .ok (.imul, 1) := by decide +kernel
theorem dX4_takes_4 : decode cX4_takes 4 = .ok (.istore_n 2, 1) := by decide +kernel
theorem dX4_takes_5 : decode cX4_takes 5 = .ok (.aload_n 0, 1) := by decide +kernel
theorem dX4_takes_6 : decode cX4_takes 6 = .ok (.aload_n 0, 1) := by decide +kernel
theorem dX4_takes_7 : decode cX4_takes 7 = .ok (.getfield 59, 3) := by decide +kernel
theorem dX4_takes_10 : decode cX4_takes 10 = .ok (.iload_n 2, 1) := by decide +kernel
theorem dX4_takes_11 : decode cX4_takes 11 = .ok (.iaload, 1) := by decide +kernel
theorem dX4_takes_12 : decode cX4_takes 12 = .ok (.putfield 109, 3) := by decide +kernel
theorem dX4_takes_15 : decode cX4_takes 15 = .ok (.aload_n 0, 1) := by decide +kernel
theorem dX4_takes_16 : decode cX4_takes 16 = .ok (.aload_n 0, 1) := by decide +kernel
theorem dX4_takes_17 : decode cX4_takes 17 = .ok (.getfield 62, 3) := by decide +kernel
theorem dX4_takes_20 : decode cX4_takes 20 = .ok (.iload_n 2, 1) := by decide +kernel
theorem dX4_takes_21 : decode cX4_takes 21 = .ok (.iaload, 1) := by decide +kernel
theorem dX4_takes_22 : decode cX4_takes 22 = .ok (.putfield 112, 3) := by decide +kernel
theorem dX4_takes_25 : decode cX4_takes 25 = .ok (.aload_n 0, 1) := by decide +kernel
theorem dX4_takes_26 : decode cX4_takes 26 = .ok (.aload_n 0, 1) := by decide +kernel
theorem dX4_takes_27 : decode cX4_takes 27 = .ok (.getfield 65, 3) := by decide +kernel
theorem dX4_takes_30 : decode cX4_takes 30 = .ok (.iload_n 2, 1) := by decide +kernel
theorem dX4_takes_31 : decode cX4_takes 31 = .ok (.iaload, 1) := by decide +kernel
theorem dX4_takes_32 : decode cX4_takes 32 = .ok (.putfield 115, 3) := by decide +kernel
theorem dX4_takes_35 : decode cX4_takes 35 = .ok (.iconst 0, 1) := by decide +kernel
theorem dX4_takes_36 : decode cX4_takes 36 = .ok (.istore_n 3, 1) := by decide +kernel
theorem dX4_takes_37 : decode cX4_takes 37 = .ok (.iload_n 3, 1) := by decide +kernel
theorem dX4_takes_38 : decode cX4_takes 38 = .ok (.iconst 4, 1) := by decide +kernel
theorem dX4_takes_39 : decode cX4_takes 39 = .ok (.if_icmp .ge 25, 3) := by decide +kernel
theorem dX4_takes_42 : decode cX4_takes 42 = .ok (.aload_n 0, 1) := by decide +kernel
theorem dX4_takes_43 : decode cX4_takes 43 = .ok (.getfield 71, 3) := by decide +kernel
theorem dX4_takes_46 : decode cX4_takes 46 = .ok (.iload_n 3, 1) := by decide +kernel
theorem dX4_takes_47 : decode cX4_takes 47 = .ok (.aload_n 0, 1) := by decide +kernel
theorem dX4_takes_48 : decode cX4_takes 48 = .ok (.getfield 68, 3) := by decide +kernel
theorem dX4_takes_51 : decode cX4_takes 51 = .ok (.iconst 4, 1) := by decide +kernel
theorem dX4_takes_52 : decode cX4_takes 52 = .ok (.iload_n 2, 1) := by decide +kernel
theorem dX4_takes_53 : decode cX4_takes 53 = .ok (.imul, 1) := by decide +kernel
theorem dX4_takes_54 : decode cX4_takes 54 = .ok (.iload_n 3, 1) := by decide +kernel
theorem dX4_takes_55 : decode cX4_takes 55 = .ok (.iadd, 1) := by decide +kernel
theorem dX4_takes_56 : decode cX4_takes 56 = .ok (.iaload, 1) := by decide +kernel
theorem dX4_takes_57 : decode cX4_takes 57 = .ok (.iastore, 1) := by decide +kernel
theorem dX4_takes_58 : decode cX4_takes 58 = .ok (.iinc 3 1, 3) := by decide +kernel
theorem dX4_takes_61 : decode cX4_takes 61 = .ok (.goto (-24), 3) := by decide +kernel
theorem dX4_takes_64 : decode cX4_takes 64 = .ok (.aload_n 0, 1) := by decide +kernel
theorem dX4_takes_65 : decode cX4_takes 65 = .ok (.getfield 56, 3) := by decide +kernel
theorem dX4_takes_68 : decode cX4_takes 68 = .ok (.iload_n 1, 1) := by decide +kernel
theorem dX4_takes_69 : decode cX4_takes 69 = .ok (.dup2, 1) := by decide +kernel
theorem dX4_takes_70 : decode cX4_takes 70 = .ok (.iaload, 1) := by decide +kernel
theorem dX4_takes_71 : decode cX4_takes 71 = .ok (.iconst 1, 1) := by decide +kernel
theorem dX4_takes_72 : decode cX4_takes 72 = .ok (.isub, 1) := by decide +kernel
theorem dX4_takes_73 : decode cX4_takes 73 = .ok (.iastore, 1) := by decide +kernel
theorem dX4_takes_74 : decode cX4_takes 74 = .ok (.iload_n 2, 1) := by decide +kernel
theorem dX4_takes_75 : decode cX4_takes 75 = .ok (.istore_n 3, 1) := by decide +kernel
theorem dX4_takes_76 : decode cX4_takes 76 = .ok (.iload_n 3, 1) := by decide +kernel
theorem dX4_takes_77 : decode cX4_takes 77 = .ok (.iload_n 2, 1) := by decide +kernel
theorem dX4_takes_78 : decode cX4_takes 78 = .ok (.aload_n 0, 1) := by decide +kernel
theorem dX4_takes_79 : decode cX4_takes 79 = .ok (.getfield 56, 3) := by decide +kernel
theorem dX4_takes_82 : decode cX4_takes 82 = .ok (.iload_n 1, 1) := by decide +kernel
theorem dX4_takes_83 : decode cX4_takes 83 = .ok (.iaload, 1) := by decide +kernel
theorem dX4_takes_84 : decode cX4_takes 84 = .ok (.iadd, 1) := by decide +kernel
theorem dX4_takes_85 : decode cX4_takes 85 = .ok (.if_icmp .ge 90, 3) := by decide +kernel
theorem dX4_takes_88 : decode cX4_takes 88 = .ok (.aload_n 0, 1) := by decide +kernel
theorem dX4_takes_89 : decode cX4_takes 89 = .ok (.getfield 59, 3) := by decide +kernel
theorem dX4_takes_92 : decode cX4_takes 92 = .ok (.iload_n 3, 1) := by decide +kernel
theorem dX4_takes_93 : decode cX4_takes 93 = .ok (.aload_n 0, 1) := by decide +kernel
theorem dX4_takes_94 : decode cX4_takes 94 = .ok (.getfield 59, 3) := by decide +kernel
theorem dX4_takes_97 : decode cX4_takes 97 = .ok (.iload_n 3, 1) := by decide +kernel
theorem dX4_takes_98 : decode cX4_takes 98 = .ok (.iconst 1, 1) := by decide +kernel
theorem dX4_takes_99 : decode cX4_takes 99 = .ok (.iadd, 1) := by decide +kernel
theorem dX4_takes_100 : decode cX4_takes 100 = .ok (.iaload, 1) := by decide +kernel
theorem dX4_takes_101 : decode cX4_takes 101 = .ok (.iastore, 1) := by decide +kernel
theorem dX4_takes_102 : decode cX4_takes 102 = .ok (.aload_n 0, 1) := by decide +kernel
theorem dX4_takes_103 : decode cX4_takes 103 = .ok (.getfield 62, 3) := by decide +kernel
theorem dX4_takes_106 : decode cX4_takes 106 = .ok (.iload_n 3, 1) := by decide +kernel
theorem dX4_takes_107 : decode cX4_takes 107 = .ok (.aload_n 0, 1) := by decide +kernel
theorem dX4_takes_108 : decode cX4_takes 108 = .ok (.getfield 62, 3) := by decide +kernel
theorem dX4_takes_111 : decode cX4_takes 111 = .ok (.iload_n 3, 1) := by decide +kernel
theorem dX4_takes_112 : decode cX4_takes 112 = .ok (.iconst 1, 1) := by decide +kernel
theorem dX4_takes_113 : decode cX4_takes 113 = .ok (.iadd, 1) := by decide +kernel
theorem dX4_takes_114 : decode cX4_takes 114 = .ok (.iaload, 1) := by decide +kernel
theorem dX4_takes_115 : decode cX4_takes 115 = .ok (.iastore, 1) := by decide +kernel
theorem dX4_takes_116 : decode cX4_takes 116 = .ok (.aload_n 0, 1) := by decide +kernel
theorem dX4_takes_117 : decode cX4_takes 117 = .ok (.getfield 65, 3) := by decide +kernel
theorem dX4_takes_120 : decode cX4_takes 120 = .ok (.iload_n 3, 1) := by decide +kernel
theorem dX4_takes_121 : decode cX4_takes 121 = .ok (.aload_n 0, 1) := by decide +kernel
theorem dX4_takes_122 : decode cX4_takes 122 = .ok (.getfield 65, 3) := by decide +kernel
theorem dX4_takes_125 : decode cX4_takes 125 = .ok (.iload_n 3, 1) := by decide +kernel
theorem dX4_takes_126 : decode cX4_takes 126 = .ok (.iconst 1, 1) := by decide +kernel
theorem dX4_takes_127 : decode cX4_takes 127 = .ok (.iadd, 1) := by decide +kernel
theorem dX4_takes_128 : decode cX4_takes 128 = .ok (.iaload, 1) := by decide +kernel
theorem dX4_takes_129 : decode cX4_takes 129 = .ok (.iastore, 1) := by decide +kernel
theorem dX4_takes_130 : decode cX4_takes 130 = .ok (.iconst 0, 1) := by decide +kernel
theorem dX4_takes_131 : decode cX4_takes 131 = .ok (.istore 4, 2) := by decide +kernel
theorem dX4_takes_133 : decode cX4_takes 133 = .ok (.iload 4, 2) := by decide +kernel
theorem dX4_takes_135 : decode cX4_takes 135 = .ok (.iconst 4, 1) := by decide +kernel
theorem dX4_takes_136 : decode cX4_takes 136 = .ok (.if_icmp .ge 33, 3) := by decide +kernel
theorem dX4_takes_139 : decode cX4_takes 139 = .ok (.aload_n 0, 1) := by decide +kernel
theorem dX4_takes_140 : decode cX4_takes 140 = .ok (.getfield 68, 3) := by decide +kernel
theorem dX4_takes_143 : decode cX4_takes 143 = .ok (.iconst 4, 1) := by decide +kernel
theorem dX4_takes_144 : decode cX4_takes 144 = .ok (.iload_n 3, 1) := by decide +kernel
theorem dX4_takes_145 : decode cX4_takes 145 = .ok (.imul, 1) := by decide +kernel
theorem dX4_takes_146 : decode cX4_takes 146 = .ok (.iload 4, 2) := by decide +kernel
theorem dX4_takes_148 : decode cX4_takes 148 = .ok (.iadd, 1) := by decide +kernel
theorem dX4_takes_149 : decode cX4_takes 149 = .ok (.aload_n 0, 1) := by decide +kernel
theorem dX4_takes_150 : decode cX4_takes 150 = .ok (.getfield 68, 3) := by decide +kernel
theorem dX4_takes_153 : decode cX4_takes 153 = .ok (.iconst 4, 1) := by decide +kernel
theorem dX4_takes_154 : decode cX4_takes 154 = .ok (.iload_n 3, 1) := by decide +kernel
theorem dX4_takes_155 : decode cX4_takes 155 = .ok (.imul, 1) := by decide +kernel
theorem dX4_takes_156 : decode cX4_takes 156 = .ok (.iconst 4, 1) := by decide +kernel
theorem dX4_takes_157 : decode cX4_takes 157 = .ok (.iadd, 1) := by decide +kernel
theorem dX4_takes_158 : decode cX4_takes 158 = .ok (.iload 4, 2) := by decide +kernel
theorem dX4_takes_160 : decode cX4_takes 160 = .ok (.iadd, 1) := by decide +kernel
theorem dX4_takes_161 : decode cX4_takes 161 = .ok (.iaload, 1) := by decide +kernel
theorem dX4_takes_162 : decode cX4_takes 162 = .ok (.iastore, 1) := by decide +kernel
theorem dX4_takes_163 : decode cX4_takes 163 = .ok (.iinc 4 1, 3) := by decide +kernel
theorem dX4_takes_166 : decode cX4_takes 166 = .ok (.goto (-33), 3) := by decide +kernel
theorem dX4_takes_169 : decode cX4_takes 169 = .ok (.iinc 3 1, 3) := by decide +kernel
theorem dX4_takes_172 : decode cX4_takes 172 = .ok (.goto (-96), 3) := by decide +kernel
theorem dX4_takes_175 : decode cX4_takes 175 = .ok (.return_, 1) := by decide +kernel
set_option maxRecDepth 20000 in
theorem ggX4_requests_X4_send : GoodIn wsX4_requests wsX4_send := goodIn_r _ [12, 13, 14, 15, 16, 17, 18, 19, 4, 20, 21, 22, 23, 24, 25, 26, 27, 28, 29, 30, 31, 32, 33, 34, 35, 36, 37, 38, 39, 40, 41, 42, 43, 44, 45, 46, 47, 48] (by decide +kernel) (by decide +kernel)
set_option maxRecDepth 20000 in
theorem gX4_requests_X4_send : GoodIn wsX4_requests (wsV RX4 118 RX4 yX4_send wsX4_send) := goodIn_app (goodIn_of _ (by decide +kernel)) ggX4_requests_X4_send
theorem dX4_requests_0 : decode cX4_requests 0 = .ok (.aload_n 0, 1) := by decide +kernel
theorem dX4_requests_1 : decode cX4_requests 1 = .ok (.getfield 44, 3) := by decide +kernel
theorem dX4_requests_4 : decode cX4_requests 4 = .ok (.iload_n 1, 1) := by decide +kernel
theorem dX4_requests_5 : decode cX4_requests 5 = .ok (.iaload, 1) := by decide +kernel
theorem dX4_requests_6 : decode cX4_requests 6 = .ok (.ifCond .ne 12, 3) := by decide +kernel
theorem dX4_requests_9 : decode cX4_requests 9 = .ok (.aload_n 0, 1) := by decide +kernel
theorem dX4_requests_10 : decode cX4_requests 10 = .ok (.getfield 35, 3) := by decide +kernel
theorem dX4_requests_13 : decode cX4_requests 13 = .ok (.iload_n 1, 1) := by decide +kernel
theorem dX4_requests_14 : decode cX4_requests 14 = .ok (.bipush 6, 2) := by decide +kernel
theorem dX4_requests_16 : decode cX4_requests 16 = .ok (.iastore, 1) := by decide +kernel
theorem dX4_requests_17 : decode cX4_requests 17 = .ok (.return_, 1) := by decide +kernel
theorem dX4_requests_18 : decode cX4_requests 18 = .ok (.aload_n 0, 1) := by decide +kernel
theorem dX4_requests_19 : decode cX4_requests 19 = .ok (.getfield 44, 3) := by decide +kernel
theorem dX4_requests_22 : decode cX4_requests 22 = .ok (.iload_n 1, 1) := by decide +kernel
theorem dX4_requests_23 : decode cX4_requests 23 = .ok (.dup2, 1) := by decide +kernel
theorem dX4_requests_24 : decode cX4_requests 24 = .ok (.iaload, 1) := by decide +kernel
theorem dX4_requests_25 : decode cX4_requests 25 = .ok (.iconst 1, 1) := by decide +kernel
theorem dX4_requests_26 : decode cX4_requests 26 = .ok (.isub, 1) := by decide +kernel
theorem dX4_requests_27 : decode cX4_requests 27 = .ok (.iastore, 1) := by decide +kernel
theorem dX4_requests_28 : decode cX4_requests 28 = .ok (.aload_n 0, 1) := by decide +kernel
theorem dX4_requests_29 : decode cX4_requests 29 = .ok (.getfield 41, 3) := by decide +kernel
theorem dX4_requests_32 : decode cX4_requests 32 = .ok (.iload_n 1, 1) := by decide +kernel
theorem dX4_requests_33 : decode cX4_requests 33 = .ok (.dup2, 1) := by decide +kernel
theorem dX4_requests_34 : decode cX4_requests 34 = .ok (.iaload, 1) := by decide +kernel
theorem dX4_requests_35 : decode cX4_requests 35 = .ok (.iconst 1, 1) := by decide +kernel
theorem dX4_requests_36 : decode cX4_requests 36 = .ok (.iadd, 1) := by decide +kernel
theorem dX4_requests_37 : decode cX4_requests 37 = .ok (.iastore, 1) := by decide +kernel
theorem dX4_requests_38 : decode cX4_requests 38 = .ok (.iconst 0, 1) := by decide +kernel
theorem dX4_requests_39 : decode cX4_requests 39 = .ok (.istore_n 2, 1) := by decide +kernel
theorem dX4_requests_40 : decode cX4_requests 40 = .ok (.iload_n 2, 1) := by decide +kernel
theorem dX4_requests_41 : decode cX4_requests 41 = .ok (.iconst 4, 1) := by decide +kernel
theorem dX4_requests_42 : decode cX4_requests 42 = .ok (.if_icmp .ge 25, 3) := by decide +kernel
theorem dX4_requests_45 : decode cX4_requests 45 = .ok (.aload_n 0, 1) := by decide +kernel
theorem dX4_requests_46 : decode cX4_requests 46 = .ok (.getfield 74, 3) := by decide +kernel
theorem dX4_requests_49 : decode cX4_requests 49 = .ok (.iload_n 2, 1) := by decide +kernel
theorem dX4_requests_50 : decode cX4_requests 50 = .ok (.aload_n 0, 1) := by decide +kernel
theorem dX4_requests_51 : decode cX4_requests 51 = .ok (.getfield 29, 3) := by decide +kernel
theorem dX4_requests_54 : decode cX4_requests 54 = .ok (.iconst 4, 1) := by decide +kernel
theorem dX4_requests_55 : decode cX4_requests 55 = .ok (.iload_n 1, 1) := by decide +kernel
theorem dX4_requests_56 : decode cX4_requests 56 = .ok (.imul, 1) := by decide +kernel
theorem dX4_requests_57 : decode cX4_requests 57 = .ok (.iload_n 2, 1) := by decide +kernel
theorem dX4_requests_58 : decode cX4_requests 58 = .ok (.iadd, 1) := by decide +kernel
theorem dX4_requests_59 : decode cX4_requests 59 = .ok (.iaload, 1) := by decide +kernel
theorem dX4_requests_60 : decode cX4_requests 60 = .ok (.iastore, 1) := by decide +kernel
theorem dX4_requests_61 : decode cX4_requests 61 = .ok (.iinc 2 1, 3) := by decide +kernel
theorem dX4_requests_64 : decode cX4_requests 64 = .ok (.goto (-24), 3) := by decide +kernel
theorem dX4_requests_67 : decode cX4_requests 67 = .ok (.aload_n 0, 1) := by decide +kernel
theorem dX4_requests_68 : decode cX4_requests 68 = .ok (.iload_n 1, 1) := by decide +kernel
theorem dX4_requests_69 : decode cX4_requests 69 = .ok (.iconst 0, 1) := by decide +kernel
theorem dX4_requests_70 : decode cX4_requests 70 = .ok (.aload_n 0, 1) := by decide +kernel
theorem dX4_requests_71 : decode cX4_requests 71 = .ok (.getfield 41, 3) := by decide +kernel
theorem dX4_requests_74 : decode cX4_requests 74 = .ok (.iload_n 1, 1) := by decide +kernel
theorem dX4_requests_75 : decode cX4_requests 75 = .ok (.iaload, 1) := by decide +kernel
theorem dX4_requests_76 : decode cX4_requests 76 = .ok (.aload_n 0, 1) := by decide +kernel
theorem dX4_requests_77 : decode cX4_requests 77 = .ok (.getfield 38, 3) := by decide +kernel
theorem dX4_requests_80 : decode cX4_requests 80 = .ok (.iload_n 1, 1) := by decide +kernel
theorem dX4_requests_81 : decode cX4_requests 81 = .ok (.iaload, 1) := by decide +kernel
theorem dX4_requests_82 : decode cX4_requests 82 = .ok (.invokevirtual 118, 3) := by decide +kernel
theorem dX4_requests_85 : decode cX4_requests 85 = .ok (.aload_n 0, 1) := by decide +kernel
theorem dX4_requests_86 : decode cX4_requests 86 = .ok (.getfield 47, 3) := by decide +kernel
theorem dX4_requests_89 : decode cX4_requests 89 = .ok (.iload_n 1, 1) := by decide +kernel
theorem dX4_requests_90 : decode cX4_requests 90 = .ok (.iconst 3, 1) := by decide +kernel
theorem dX4_requests_91 : decode cX4_requests 91 = .ok (.iastore, 1) := by decide +kernel
theorem dX4_requests_92 : decode cX4_requests 92 = .ok (.return_, 1) := by decide +kernel
theorem dX4_becomesOpened_0 : decode cX4_becomesOpened 0 = .ok (.aload_n 0, 1) := by decide +kernel
theorem dX4_becomesOpened_1 : decode cX4_becomesOpened 1 = .ok (.getfield 35, 3) := by decide +kernel
theorem dX4_becomesOpened_4 : decode cX4_becomesOpened 4 = .ok (.iload_n 1, 1) := by decide +kernel
theorem dX4_becomesOpened_5 : decode cX4_becomesOpened 5 = .ok (.iconst 4, 1) := by decide +kernel
theorem dX4_becomesOpened_6 : decode cX4_becomesOpened 6 = .ok (.iastore, 1) := by decide +kernel
theorem dX4_becomesOpened_7 : decode cX4_becomesOpened 7 = .ok (.aload_n 0, 1) := by decide +kernel
theorem dX4_becomesOpened_8 : decode cX4_becomesOpened 8 = .ok (.getfield 44, 3) := by decide +kernel
theorem dX4_becomesOpened_11 : decode cX4_becomesOpened 11 = .ok (.iload_n 1, 1) := by decide +kernel
theorem dX4_becomesOpened_12 : decode cX4_becomesOpened 12 = .ok (.bipush 10, 2) := by decide +kernel
theorem dX4_becomesOpened_14 : decode cX4_becomesOpened 14 = .ok (.iastore, 1) := by decide +kernel
theorem dX4_becomesOpened_15 : decode cX4_becomesOpened 15 = .ok (.return_, 1) := by decide +kernel
set_option maxRecDepth 20000 in
theorem ggX4_says_X4_send : GoodIn wsX4_says wsX4_send := goodIn_r _ [6, 7, 8, 9, 10, 11, 12, 13, 1, 14, 15, 16, 17, 18, 19, 20, 21, 22, 23, 24, 25, 26, 27, 28, 29, 30, 31, 32, 33, 34, 35, 36, 37, 38, 39, 40, 41, 42] (by decide +kernel) (by decide +kernel)
set_option maxRecDepth 20000 in
theorem gX4_says_X4_send : GoodIn wsX4_says (wsV RX4 118 RX4 yX4_send wsX4_send) := goodIn_app (goodIn_of _ (by decide +kernel)) ggX4_says_X4_send
theorem dX4_says_0 : decode cX4_says 0 = .ok (.iconst 0, 1) := by decide +kernel
theorem dX4_says_1 : decode cX4_says 1 = .ok (.istore_n 3, 1) := by decide +kernel
theorem dX4_says_2 : decode cX4_says 2 = .ok (.iload_n 3, 1) := by decide +kernel
theorem dX4_says_3 : decode cX4_says 3 = .ok (.iconst 4, 1) := by decide +kernel
theorem dX4_says_4 : decode cX4_says 4 = .ok (.if_icmp .ge 16, 3) := by decide +kernel
theorem dX4_says_7 : decode cX4_says 7 = .ok (.aload_n 0, 1) := by decide +kernel
theorem dX4_says_8 : decode cX4_says 8 = .ok (.getfield 74, 3) := by decide +kernel
theorem dX4_says_11 : decode cX4_says 11 = .ok (.iload_n 3, 1) := by decide +kernel
theorem dX4_says_12 : decode cX4_says 12 = .ok (.iconst (-1), 1) := by decide +kernel
theorem dX4_says_13 : decode cX4_says 13 = .ok (.iastore, 1) := by decide +kernel
theorem dX4_says_14 : decode cX4_says 14 = .ok (.iinc 3 1, 3) := by decide +kernel
theorem dX4_says_17 : decode cX4_says 17 = .ok (.goto (-15), 3) := by decide +kernel
theorem dX4_says_20 : decode cX4_says 20 = .ok (.aload_n 0, 1) := by decide +kernel
theorem dX4_says_21 : decode cX4_says 21 = .ok (.iload_n 1, 1) := by decide +kernel
theorem dX4_says_22 : decode cX4_says 22 = .ok (.iload_n 2, 1) := by decide +kernel
theorem dX4_says_23 : decode cX4_says 23 = .ok (.iconst 0, 1) := by decide +kernel
theorem dX4_says_24 : decode cX4_says 24 = .ok (.iconst 0, 1) := by decide +kernel
theorem dX4_says_25 : decode cX4_says 25 = .ok (.invokevirtual 118, 3) := by decide +kernel
theorem dX4_says_28 : decode cX4_says 28 = .ok (.return_, 1) := by decide +kernel
set_option maxRecDepth 20000 in
theorem ggX4_open_X4_isEnd : GoodIn wsX4_open wsX4_isEnd := goodIn_r _ [10, 11, 12, 9, 13] (by decide +kernel) (by decide +kernel)
set_option maxRecDepth 20000 in
theorem gX4_open_X4_isEnd : GoodIn wsX4_open (va_wsS RX4 85 yX4_isEnd wsX4_isEnd) := goodIn_app (goodIn_of _ (by decide +kernel)) ggX4_open_X4_isEnd
set_option maxRecDepth 20000 in
theorem ggX4_open_X4_isIn : GoodIn wsX4_open wsX4_isIn := goodIn_r _ [13] (by decide +kernel) (by decide +kernel)
set_option maxRecDepth 20000 in
theorem gX4_open_X4_isIn : GoodIn wsX4_open (va_wsS RX4 81 yX4_isIn wsX4_isIn) := goodIn_app (goodIn_of _ (by decide +kernel)) ggX4_open_X4_isIn
set_option maxRecDepth 20000 in
theorem ggX4_open_X4_isShut : GoodIn wsX4_open wsX4_isShut := goodIn_r _ [17, 1, 41, 42, 43, 44, 45, 46, 47, 48, 49, 50, 51, 52, 53, 54, 55, 56, 57, 58, 59, 60, 61, 62, 63, 64, 65, 66, 67, 68, 69] (by decide +kernel) (by decide +kernel)
set_option maxRecDepth 20000 in
theorem gX4_open_X4_isShut : GoodIn wsX4_open (wsV RX4 96 RX4 yX4_isShut wsX4_isShut) := goodIn_app (goodIn_of _ (by decide +kernel)) ggX4_open_X4_isShut
set_option maxRecDepth 20000 in
theorem ggX4_open_X4_can : GoodIn wsX4_open wsX4_can := goodIn_r _ [21, 22, 41, 42, 43, 44, 45, 46, 47, 48, 49, 50, 51, 52, 53, 54, 55, 56, 57, 58, 59, 60, 61, 62, 63, 64, 65, 66, 67, 68, 69] (by decide +kernel) (by decide +kernel)
set_option maxRecDepth 20000 in
theorem gX4_open_X4_can : GoodIn wsX4_open (wsV RX4 99 RX4 yX4_can wsX4_can) := goodIn_app (goodIn_of _ (by decide +kernel)) ggX4_open_X4_can
set_option maxRecDepth 20000 in
theorem ggX4_open_X4_requests : GoodIn wsX4_open wsX4_requests := goodIn_r _ [26, 2, 1, 27, 28, 5, 3, 29, 30, 31, 32, 9, 33, 34, 35, 36, 37, 38, 39, 40, 41, 42, 43, 44, 45, 46, 47, 48, 49, 50, 51, 52, 53, 54, 55, 56, 57, 58, 59, 60, 61, 62, 63, 64, 65, 66, 67, 68, 69] (by decide +kernel) (by decide +kernel)
set_option maxRecDepth 20000 in
theorem gX4_open_X4_requests : GoodIn wsX4_open (wsV RX4 122 RX4 yX4_requests wsX4_requests) := goodIn_app (goodIn_of _ (by decide +kernel)) ggX4_open_X4_requests
theorem dX4_open_0 : decode cX4_open 0 = .ok (.aload_n 0, 1) := by decide +kernel
theorem dX4_open_1 : decode cX4_open 1 = .ok (.iload_n 1, 1) := by decide +kernel
theorem dX4_open_2 : decode cX4_open 2 = .ok (.invokestatic 85, 3) := by decide +kernel
theorem dX4_open_5 : decode cX4_open 5 = .ok (.ifCond .eq 14, 3) := by decide +kernel
theorem dX4_open_8 : decode cX4_open 8 = .ok (.iload_n 2, 1) := by decide +kernel
theorem dX4_open_9 : decode cX4_open 9 = .ok (.iconst 1, 1) := by decide +kernel
theorem dX4_open_10 : decode cX4_open 10 = .ok (.sipush 999, 3) := by decide +kernel
theorem dX4_open_13 : decode cX4_open 13 = .ok (.invokestatic 81, 3) := by decide +kernel
theorem dX4_open_16 : decode cX4_open 16 = .ok (.ifCond .ne 7, 3) := by decide +kernel
theorem dX4_open_19 : decode cX4_open 19 = .ok (.iconst 1, 1) := by decide +kernel
theorem dX4_open_20 : decode cX4_open 20 = .ok (.goto 16, 3) := by decide +kernel
theorem dX4_open_23 : decode cX4_open 23 = .ok (.aload_n 0, 1) := by decide +kernel
theorem dX4_open_24 : decode cX4_open 24 = .ok (.iload_n 1, 1) := by decide +kernel
theorem dX4_open_25 : decode cX4_open 25 = .ok (.invokevirtual 96, 3) := by decide +kernel
theorem dX4_open_28 : decode cX4_open 28 = .ok (.ifCond .eq 7, 3) := by decide +kernel
theorem dX4_open_31 : decode cX4_open 31 = .ok (.iconst 0, 1) := by decide +kernel
theorem dX4_open_32 : decode cX4_open 32 = .ok (.goto 4, 3) := by decide +kernel
theorem dX4_open_35 : decode cX4_open 35 = .ok (.iconst 2, 1) := by decide +kernel
theorem dX4_open_36 : decode cX4_open 36 = .ok (.invokevirtual 99, 3) := by decide +kernel
theorem dX4_open_39 : decode cX4_open 39 = .ok (.ifCond .eq 68, 3) := by decide +kernel
theorem dX4_open_42 : decode cX4_open 42 = .ok (.aload_n 0, 1) := by decide +kernel
theorem dX4_open_43 : decode cX4_open 43 = .ok (.getfield 35, 3) := by decide +kernel
theorem dX4_open_46 : decode cX4_open 46 = .ok (.iload_n 1, 1) := by decide +kernel
theorem dX4_open_47 : decode cX4_open 47 = .ok (.iconst 1, 1) := by decide +kernel
theorem dX4_open_48 : decode cX4_open 48 = .ok (.iastore, 1) := by decide +kernel
theorem dX4_open_49 : decode cX4_open 49 = .ok (.aload_n 0, 1) := by decide +kernel
theorem dX4_open_50 : decode cX4_open 50 = .ok (.getfield 44, 3) := by decide +kernel
theorem dX4_open_53 : decode cX4_open 53 = .ok (.iload_n 1, 1) := by decide +kernel
theorem dX4_open_54 : decode cX4_open 54 = .ok (.bipush 10, 2) := by decide +kernel
theorem dX4_open_56 : decode cX4_open 56 = .ok (.iastore, 1) := by decide +kernel
theorem dX4_open_57 : decode cX4_open 57 = .ok (.aload_n 0, 1) := by decide +kernel
theorem dX4_open_58 : decode cX4_open 58 = .ok (.getfield 38, 3) := by decide +kernel
theorem dX4_open_61 : decode cX4_open 61 = .ok (.iload_n 1, 1) := by decide +kernel
theorem dX4_open_62 : decode cX4_open 62 = .ok (.iload_n 2, 1) := by decide +kernel
theorem dX4_open_63 : decode cX4_open 63 = .ok (.iastore, 1) := by decide +kernel
theorem dX4_open_64 : decode cX4_open 64 = .ok (.aload_n 0, 1) := by decide +kernel
theorem dX4_open_65 : decode cX4_open 65 = .ok (.getfield 50, 3) := by decide +kernel
theorem dX4_open_68 : decode cX4_open 68 = .ok (.iload_n 1, 1) := by decide +kernel
theorem dX4_open_69 : decode cX4_open 69 = .ok (.iconst 0, 1) := by decide +kernel
theorem dX4_open_70 : decode cX4_open 70 = .ok (.iastore, 1) := by decide +kernel
theorem dX4_open_71 : decode cX4_open 71 = .ok (.iconst 4, 1) := by decide +kernel
theorem dX4_open_72 : decode cX4_open 72 = .ok (.iload_n 1, 1) := by decide +kernel
theorem dX4_open_73 : decode cX4_open 73 = .ok (.imul, 1) := by decide +kernel
theorem dX4_open_74 : decode cX4_open 74 = .ok (.istore_n 3, 1) := by decide +kernel
theorem dX4_open_75 : decode cX4_open 75 = .ok (.iload_n 3, 1) := by decide +kernel
theorem dX4_open_76 : decode cX4_open 76 = .ok (.iconst 4, 1) := by decide +kernel
theorem dX4_open_77 : decode cX4_open 77 = .ok (.iload_n 1, 1) := by decide +kernel
theorem dX4_open_78 : decode cX4_open 78 = .ok (.imul, 1) := by decide +kernel
theorem dX4_open_79 : decode cX4_open 79 = .ok (.iconst 4, 1) := by decide +kernel
theorem dX4_open_80 : decode cX4_open 80 = .ok (.iadd, 1) := by decide +kernel
theorem dX4_open_81 : decode cX4_open 81 = .ok (.if_icmp .ge 21, 3) := by decide +kernel
theorem dX4_open_84 : decode cX4_open 84 = .ok (.aload_n 0, 1) := by decide +kernel
theorem dX4_open_85 : decode cX4_open 85 = .ok (.getfield 29, 3) := by decide +kernel
theorem dX4_open_88 : decode cX4_open 88 = .ok (.iload_n 3, 1) := by decide +kernel
theorem dX4_open_89 : decode cX4_open 89 = .ok (.aload_n 0, 1) := by decide +kernel
theorem dX4_open_90 : decode cX4_open 90 = .ok (.getfield 7, 3) := by decide +kernel
theorem dX4_open_93 : decode cX4_open 93 = .ok (.iload_n 3, 1) := by decide +kernel
theorem dX4_open_94 : decode cX4_open 94 = .ok (.iaload, 1) := by decide +kernel
theorem dX4_open_95 : decode cX4_open 95 = .ok (.iastore, 1) := by decide +kernel
theorem dX4_open_96 : decode cX4_open 96 = .ok (.iinc 3 1, 3) := by decide +kernel
theorem dX4_open_99 : decode cX4_open 99 = .ok (.goto (-24), 3) := by decide +kernel
theorem dX4_open_102 : decode cX4_open 102 = .ok (.aload_n 0, 1) := by decide +kernel
theorem dX4_open_103 : decode cX4_open 103 = .ok (.iload_n 1, 1) := by decide +kernel
theorem dX4_open_104 : decode cX4_open 104 = .ok (.invokevirtual 122, 3) := by decide +kernel
theorem dX4_open_107 : decode cX4_open 107 = .ok (.return_, 1) := by decide +kernel
set_option maxRecDepth 20000 in
theorem ggX4_close_X4_isEnd : GoodIn wsX4_close wsX4_isEnd := goodIn_r _ [7, 8, 9, 6, 10] (by decide +kernel) (by decide +kernel)
set_option maxRecDepth 20000 in
theorem gX4_close_X4_isEnd : GoodIn wsX4_close (va_wsS RX4 85 yX4_isEnd wsX4_isEnd) := goodIn_app (goodIn_of _ (by decide +kernel)) ggX4_close_X4_isEnd
set_option maxRecDepth 20000 in
theorem ggX4_close_X4_isShut : GoodIn wsX4_close wsX4_isShut := goodIn_r _ [14, 1, 36, 37, 38, 39, 40, 41, 42, 43, 44, 45, 46, 47, 48, 49, 50, 51, 52, 53, 54, 55, 56, 57, 58, 59, 60, 61, 62, 63, 64] (by decide +kernel) (by decide +kernel)
set_option maxRecDepth 20000 in
theorem gX4_close_X4_isShut : GoodIn wsX4_close (wsV RX4 96 RX4 yX4_isShut wsX4_isShut) := goodIn_app (goodIn_of _ (by decide +kernel)) ggX4_close_X4_isShut
set_option maxRecDepth 20000 in
theorem ggX4_close_X4_can : GoodIn wsX4_close wsX4_can := goodIn_r _ [18, 19, 36, 37, 38, 39, 40, 41, 42, 43, 44, 45, 46, 47, 48, 49, 50, 51, 52, 53, 54, 55, 56, 57, 58, 59, 60, 61, 62, 63, 64] (by decide +kernel) (by decide +kernel)
set_option maxRecDepth 20000 in
theorem gX4_close_X4_can : GoodIn wsX4_close (wsV RX4 99 RX4 yX4_can wsX4_can) := goodIn_app (goodIn_of _ (by decide +kernel)) ggX4_close_X4_can
set_option maxRecDepth 20000 in
theorem ggX4_close_X4_says : GoodIn wsX4_close wsX4_says := goodIn_r _ [23, 24, 25, 26, 27, 6, 28, 29, 30, 31, 32, 33, 34, 35, 36, 37, 38, 39, 40, 41, 42, 43, 44, 45, 46, 47, 48, 49, 50, 51, 52, 53, 54, 55, 56, 57, 58, 59, 60, 61, 62, 63, 64] (by decide +kernel) (by decide +kernel)
set_option maxRecDepth 20000 in
theorem gX4_close_X4_says : GoodIn wsX4_close (wsV RX4 126 RX4 yX4_says wsX4_says) := goodIn_app (goodIn_of _ (by decide +kernel)) ggX4_close_X4_says
theorem dX4_close_0 : decode cX4_close 0 = .ok (.aload_n 0, 1) := by decide +kernel
theorem dX4_close_1 : decode cX4_close 1 = .ok (.iload_n 1, 1) := by decide +kernel
theorem dX4_close_2 : decode cX4_close 2 = .ok (.invokestatic 85, 3) := by decide +kernel
theorem dX4_close_5 : decode cX4_close 5 = .ok (.ifCond .ne 7, 3) := by decide +kernel
theorem dX4_close_8 : decode cX4_close 8 = .ok (.iconst 1, 1) := by decide +kernel
theorem dX4_close_9 : decode cX4_close 9 = .ok (.goto 26, 3) := by decide +kernel
theorem dX4_close_12 : decode cX4_close 12 = .ok (.aload_n 0, 1) := by decide +kernel
theorem dX4_close_13 : decode cX4_close 13 = .ok (.iload_n 1, 1) := by decide +kernel
theorem dX4_close_14 : decode cX4_close 14 = .ok (.invokevirtual 96, 3) := by decide +kernel
theorem dX4_close_17 : decode cX4_close 17 = .ok (.ifCond .ne 13, 3) := by decide +kernel
theorem dX4_close_20 : decode cX4_close 20 = .ok (.aload_n 0, 1) := by decide +kernel
theorem dX4_close_21 : decode cX4_close 21 = .ok (.getfield 35, 3) := by decide +kernel
theorem dX4_close_24 : decode cX4_close 24 = .ok (.iload_n 1, 1) := by decide +kernel
theorem dX4_close_25 : decode cX4_close 25 = .ok (.iaload, 1) := by decide +kernel
theorem dX4_close_26 : decode cX4_close 26 = .ok (.iconst 5, 1) := by decide +kernel
theorem dX4_close_27 : decode cX4_close 27 = .ok (.if_icmp .ne 7, 3) := by decide +kernel
theorem dX4_close_30 : decode cX4_close 30 = .ok (.iconst 2, 1) := by decide +kernel
theorem dX4_close_31 : decode cX4_close 31 = .ok (.goto 4, 3) := by decide +kernel
theorem dX4_close_34 : decode cX4_close 34 = .ok (.iconst 0, 1) := by decide +kernel
theorem dX4_close_35 : decode cX4_close 35 = .ok (.invokevirtual 99, 3) := by decide +kernel
theorem dX4_close_38 : decode cX4_close 38 = .ok (.ifCond .eq 30, 3) := by decide +kernel
theorem dX4_close_41 : decode cX4_close 41 = .ok (.aload_n 0, 1) := by decide +kernel
theorem dX4_close_42 : decode cX4_close 42 = .ok (.getfield 35, 3) := by decide +kernel
theorem dX4_close_45 : decode cX4_close 45 = .ok (.iload_n 1, 1) := by decide +kernel
theorem dX4_close_46 : decode cX4_close 46 = .ok (.iconst 5, 1) := by decide +kernel
theorem dX4_close_47 : decode cX4_close 47 = .ok (.iastore, 1) := by decide +kernel
theorem dX4_close_48 : decode cX4_close 48 = .ok (.aload_n 0, 1) := by decide +kernel
theorem dX4_close_49 : decode cX4_close 49 = .ok (.getfield 53, 3) := by decide +kernel
theorem dX4_close_52 : decode cX4_close 52 = .ok (.iload_n 1, 1) := by decide +kernel
theorem dX4_close_53 : decode cX4_close 53 = .ok (.iconst 1, 1) := by decide +kernel
theorem dX4_close_54 : decode cX4_close 54 = .ok (.iastore, 1) := by decide +kernel
theorem dX4_close_55 : decode cX4_close 55 = .ok (.aload_n 0, 1) := by decide +kernel
theorem dX4_close_56 : decode cX4_close 56 = .ok (.iload_n 1, 1) := by decide +kernel
theorem dX4_close_57 : decode cX4_close 57 = .ok (.iconst 4, 1) := by decide +kernel
theorem dX4_close_58 : decode cX4_close 58 = .ok (.invokevirtual 126, 3) := by decide +kernel
theorem dX4_close_61 : decode cX4_close 61 = .ok (.aload_n 0, 1) := by decide +kernel
theorem dX4_close_62 : decode cX4_close 62 = .ok (.getfield 47, 3) := by decide +kernel
theorem dX4_close_65 : decode cX4_close 65 = .ok (.iload_n 1, 1) := by decide +kernel
theorem dX4_close_66 : decode cX4_close 66 = .ok (.iconst 2, 1) := by decide +kernel
theorem dX4_close_67 : decode cX4_close 67 = .ok (.iastore, 1) := by decide +kernel
theorem dX4_close_68 : decode cX4_close 68 = .ok (.return_, 1) := by decide +kernel
set_option maxRecDepth 20000 in
theorem ggX4_isWithin_X4_isIn : GoodIn wsX4_isWithin wsX4_isIn := goodIn_r _ [4] (by decide +kernel) (by decide +kernel)
set_option maxRecDepth 20000 in
theorem gX4_isWithin_X4_isIn : GoodIn wsX4_isWithin (va_wsS RX4 81 yX4_isIn wsX4_isIn) := goodIn_app (goodIn_of _ (by decide +kernel)) ggX4_isWithin_X4_isIn
theorem dX4_isWithin_0 : decode cX4_isWithin 0 = .ok (.iload_n 1, 1) := by decide +kernel
theorem dX4_isWithin_1 : decode cX4_isWithin 1 = .ok (.iload_n 2, 1) := by decide +kernel
theorem dX4_isWithin_2 : decode cX4_isWithin 2 = .ok (.iload_n 3, 1) := by decide +kernel
theorem dX4_isWithin_3 : decode cX4_isWithin 3 = .ok (.invokestatic 81, 3) := by decide +kernel
theorem dX4_isWithin_6 : decode cX4_isWithin 6 = .ok (.ireturn, 1) := by decide +kernel
set_option maxRecDepth 20000 in
theorem ggX4_judges_X4_isWithin : GoodIn wsX4_judges wsX4_isWithin := goodIn_r _ [12, 13, 14, 11, 15] (by decide +kernel) (by decide +kernel)
set_option maxRecDepth 20000 in
theorem gX4_judges_X4_isWithin : GoodIn wsX4_judges (wsV RX4 130 RX4 yX4_isWithin wsX4_isWithin) := goodIn_app (goodIn_of _ (by decide +kernel)) ggX4_judges_X4_isWithin
set_option maxRecDepth 20000 in
theorem ggX4_judges_X4_send : GoodIn wsX4_judges wsX4_send := goodIn_r _ [19, 20, 21, 22, 23, 24, 25, 26, 5, 27, 28, 29, 30, 31, 32, 33, 34, 35, 36, 37, 38, 39, 40, 41, 42, 43, 44, 45, 46, 47, 48, 49, 50, 51, 52, 53, 54, 55] (by decide +kernel) (by decide +kernel)
set_option maxRecDepth 20000 in
theorem gX4_judges_X4_send : GoodIn wsX4_judges (wsV RX4 118 RX4 yX4_send wsX4_send) := goodIn_app (goodIn_of _ (by decide +kernel)) ggX4_judges_X4_send
theorem dX4_judges_0 : decode cX4_judges 0 = .ok (.iconst 0, 1) := by decide +kernel
theorem dX4_judges_1 : decode cX4_judges 1 = .ok (.istore_n 2, 1) := by decide +kernel
theorem dX4_judges_2 : decode cX4_judges 2 = .ok (.iconst 1, 1) := by decide +kernel
theorem dX4_judges_3 : decode cX4_judges 3 = .ok (.istore_n 3, 1) := by decide +kernel
theorem dX4_judges_4 : decode cX4_judges 4 = .ok (.iconst 0, 1) := by decide +kernel
theorem dX4_judges_5 : decode cX4_judges 5 = .ok (.istore 4, 2) := by decide +kernel
theorem dX4_judges_7 : decode cX4_judges 7 = .ok (.iload 4, 2) := by decide +kernel
theorem dX4_judges_9 : decode cX4_judges 9 = .ok (.iconst 4, 1) := by decide +kernel
theorem dX4_judges_10 : decode cX4_judges 10 = .ok (.if_icmp .ge 97, 3) := by decide +kernel
theorem dX4_judges_13 : decode cX4_judges 13 = .ok (.iconst 4, 1) := by decide +kernel
theorem dX4_judges_14 : decode cX4_judges 14 = .ok (.iload_n 1, 1) := by decide +kernel
theorem dX4_judges_15 : decode cX4_judges 15 = .ok (.imul, 1) := by decide +kernel
theorem dX4_judges_16 : decode cX4_judges 16 = .ok (.iload 4, 2) := by decide +kernel
theorem dX4_judges_18 : decode cX4_judges 18 = .ok (.iadd, 1) := by decide +kernel
theorem dX4_judges_19 : decode cX4_judges 19 = .ok (.istore 5, 2) := by decide +kernel
theorem dX4_judges_21 : decode cX4_judges 21 = .ok (.iload_n 2, 1) := by decide +kernel
theorem dX4_judges_22 : decode cX4_judges 22 = .ok (.ifCond .ne 24, 3) := by decide +kernel
theorem dX4_judges_25 : decode cX4_judges 25 = .ok (.aload_n 0, 1) := by decide +kernel
theorem dX4_judges_26 : decode cX4_judges 26 = .ok (.getfield 71, 3) := by decide +kernel
theorem dX4_judges_29 : decode cX4_judges 29 = .ok (.iload 4, 2) := by decide +kernel
theorem dX4_judges_31 : decode cX4_judges 31 = .ok (.iaload, 1) := by decide +kernel
theorem dX4_judges_32 : decode cX4_judges 32 = .ok (.iconst (-1), 1) := by decide +kernel
theorem dX4_judges_33 : decode cX4_judges 33 = .ok (.if_icmp .eq 17, 3) := by decide +kernel
theorem dX4_judges_36 : decode cX4_judges 36 = .ok (.aload_n 0, 1) := by decide +kernel
theorem dX4_judges_37 : decode cX4_judges 37 = .ok (.getfield 25, 3) := by decide +kernel
theorem dX4_judges_40 : decode cX4_judges 40 = .ok (.iload 5, 2) := by decide +kernel
theorem dX4_judges_42 : decode cX4_judges 42 = .ok (.baload, 1) := by decide +kernel
theorem dX4_judges_43 : decode cX4_judges 43 = .ok (.ifCond .eq 7, 3) := by decide +kernel
theorem dX4_judges_46 : decode cX4_judges 46 = .ok (.iconst 1, 1) := by decide +kernel
theorem dX4_judges_47 : decode cX4_judges 47 = .ok (.goto 4, 3) := by decide +kernel
theorem dX4_judges_50 : decode cX4_judges 50 = .ok (.iconst 0, 1) := by decide +kernel
theorem dX4_judges_51 : decode cX4_judges 51 = .ok (.istore_n 2, 1) := by decide +kernel
theorem dX4_judges_52 : decode cX4_judges 52 = .ok (.iload_n 3, 1) := by decide +kernel
theorem dX4_judges_53 : decode cX4_judges 53 = .ok (.ifCond .eq 46, 3) := by decide +kernel
theorem dX4_judges_56 : decode cX4_judges 56 = .ok (.aload_n 0, 1) := by decide +kernel
theorem dX4_judges_57 : decode cX4_judges 57 = .ok (.getfield 71, 3) := by decide +kernel
theorem dX4_judges_60 : decode cX4_judges 60 = .ok (.iload 4, 2) := by decide +kernel
theorem dX4_judges_62 : decode cX4_judges 62 = .ok (.iaload, 1) := by decide +kernel
theorem dX4_judges_63 : decode cX4_judges 63 = .ok (.iconst (-1), 1) := by decide +kernel
theorem dX4_judges_64 : decode cX4_judges 64 = .ok (.if_icmp .eq 31, 3) := by decide +kernel
theorem dX4_judges_67 : decode cX4_judges 67 = .ok (.aload_n 0, 1) := by decide +kernel
theorem dX4_judges_68 : decode cX4_judges 68 = .ok (.aload_n 0, 1) := by decide +kernel
theorem dX4_judges_69 : decode cX4_judges 69 = .ok (.getfield 71, 3) := by decide +kernel
theorem dX4_judges_72 : decode cX4_judges 72 = .ok (.iload 4, 2) := by decide +kernel
theorem dX4_judges_74 : decode cX4_judges 74 = .ok (.iaload, 1) := by decide +kernel
theorem dX4_judges_75 : decode cX4_judges 75 = .ok (.aload_n 0, 1) := by decide +kernel
theorem dX4_judges_76 : decode cX4_judges 76 = .ok (.getfield 19, 3) := by decide +kernel
theorem dX4_judges_79 : decode cX4_judges 79 = .ok (.iload 5, 2) := by decide +kernel
theorem dX4_judges_81 : decode cX4_judges 81 = .ok (.iaload, 1) := by decide +kernel
theorem dX4_judges_82 : decode cX4_judges 82 = .ok (.aload_n 0, 1) := by decide +kernel
theorem dX4_judges_83 : decode cX4_judges 83 = .ok (.getfield 22, 3) := by decide +kernel
theorem dX4_judges_86 : decode cX4_judges 86 = .ok (.iload 5, 2) := by decide +kernel
theorem dX4_judges_88 : decode cX4_judges 88 = .ok (.iaload, 1) := by decide +kernel
theorem dX4_judges_89 : decode cX4_judges 89 = .ok (.invokevirtual 130, 3) := by decide +kernel
theorem dX4_judges_92 : decode cX4_judges 92 = .ok (.ifCond .eq 7, 3) := by decide +kernel
theorem dX4_judges_95 : decode cX4_judges 95 = .ok (.iconst 1, 1) := by decide +kernel
theorem dX4_judges_96 : decode cX4_judges 96 = .ok (.goto 4, 3) := by decide +kernel
theorem dX4_judges_99 : decode cX4_judges 99 = .ok (.iconst 0, 1) := by decide +kernel
theorem dX4_judges_100 : decode cX4_judges 100 = .ok (.istore_n 3, 1) := by decide +kernel
theorem dX4_judges_101 : decode cX4_judges 101 = .ok (.iinc 4 1, 3) := by decide +kernel
theorem dX4_judges_104 : decode cX4_judges 104 = .ok (.goto (-97), 3) := by decide +kernel
theorem dX4_judges_107 : decode cX4_judges 107 = .ok (.iload_n 3, 1) := by decide +kernel
theorem dX4_judges_108 : decode cX4_judges 108 = .ok (.ifCond .eq 11, 3) := by decide +kernel
theorem dX4_judges_111 : decode cX4_judges 111 = .ok (.iload_n 2, 1) := by decide +kernel
theorem dX4_judges_112 : decode cX4_judges 112 = .ok (.ifCond .ne 7, 3) := by decide +kernel
theorem dX4_judges_115 : decode cX4_judges 115 = .ok (.iconst 1, 1) := by decide +kernel
theorem dX4_judges_116 : decode cX4_judges 116 = .ok (.goto 4, 3) := by decide +kernel
theorem dX4_judges_119 : decode cX4_judges 119 = .ok (.iconst 0, 1) := by decide +kernel
theorem dX4_judges_120 : decode cX4_judges 120 = .ok (.istore_n 3, 1) := by decide +kernel
theorem dX4_judges_121 : decode cX4_judges 121 = .ok (.iconst 0, 1) := by decide +kernel
theorem dX4_judges_122 : decode cX4_judges 122 = .ok (.istore 4, 2) := by decide +kernel
theorem dX4_judges_124 : decode cX4_judges 124 = .ok (.iload 4, 2) := by decide +kernel
theorem dX4_judges_126 : decode cX4_judges 126 = .ok (.iconst 4, 1) := by decide +kernel
theorem dX4_judges_127 : decode cX4_judges 127 = .ok (.if_icmp .ge 207, 3) := by decide +kernel
theorem dX4_judges_130 : decode cX4_judges 130 = .ok (.iconst 4, 1) := by decide +kernel
theorem dX4_judges_131 : decode cX4_judges 131 = .ok (.iload_n 1, 1) := by decide +kernel
theorem dX4_judges_132 : decode cX4_judges 132 = .ok (.imul, 1) := by decide +kernel
theorem dX4_judges_133 : decode cX4_judges 133 = .ok (.iload 4, 2) := by decide +kernel
theorem dX4_judges_135 : decode cX4_judges 135 = .ok (.iadd, 1) := by decide +kernel
theorem dX4_judges_136 : decode cX4_judges 136 = .ok (.istore 5, 2) := by decide +kernel
theorem dX4_judges_138 : decode cX4_judges 138 = .ok (.aload_n 0, 1) := by decide +kernel
theorem dX4_judges_139 : decode cX4_judges 139 = .ok (.getfield 71, 3) := by decide +kernel
theorem dX4_judges_142 : decode cX4_judges 142 = .ok (.iload 4, 2) := by decide +kernel
theorem dX4_judges_144 : decode cX4_judges 144 = .ok (.iaload, 1) := by decide +kernel
theorem dX4_judges_145 : decode cX4_judges 145 = .ok (.iconst (-1), 1) := by decide +kernel
theorem dX4_judges_146 : decode cX4_judges 146 = .ok (.if_icmp .eq 35, 3) := by decide +kernel
theorem dX4_judges_149 : decode cX4_judges 149 = .ok (.aload_n 0, 1) := by decide +kernel
theorem dX4_judges_150 : decode cX4_judges 150 = .ok (.aload_n 0, 1) := by decide +kernel
theorem dX4_judges_151 : decode cX4_judges 151 = .ok (.getfield 71, 3) := by decide +kernel
theorem dX4_judges_154 : decode cX4_judges 154 = .ok (.iload 4, 2) := by decide +kernel
theorem dX4_judges_156 : decode cX4_judges 156 = .ok (.iaload, 1) := by decide +kernel
theorem dX4_judges_157 : decode cX4_judges 157 = .ok (.aload_n 0, 1) := by decide +kernel
theorem dX4_judges_158 : decode cX4_judges 158 = .ok (.getfield 19, 3) := by decide +kernel
theorem dX4_judges_161 : decode cX4_judges 161 = .ok (.iload 5, 2) := by decide +kernel
theorem dX4_judges_163 : decode cX4_judges 163 = .ok (.iaload, 1) := by decide +kernel
theorem dX4_judges_164 : decode cX4_judges 164 = .ok (.aload_n 0, 1) := by decide +kernel
theorem dX4_judges_165 : decode cX4_judges 165 = .ok (.getfield 22, 3) := by decide +kernel
theorem dX4_judges_168 : decode cX4_judges 168 = .ok (.iload 5, 2) := by decide +kernel
theorem dX4_judges_170 : decode cX4_judges 170 = .ok (.iaload, 1) := by decide +kernel
theorem dX4_judges_171 : decode cX4_judges 171 = .ok (.invokevirtual 130, 3) := by decide +kernel
theorem dX4_judges_174 : decode cX4_judges 174 = .ok (.ifCond .ne 7, 3) := by decide +kernel
theorem dX4_judges_177 : decode cX4_judges 177 = .ok (.iconst 1, 1) := by decide +kernel
theorem dX4_judges_178 : decode cX4_judges 178 = .ok (.goto 4, 3) := by decide +kernel
theorem dX4_judges_181 : decode cX4_judges 181 = .ok (.iconst 0, 1) := by decide +kernel
theorem dX4_judges_182 : decode cX4_judges 182 = .ok (.istore 6, 2) := by decide +kernel
theorem dX4_judges_184 : decode cX4_judges 184 = .ok (.aload_n 0, 1) := by decide +kernel
theorem dX4_judges_185 : decode cX4_judges 185 = .ok (.getfield 71, 3) := by decide +kernel
theorem dX4_judges_188 : decode cX4_judges 188 = .ok (.iload 4, 2) := by decide +kernel
theorem dX4_judges_190 : decode cX4_judges 190 = .ok (.iaload, 1) := by decide +kernel
theorem dX4_judges_191 : decode cX4_judges 191 = .ok (.aload_n 0, 1) := by decide +kernel
theorem dX4_judges_192 : decode cX4_judges 192 = .ok (.getfield 19, 3) := by decide +kernel
theorem dX4_judges_195 : decode cX4_judges 195 = .ok (.iload 5, 2) := by decide +kernel
theorem dX4_judges_197 : decode cX4_judges 197 = .ok (.iaload, 1) := by decide +kernel
theorem dX4_judges_198 : decode cX4_judges 198 = .ok (.if_icmp .ge 13, 3) := by decide +kernel
theorem dX4_judges_201 : decode cX4_judges 201 = .ok (.aload_n 0, 1) := by decide +kernel
theorem dX4_judges_202 : decode cX4_judges 202 = .ok (.getfield 19, 3) := by decide +kernel
theorem dX4_judges_205 : decode cX4_judges 205 = .ok (.iload 5, 2) := by decide +kernel
theorem dX4_judges_207 : decode cX4_judges 207 = .ok (.iaload, 1) := by decide +kernel
theorem dX4_judges_208 : decode cX4_judges 208 = .ok (.goto 10, 3) := by decide +kernel
theorem dX4_judges_211 : decode cX4_judges 211 = .ok (.aload_n 0, 1) := by decide +kernel
theorem dX4_judges_212 : decode cX4_judges 212 = .ok (.getfield 22, 3) := by decide +kernel
theorem dX4_judges_215 : decode cX4_judges 215 = .ok (.iload 5, 2) := by decide +kernel
theorem dX4_judges_217 : decode cX4_judges 217 = .ok (.iaload, 1) := by decide +kernel
theorem dX4_judges_218 : decode cX4_judges 218 = .ok (.istore 7, 2) := by decide +kernel
theorem dX4_judges_220 : decode cX4_judges 220 = .ok (.iload_n 3, 1) := by decide +kernel
theorem dX4_judges_221 : decode cX4_judges 221 = .ok (.ifCond .ne 36, 3) := by decide +kernel
theorem dX4_judges_224 : decode cX4_judges 224 = .ok (.aload_n 0, 1) := by decide +kernel
theorem dX4_judges_225 : decode cX4_judges 225 = .ok (.getfield 71, 3) := by decide +kernel
theorem dX4_judges_228 : decode cX4_judges 228 = .ok (.iload 4, 2) := by decide +kernel
theorem dX4_judges_230 : decode cX4_judges 230 = .ok (.iaload, 1) := by decide +kernel
theorem dX4_judges_231 : decode cX4_judges 231 = .ok (.iconst (-1), 1) := by decide +kernel
theorem dX4_judges_232 : decode cX4_judges 232 = .ok (.if_icmp .eq 29, 3) := by decide +kernel
theorem dX4_judges_235 : decode cX4_judges 235 = .ok (.iload_n 2, 1) := by decide +kernel
theorem dX4_judges_236 : decode cX4_judges 236 = .ok (.ifCond .eq 16, 3) := by decide +kernel
theorem dX4_judges_239 : decode cX4_judges 239 = .ok (.aload_n 0, 1) := by decide +kernel
theorem dX4_judges_240 : decode cX4_judges 240 = .ok (.getfield 25, 3) := by decide +kernel
theorem dX4_judges_243 : decode cX4_judges 243 = .ok (.iload 5, 2) := by decide +kernel
theorem dX4_judges_245 : decode cX4_judges 245 = .ok (.baload, 1) := by decide +kernel
theorem dX4_judges_246 : decode cX4_judges 246 = .ok (.ifCond .eq 15, 3) := by decide +kernel
theorem dX4_judges_249 : decode cX4_judges 249 = .ok (.goto 8, 3) := by decide +kernel
theorem dX4_judges_252 : decode cX4_judges 252 = .ok (.iload 6, 2) := by decide +kernel
theorem dX4_judges_254 : decode cX4_judges 254 = .ok (.ifCond .eq 7, 3) := by decide +kernel
theorem dX4_judges_257 : decode cX4_judges 257 = .ok (.iconst 1, 1) := by decide +kernel
theorem dX4_judges_258 : decode cX4_judges 258 = .ok (.goto 4, 3) := by decide +kernel
theorem dX4_judges_261 : decode cX4_judges 261 = .ok (.iconst 0, 1) := by decide +kernel
theorem dX4_judges_262 : decode cX4_judges 262 = .ok (.istore 8, 2) := by decide +kernel
theorem dX4_judges_264 : decode cX4_judges 264 = .ok (.aload_n 0, 1) := by decide +kernel
theorem dX4_judges_265 : decode cX4_judges 265 = .ok (.getfield 74, 3) := by decide +kernel
theorem dX4_judges_268 : decode cX4_judges 268 = .ok (.iload 4, 2) := by decide +kernel
theorem dX4_judges_270 : decode cX4_judges 270 = .ok (.iload 8, 2) := by decide +kernel
theorem dX4_judges_272 : decode cX4_judges 272 = .ok (.ifCond .ne 7, 3) := by decide +kernel
theorem dX4_judges_275 : decode cX4_judges 275 = .ok (.iconst (-1), 1) := by decide +kernel
theorem dX4_judges_276 : decode cX4_judges 276 = .ok (.goto 23, 3) := by decide +kernel
theorem dX4_judges_279 : decode cX4_judges 279 = .ok (.iload_n 3, 1) := by decide +kernel
theorem dX4_judges_280 : decode cX4_judges 280 = .ok (.ifCond .ne 7, 3) := by decide +kernel
theorem dX4_judges_283 : decode cX4_judges 283 = .ok (.iload_n 2, 1) := by decide +kernel
theorem dX4_judges_284 : decode cX4_judges 284 = .ok (.ifCond .eq 13, 3) := by decide +kernel
theorem dX4_judges_287 : decode cX4_judges 287 = .ok (.aload_n 0, 1) := by decide +kernel
theorem dX4_judges_288 : decode cX4_judges 288 = .ok (.getfield 71, 3) := by decide +kernel
theorem dX4_judges_291 : decode cX4_judges 291 = .ok (.iload 4, 2) := by decide +kernel
theorem dX4_judges_293 : decode cX4_judges 293 = .ok (.iaload, 1) := by decide +kernel
theorem dX4_judges_294 : decode cX4_judges 294 = .ok (.goto 5, 3) := by decide +kernel
theorem dX4_judges_297 : decode cX4_judges 297 = .ok (.iload 7, 2) := by decide +kernel
theorem dX4_judges_299 : decode cX4_judges 299 = .ok (.iastore, 1) := by decide +kernel
theorem dX4_judges_300 : decode cX4_judges 300 = .ok (.aload_n 0, 1) := by decide +kernel
theorem dX4_judges_301 : decode cX4_judges 301 = .ok (.getfield 32, 3) := by decide +kernel
theorem dX4_judges_304 : decode cX4_judges 304 = .ok (.iload 5, 2) := by decide +kernel
theorem dX4_judges_306 : decode cX4_judges 306 = .ok (.iload_n 3, 1) := by decide +kernel
theorem dX4_judges_307 : decode cX4_judges 307 = .ok (.ifCond .eq 13, 3) := by decide +kernel
theorem dX4_judges_310 : decode cX4_judges 310 = .ok (.aload_n 0, 1) := by decide +kernel
theorem dX4_judges_311 : decode cX4_judges 311 = .ok (.getfield 71, 3) := by decide +kernel
theorem dX4_judges_314 : decode cX4_judges 314 = .ok (.iload 4, 2) := by decide +kernel
theorem dX4_judges_316 : decode cX4_judges 316 = .ok (.iaload, 1) := by decide +kernel
theorem dX4_judges_317 : decode cX4_judges 317 = .ok (.goto 10, 3) := by decide +kernel
theorem dX4_judges_320 : decode cX4_judges 320 = .ok (.aload_n 0, 1) := by decide +kernel
theorem dX4_judges_321 : decode cX4_judges 321 = .ok (.getfield 32, 3) := by decide +kernel
theorem dX4_judges_324 : decode cX4_judges 324 = .ok (.iload 5, 2) := by decide +kernel
theorem dX4_judges_326 : decode cX4_judges 326 = .ok (.iaload, 1) := by decide +kernel
theorem dX4_judges_327 : decode cX4_judges 327 = .ok (.iastore, 1) := by decide +kernel
theorem dX4_judges_328 : decode cX4_judges 328 = .ok (.iinc 4 1, 3) := by decide +kernel
theorem dX4_judges_331 : decode cX4_judges 331 = .ok (.goto (-207), 3) := by decide +kernel
theorem dX4_judges_334 : decode cX4_judges 334 = .ok (.aload_n 0, 1) := by decide +kernel
theorem dX4_judges_335 : decode cX4_judges 335 = .ok (.iload_n 1, 1) := by decide +kernel
theorem dX4_judges_336 : decode cX4_judges 336 = .ok (.iload_n 3, 1) := by decide +kernel
theorem dX4_judges_337 : decode cX4_judges 337 = .ok (.ifCond .eq 7, 3) := by decide +kernel
theorem dX4_judges_340 : decode cX4_judges 340 = .ok (.iconst 1, 1) := by decide +kernel
theorem dX4_judges_341 : decode cX4_judges 341 = .ok (.goto 12, 3) := by decide +kernel
theorem dX4_judges_344 : decode cX4_judges 344 = .ok (.iload_n 2, 1) := by decide +kernel
theorem dX4_judges_345 : decode cX4_judges 345 = .ok (.ifCond .eq 7, 3) := by decide +kernel
theorem dX4_judges_348 : decode cX4_judges 348 = .ok (.iconst 3, 1) := by decide +kernel
theorem dX4_judges_349 : decode cX4_judges 349 = .ok (.goto 4, 3) := by decide +kernel
theorem dX4_judges_352 : decode cX4_judges 352 = .ok (.iconst 2, 1) := by decide +kernel
theorem dX4_judges_353 : decode cX4_judges 353 = .ok (.aload_n 0, 1) := by decide +kernel
theorem dX4_judges_354 : decode cX4_judges 354 = .ok (.getfield 112, 3) := by decide +kernel
theorem dX4_judges_357 : decode cX4_judges 357 = .ok (.iconst 0, 1) := by decide +kernel
theorem dX4_judges_358 : decode cX4_judges 358 = .ok (.invokevirtual 118, 3) := by decide +kernel
theorem dX4_judges_361 : decode cX4_judges 361 = .ok (.iload_n 3, 1) := by decide +kernel
theorem dX4_judges_362 : decode cX4_judges 362 = .ok (.ireturn, 1) := by decide +kernel
set_option maxRecDepth 20000 in
theorem ggX4_hearsRequest_X4_requests : GoodIn wsX4_hearsRequest wsX4_requests := goodIn_r _ [10, 5, 4, 11, 12, 13, 2, 14, 15, 16, 17, 9, 18, 19, 20, 21, 22, 23, 24, 25, 47, 48, 49, 50, 51, 52, 53, 54, 55, 56, 57, 58, 59, 60, 61, 62, 63, 64, 65, 66, 67, 68, 69, 70, 71, 72, 73, 74, 75] (by decide +kernel) (by decide +kernel)
set_option maxRecDepth 20000 in
theorem gX4_hearsRequest_X4_requests : GoodIn wsX4_hearsRequest (wsV RX4 122 RX4 yX4_requests wsX4_requests) := goodIn_app (goodIn_of _ (by decide +kernel)) ggX4_hearsRequest_X4_requests
set_option maxRecDepth 20000 in
theorem ggX4_hearsRequest_X4_judges : GoodIn wsX4_hearsRequest wsX4_judges := goodIn_r _ [29, 30, 31, 32, 33, 12, 34, 35, 36, 37, 38, 9, 39, 40, 41, 42, 15, 16, 17, 18, 19, 20, 21, 22, 23, 24, 25, 47, 48, 49, 50, 51, 52, 53, 54, 55, 56, 57, 58, 59, 60, 61, 62, 63, 64, 65, 66, 67, 68, 69, 70, 71, 72, 73, 74, 75] (by decide +kernel) (by decide +kernel)
set_option maxRecDepth 20000 in
theorem gX4_hearsRequest_X4_judges : GoodIn wsX4_hearsRequest (wsV RX4 133 RX4 yX4_judges wsX4_judges) := goodIn_app (goodIn_of _ (by decide +kernel)) ggX4_hearsRequest_X4_judges
set_option maxRecDepth 20000 in
theorem ggX4_hearsRequest_X4_becomesOpened : GoodIn wsX4_hearsRequest wsX4_becomesOpened := goodIn_r _ [46, 4, 5, 47, 48, 49, 50, 51, 52, 53, 54, 55, 56, 57, 58, 59, 60, 61, 62, 63, 64, 65, 66, 67, 68, 69, 70, 71, 72, 73, 74, 75] (by decide +kernel) (by decide +kernel)
set_option maxRecDepth 20000 in
theorem gX4_hearsRequest_X4_becomesOpened : GoodIn wsX4_hearsRequest (wsV RX4 136 RX4 yX4_becomesOpened wsX4_becomesOpened) := goodIn_app (goodIn_of _ (by decide +kernel)) ggX4_hearsRequest_X4_becomesOpened
theorem dX4_hearsRequest_0 : decode cX4_hearsRequest 0 = .ok (.aload_n 0, 1) := by decide +kernel
theorem dX4_hearsRequest_1 : decode cX4_hearsRequest 1 = .ok (.getfield 115, 3) := by decide +kernel
theorem dX4_hearsRequest_4 : decode cX4_hearsRequest 4 = .ok (.aload_n 0, 1) := by decide +kernel
theorem dX4_hearsRequest_5 : decode cX4_hearsRequest 5 = .ok (.getfield 38, 3) := by decide +kernel
theorem dX4_hearsRequest_8 : decode cX4_hearsRequest 8 = .ok (.iload_n 1, 1) := by decide +kernel
theorem dX4_hearsRequest_9 : decode cX4_hearsRequest 9 = .ok (.iaload, 1) := by decide +kernel
theorem dX4_hearsRequest_10 : decode cX4_hearsRequest 10 = .ok (.if_icmp .ne 41, 3) := by decide +kernel
theorem dX4_hearsRequest_13 : decode cX4_hearsRequest 13 = .ok (.aload_n 0, 1) := by decide +kernel
theorem dX4_hearsRequest_14 : decode cX4_hearsRequest 14 = .ok (.getfield 50, 3) := by decide +kernel
theorem dX4_hearsRequest_17 : decode cX4_hearsRequest 17 = .ok (.iload_n 1, 1) := by decide +kernel
theorem dX4_hearsRequest_18 : decode cX4_hearsRequest 18 = .ok (.dup2, 1) := by decide +kernel
theorem dX4_hearsRequest_19 : decode cX4_hearsRequest 19 = .ok (.iaload, 1) := by decide +kernel
theorem dX4_hearsRequest_20 : decode cX4_hearsRequest 20 = .ok (.iconst 1, 1) := by decide +kernel
theorem dX4_hearsRequest_21 : decode cX4_hearsRequest 21 = .ok (.iadd, 1) := by decide +kernel
theorem dX4_hearsRequest_22 : decode cX4_hearsRequest 22 = .ok (.iastore, 1) := by decide +kernel
theorem dX4_hearsRequest_23 : decode cX4_hearsRequest 23 = .ok (.aload_n 0, 1) := by decide +kernel
theorem dX4_hearsRequest_24 : decode cX4_hearsRequest 24 = .ok (.getfield 35, 3) := by decide +kernel
theorem dX4_hearsRequest_27 : decode cX4_hearsRequest 27 = .ok (.iload_n 1, 1) := by decide +kernel
theorem dX4_hearsRequest_28 : decode cX4_hearsRequest 28 = .ok (.aload_n 0, 1) := by decide +kernel
theorem dX4_hearsRequest_29 : decode cX4_hearsRequest 29 = .ok (.getfield 50, 3) := by decide +kernel
theorem dX4_hearsRequest_32 : decode cX4_hearsRequest 32 = .ok (.iload_n 1, 1) := by decide +kernel
theorem dX4_hearsRequest_33 : decode cX4_hearsRequest 33 = .ok (.iaload, 1) := by decide +kernel
theorem dX4_hearsRequest_34 : decode cX4_hearsRequest 34 = .ok (.iconst 3, 1) := by decide +kernel
theorem dX4_hearsRequest_35 : decode cX4_hearsRequest 35 = .ok (.if_icmp .ne 8, 3) := by decide +kernel
theorem dX4_hearsRequest_38 : decode cX4_hearsRequest 38 = .ok (.bipush 7, 2) := by decide +kernel
theorem dX4_hearsRequest_40 : decode cX4_hearsRequest 40 = .ok (.goto 9, 3) := by decide +kernel
theorem dX4_hearsRequest_43 : decode cX4_hearsRequest 43 = .ok (.aload_n 0, 1) := by decide +kernel
theorem dX4_hearsRequest_44 : decode cX4_hearsRequest 44 = .ok (.getfield 35, 3) := by decide +kernel
theorem dX4_hearsRequest_47 : decode cX4_hearsRequest 47 = .ok (.iload_n 1, 1) := by decide +kernel
theorem dX4_hearsRequest_48 : decode cX4_hearsRequest 48 = .ok (.iaload, 1) := by decide +kernel
theorem dX4_hearsRequest_49 : decode cX4_hearsRequest 49 = .ok (.iastore, 1) := by decide +kernel
theorem dX4_hearsRequest_50 : decode cX4_hearsRequest 50 = .ok (.return_, 1) := by decide +kernel
theorem dX4_hearsRequest_51 : decode cX4_hearsRequest 51 = .ok (.aload_n 0, 1) := by decide +kernel
theorem dX4_hearsRequest_52 : decode cX4_hearsRequest 52 = .ok (.getfield 50, 3) := by decide +kernel
theorem dX4_hearsRequest_55 : decode cX4_hearsRequest 55 = .ok (.iload_n 1, 1) := by decide +kernel
theorem dX4_hearsRequest_56 : decode cX4_hearsRequest 56 = .ok (.iconst 0, 1) := by decide +kernel
theorem dX4_hearsRequest_57 : decode cX4_hearsRequest 57 = .ok (.iastore, 1) := by decide +kernel
theorem dX4_hearsRequest_58 : decode cX4_hearsRequest 58 = .ok (.aload_n 0, 1) := by decide +kernel
theorem dX4_hearsRequest_59 : decode cX4_hearsRequest 59 = .ok (.getfield 35, 3) := by decide +kernel
theorem dX4_hearsRequest_62 : decode cX4_hearsRequest 62 = .ok (.iload_n 1, 1) := by decide +kernel
theorem dX4_hearsRequest_63 : decode cX4_hearsRequest 63 = .ok (.iaload, 1) := by decide +kernel
theorem dX4_hearsRequest_64 : decode cX4_hearsRequest 64 = .ok (.iconst 4, 1) := by decide +kernel
theorem dX4_hearsRequest_65 : decode cX4_hearsRequest 65 = .ok (.if_icmp .ne 23, 3) := by decide +kernel
theorem dX4_hearsRequest_68 : decode cX4_hearsRequest 68 = .ok (.aload_n 0, 1) := by decide +kernel
theorem dX4_hearsRequest_69 : decode cX4_hearsRequest 69 = .ok (.getfield 35, 3) := by decide +kernel
theorem dX4_hearsRequest_72 : decode cX4_hearsRequest 72 = .ok (.iload_n 1, 1) := by decide +kernel
theorem dX4_hearsRequest_73 : decode cX4_hearsRequest 73 = .ok (.iconst 1, 1) := by decide +kernel
theorem dX4_hearsRequest_74 : decode cX4_hearsRequest 74 = .ok (.iastore, 1) := by decide +kernel
theorem dX4_hearsRequest_75 : decode cX4_hearsRequest 75 = .ok (.aload_n 0, 1) := by decide +kernel
theorem dX4_hearsRequest_76 : decode cX4_hearsRequest 76 = .ok (.getfield 44, 3) := by decide +kernel
theorem dX4_hearsRequest_79 : decode cX4_hearsRequest 79 = .ok (.iload_n 1, 1) := by decide +kernel
theorem dX4_hearsRequest_80 : decode cX4_hearsRequest 80 = .ok (.bipush 10, 2) := by decide +kernel
theorem dX4_hearsRequest_82 : decode cX4_hearsRequest 82 = .ok (.iastore, 1) := by decide +kernel
theorem dX4_hearsRequest_83 : decode cX4_hearsRequest 83 = .ok (.aload_n 0, 1) := by decide +kernel
theorem dX4_hearsRequest_84 : decode cX4_hearsRequest 84 = .ok (.iload_n 1, 1) := by decide +kernel
theorem dX4_hearsRequest_85 : decode cX4_hearsRequest 85 = .ok (.invokevirtual 122, 3) := by decide +kernel
theorem dX4_hearsRequest_88 : decode cX4_hearsRequest 88 = .ok (.aload_n 0, 1) := by decide +kernel
theorem dX4_hearsRequest_89 : decode cX4_hearsRequest 89 = .ok (.iload_n 1, 1) := by decide +kernel
theorem dX4_hearsRequest_90 : decode cX4_hearsRequest 90 = .ok (.invokevirtual 133, 3) := by decide +kernel
theorem dX4_hearsRequest_93 : decode cX4_hearsRequest 93 = .ok (.istore_n 2, 1) := by decide +kernel
theorem dX4_hearsRequest_94 : decode cX4_hearsRequest 94 = .ok (.iload_n 2, 1) := by decide +kernel
theorem dX4_hearsRequest_95 : decode cX4_hearsRequest 95 = .ok (.ifCond .eq 21, 3) := by decide +kernel
theorem dX4_hearsRequest_98 : decode cX4_hearsRequest 98 = .ok (.aload_n 0, 1) := by decide +kernel
theorem dX4_hearsRequest_99 : decode cX4_hearsRequest 99 = .ok (.getfield 35, 3) := by decide +kernel
theorem dX4_hearsRequest_102 : decode cX4_hearsRequest 102 = .ok (.iload_n 1, 1) := by decide +kernel
theorem dX4_hearsRequest_103 : decode cX4_hearsRequest 103 = .ok (.iaload, 1) := by decide +kernel
theorem dX4_hearsRequest_104 : decode cX4_hearsRequest 104 = .ok (.iconst 2, 1) := by decide +kernel
theorem dX4_hearsRequest_105 : decode cX4_hearsRequest 105 = .ok (.if_icmp .ne 11, 3) := by decide +kernel
theorem dX4_hearsRequest_108 : decode cX4_hearsRequest 108 = .ok (.aload_n 0, 1) := by decide +kernel
theorem dX4_hearsRequest_109 : decode cX4_hearsRequest 109 = .ok (.iload_n 1, 1) := by decide +kernel
theorem dX4_hearsRequest_110 : decode cX4_hearsRequest 110 = .ok (.invokevirtual 136, 3) := by decide +kernel
theorem dX4_hearsRequest_113 : decode cX4_hearsRequest 113 = .ok (.goto 48, 3) := by decide +kernel
theorem dX4_hearsRequest_116 : decode cX4_hearsRequest 116 = .ok (.iload_n 2, 1) := by decide +kernel
theorem dX4_hearsRequest_117 : decode cX4_hearsRequest 117 = .ok (.ifCond .eq 23, 3) := by decide +kernel
theorem dX4_hearsRequest_120 : decode cX4_hearsRequest 120 = .ok (.aload_n 0, 1) := by decide +kernel
theorem dX4_hearsRequest_121 : decode cX4_hearsRequest 121 = .ok (.getfield 35, 3) := by decide +kernel
theorem dX4_hearsRequest_124 : decode cX4_hearsRequest 124 = .ok (.iload_n 1, 1) := by decide +kernel
theorem dX4_hearsRequest_125 : decode cX4_hearsRequest 125 = .ok (.iaload, 1) := by decide +kernel
theorem dX4_hearsRequest_126 : decode cX4_hearsRequest 126 = .ok (.iconst 1, 1) := by decide +kernel
theorem dX4_hearsRequest_127 : decode cX4_hearsRequest 127 = .ok (.if_icmp .ne 13, 3) := by decide +kernel
theorem dX4_hearsRequest_130 : decode cX4_hearsRequest 130 = .ok (.aload_n 0, 1) := by decide +kernel
theorem dX4_hearsRequest_131 : decode cX4_hearsRequest 131 = .ok (.getfield 35, 3) := by decide +kernel
theorem dX4_hearsRequest_134 : decode cX4_hearsRequest 134 = .ok (.iload_n 1, 1) := by decide +kernel
theorem dX4_hearsRequest_135 : decode cX4_hearsRequest 135 = .ok (.iconst 3, 1) := by decide +kernel
theorem dX4_hearsRequest_136 : decode cX4_hearsRequest 136 = .ok (.iastore, 1) := by decide +kernel
theorem dX4_hearsRequest_137 : decode cX4_hearsRequest 137 = .ok (.goto 24, 3) := by decide +kernel
theorem dX4_hearsRequest_140 : decode cX4_hearsRequest 140 = .ok (.iload_n 2, 1) := by decide +kernel
theorem dX4_hearsRequest_141 : decode cX4_hearsRequest 141 = .ok (.ifCond .ne 20, 3) := by decide +kernel
theorem dX4_hearsRequest_144 : decode cX4_hearsRequest 144 = .ok (.aload_n 0, 1) := by decide +kernel
theorem dX4_hearsRequest_145 : decode cX4_hearsRequest 145 = .ok (.getfield 35, 3) := by decide +kernel
theorem dX4_hearsRequest_148 : decode cX4_hearsRequest 148 = .ok (.iload_n 1, 1) := by decide +kernel
theorem dX4_hearsRequest_149 : decode cX4_hearsRequest 149 = .ok (.iaload, 1) := by decide +kernel
theorem dX4_hearsRequest_150 : decode cX4_hearsRequest 150 = .ok (.iconst 3, 1) := by decide +kernel
theorem dX4_hearsRequest_151 : decode cX4_hearsRequest 151 = .ok (.if_icmp .ne 10, 3) := by decide +kernel
theorem dX4_hearsRequest_154 : decode cX4_hearsRequest 154 = .ok (.aload_n 0, 1) := by decide +kernel
theorem dX4_hearsRequest_155 : decode cX4_hearsRequest 155 = .ok (.getfield 35, 3) := by decide +kernel
theorem dX4_hearsRequest_158 : decode cX4_hearsRequest 158 = .ok (.iload_n 1, 1) := by decide +kernel
theorem dX4_hearsRequest_159 : decode cX4_hearsRequest 159 = .ok (.iconst 1, 1) := by decide +kernel
theorem dX4_hearsRequest_160 : decode cX4_hearsRequest 160 = .ok (.iastore, 1) := by decide +kernel
theorem dX4_hearsRequest_161 : decode cX4_hearsRequest 161 = .ok (.return_, 1) := by decide +kernel
set_option maxRecDepth 20000 in
theorem ggX4_hearsAnswer_X4_becomesOpened : GoodIn wsX4_hearsAnswer wsX4_becomesOpened := goodIn_r _ [13, 3, 14, 40, 41, 42, 43, 44, 45, 46, 47, 48, 49, 50, 51, 52, 53, 54, 55, 56, 57, 58, 59, 60, 61, 62, 63, 64, 65, 66, 67, 68] (by decide +kernel) (by decide +kernel)
set_option maxRecDepth 20000 in
theorem gX4_hearsAnswer_X4_becomesOpened : GoodIn wsX4_hearsAnswer (wsV RX4 136 RX4 yX4_becomesOpened wsX4_becomesOpened) := goodIn_app (goodIn_of _ (by decide +kernel)) ggX4_hearsAnswer_X4_becomesOpened
set_option maxRecDepth 20000 in
theorem ggX4_hearsAnswer_X4_isWithin : GoodIn wsX4_hearsAnswer wsX4_isWithin := goodIn_r _ [18, 19, 20, 12, 21] (by decide +kernel) (by decide +kernel)
set_option maxRecDepth 20000 in
theorem gX4_hearsAnswer_X4_isWithin : GoodIn wsX4_hearsAnswer (wsV RX4 130 RX4 yX4_isWithin wsX4_isWithin) := goodIn_app (goodIn_of _ (by decide +kernel)) ggX4_hearsAnswer_X4_isWithin
set_option maxRecDepth 20000 in
theorem ggX4_hearsAnswer_X4_requests : GoodIn wsX4_hearsAnswer wsX4_requests := goodIn_r _ [25, 14, 3, 2, 26, 8, 27, 28, 29, 30, 31, 12, 32, 33, 34, 35, 36, 37, 38, 39, 40, 41, 42, 43, 44, 45, 46, 47, 48, 49, 50, 51, 52, 53, 54, 55, 56, 57, 58, 59, 60, 61, 62, 63, 64, 65, 66, 67, 68] (by decide +kernel) (by decide +kernel)
set_option maxRecDepth 20000 in
theorem gX4_hearsAnswer_X4_requests : GoodIn wsX4_hearsAnswer (wsV RX4 122 RX4 yX4_requests wsX4_requests) := goodIn_app (goodIn_of _ (by decide +kernel)) ggX4_hearsAnswer_X4_requests
theorem dX4_hearsAnswer_0 : decode cX4_hearsAnswer 0 = .ok (.aload_n 0, 1) := by decide +kernel
theorem dX4_hearsAnswer_1 : decode cX4_hearsAnswer 1 = .ok (.getfield 112, 3) := by decide +kernel
theorem dX4_hearsAnswer_4 : decode cX4_hearsAnswer 4 = .ok (.aload_n 0, 1) := by decide +kernel
theorem dX4_hearsAnswer_5 : decode cX4_hearsAnswer 5 = .ok (.getfield 41, 3) := by decide +kernel
theorem dX4_hearsAnswer_8 : decode cX4_hearsAnswer 8 = .ok (.iload_n 1, 1) := by decide +kernel
theorem dX4_hearsAnswer_9 : decode cX4_hearsAnswer 9 = .ok (.iaload, 1) := by decide +kernel
theorem dX4_hearsAnswer_10 : decode cX4_hearsAnswer 10 = .ok (.if_icmp .ne 27, 3) := by decide +kernel
theorem dX4_hearsAnswer_13 : decode cX4_hearsAnswer 13 = .ok (.aload_n 0, 1) := by decide +kernel
theorem dX4_hearsAnswer_14 : decode cX4_hearsAnswer 14 = .ok (.getfield 35, 3) := by decide +kernel
theorem dX4_hearsAnswer_17 : decode cX4_hearsAnswer 17 = .ok (.iload_n 1, 1) := by decide +kernel
theorem dX4_hearsAnswer_18 : decode cX4_hearsAnswer 18 = .ok (.iaload, 1) := by decide +kernel
theorem dX4_hearsAnswer_19 : decode cX4_hearsAnswer 19 = .ok (.iconst 1, 1) := by decide +kernel
theorem dX4_hearsAnswer_20 : decode cX4_hearsAnswer 20 = .ok (.if_icmp .eq 13, 3) := by decide +kernel
theorem dX4_hearsAnswer_23 : decode cX4_hearsAnswer 23 = .ok (.aload_n 0, 1) := by decide +kernel
theorem dX4_hearsAnswer_24 : decode cX4_hearsAnswer 24 = .ok (.getfield 35, 3) := by decide +kernel
theorem dX4_hearsAnswer_27 : decode cX4_hearsAnswer 27 = .ok (.iload_n 1, 1) := by decide +kernel
theorem dX4_hearsAnswer_28 : decode cX4_hearsAnswer 28 = .ok (.iaload, 1) := by decide +kernel
theorem dX4_hearsAnswer_29 : decode cX4_hearsAnswer 29 = .ok (.iconst 3, 1) := by decide +kernel
theorem dX4_hearsAnswer_30 : decode cX4_hearsAnswer 30 = .ok (.if_icmp .ne 7, 3) := by decide +kernel
theorem dX4_hearsAnswer_33 : decode cX4_hearsAnswer 33 = .ok (.iconst 1, 1) := by decide +kernel
theorem dX4_hearsAnswer_34 : decode cX4_hearsAnswer 34 = .ok (.goto 4, 3) := by decide +kernel
theorem dX4_hearsAnswer_37 : decode cX4_hearsAnswer 37 = .ok (.iconst 0, 1) := by decide +kernel
theorem dX4_hearsAnswer_38 : decode cX4_hearsAnswer 38 = .ok (.istore_n 2, 1) := by decide +kernel
theorem dX4_hearsAnswer_39 : decode cX4_hearsAnswer 39 = .ok (.iload_n 2, 1) := by decide +kernel
theorem dX4_hearsAnswer_40 : decode cX4_hearsAnswer 40 = .ok (.ifCond .eq 29, 3) := by decide +kernel
theorem dX4_hearsAnswer_43 : decode cX4_hearsAnswer 43 = .ok (.aload_n 0, 1) := by decide +kernel
theorem dX4_hearsAnswer_44 : decode cX4_hearsAnswer 44 = .ok (.getfield 109, 3) := by decide +kernel
theorem dX4_hearsAnswer_47 : decode cX4_hearsAnswer 47 = .ok (.iconst 1, 1) := by decide +kernel
theorem dX4_hearsAnswer_48 : decode cX4_hearsAnswer 48 = .ok (.if_icmp .ne 21, 3) := by decide +kernel
theorem dX4_hearsAnswer_51 : decode cX4_hearsAnswer 51 = .ok (.aload_n 0, 1) := by decide +kernel
theorem dX4_hearsAnswer_52 : decode cX4_hearsAnswer 52 = .ok (.getfield 35, 3) := by decide +kernel
theorem dX4_hearsAnswer_55 : decode cX4_hearsAnswer 55 = .ok (.iload_n 1, 1) := by decide +kernel
theorem dX4_hearsAnswer_56 : decode cX4_hearsAnswer 56 = .ok (.iaload, 1) := by decide +kernel
theorem dX4_hearsAnswer_57 : decode cX4_hearsAnswer 57 = .ok (.iconst 3, 1) := by decide +kernel
theorem dX4_hearsAnswer_58 : decode cX4_hearsAnswer 58 = .ok (.if_icmp .ne 11, 3) := by decide +kernel
theorem dX4_hearsAnswer_61 : decode cX4_hearsAnswer 61 = .ok (.aload_n 0, 1) := by decide +kernel
theorem dX4_hearsAnswer_62 : decode cX4_hearsAnswer 62 = .ok (.iload_n 1, 1) := by decide +kernel
theorem dX4_hearsAnswer_63 : decode cX4_hearsAnswer 63 = .ok (.invokevirtual 136, 3) := by decide +kernel
theorem dX4_hearsAnswer_66 : decode cX4_hearsAnswer 66 = .ok (.goto 138, 3) := by decide +kernel
theorem dX4_hearsAnswer_69 : decode cX4_hearsAnswer 69 = .ok (.iload_n 2, 1) := by decide +kernel
theorem dX4_hearsAnswer_70 : decode cX4_hearsAnswer 70 = .ok (.ifCond .eq 21, 3) := by decide +kernel
theorem dX4_hearsAnswer_73 : decode cX4_hearsAnswer 73 = .ok (.aload_n 0, 1) := by decide +kernel
theorem dX4_hearsAnswer_74 : decode cX4_hearsAnswer 74 = .ok (.getfield 109, 3) := by decide +kernel
theorem dX4_hearsAnswer_77 : decode cX4_hearsAnswer 77 = .ok (.iconst 1, 1) := by decide +kernel
theorem dX4_hearsAnswer_78 : decode cX4_hearsAnswer 78 = .ok (.if_icmp .ne 13, 3) := by decide +kernel
theorem dX4_hearsAnswer_81 : decode cX4_hearsAnswer 81 = .ok (.aload_n 0, 1) := by decide +kernel
theorem dX4_hearsAnswer_82 : decode cX4_hearsAnswer 82 = .ok (.getfield 35, 3) := by decide +kernel
theorem dX4_hearsAnswer_85 : decode cX4_hearsAnswer 85 = .ok (.iload_n 1, 1) := by decide +kernel
theorem dX4_hearsAnswer_86 : decode cX4_hearsAnswer 86 = .ok (.iconst 2, 1) := by decide +kernel
theorem dX4_hearsAnswer_87 : decode cX4_hearsAnswer 87 = .ok (.iastore, 1) := by decide +kernel
theorem dX4_hearsAnswer_88 : decode cX4_hearsAnswer 88 = .ok (.goto 116, 3) := by decide +kernel
theorem dX4_hearsAnswer_91 : decode cX4_hearsAnswer 91 = .ok (.iload_n 2, 1) := by decide +kernel
theorem dX4_hearsAnswer_92 : decode cX4_hearsAnswer 92 = .ok (.ifCond .eq 112, 3) := by decide +kernel
theorem dX4_hearsAnswer_95 : decode cX4_hearsAnswer 95 = .ok (.iconst 0, 1) := by decide +kernel
theorem dX4_hearsAnswer_96 : decode cX4_hearsAnswer 96 = .ok (.istore_n 3, 1) := by decide +kernel
theorem dX4_hearsAnswer_97 : decode cX4_hearsAnswer 97 = .ok (.iload_n 3, 1) := by decide +kernel
theorem dX4_hearsAnswer_98 : decode cX4_hearsAnswer 98 = .ok (.iconst 4, 1) := by decide +kernel
theorem dX4_hearsAnswer_99 : decode cX4_hearsAnswer 99 = .ok (.if_icmp .ge 100, 3) := by decide +kernel
theorem dX4_hearsAnswer_102 : decode cX4_hearsAnswer 102 = .ok (.iconst 4, 1) := by decide +kernel
theorem dX4_hearsAnswer_103 : decode cX4_hearsAnswer 103 = .ok (.iload_n 1, 1) := by decide +kernel
theorem dX4_hearsAnswer_104 : decode cX4_hearsAnswer 104 = .ok (.imul, 1) := by decide +kernel
theorem dX4_hearsAnswer_105 : decode cX4_hearsAnswer 105 = .ok (.iload_n 3, 1) := by decide +kernel
theorem dX4_hearsAnswer_106 : decode cX4_hearsAnswer 106 = .ok (.iadd, 1) := by decide +kernel
theorem dX4_hearsAnswer_107 : decode cX4_hearsAnswer 107 = .ok (.istore 4, 2) := by decide +kernel
theorem dX4_hearsAnswer_109 : decode cX4_hearsAnswer 109 = .ok (.aload_n 0, 1) := by decide +kernel
theorem dX4_hearsAnswer_110 : decode cX4_hearsAnswer 110 = .ok (.getfield 109, 3) := by decide +kernel
theorem dX4_hearsAnswer_113 : decode cX4_hearsAnswer 113 = .ok (.iconst 2, 1) := by decide +kernel
theorem dX4_hearsAnswer_114 : decode cX4_hearsAnswer 114 = .ok (.if_icmp .ne 34, 3) := by decide +kernel
theorem dX4_hearsAnswer_117 : decode cX4_hearsAnswer 117 = .ok (.aload_n 0, 1) := by decide +kernel
theorem dX4_hearsAnswer_118 : decode cX4_hearsAnswer 118 = .ok (.aload_n 0, 1) := by decide +kernel
theorem dX4_hearsAnswer_119 : decode cX4_hearsAnswer 119 = .ok (.getfield 71, 3) := by decide +kernel
theorem dX4_hearsAnswer_122 : decode cX4_hearsAnswer 122 = .ok (.iload_n 3, 1) := by decide +kernel
theorem dX4_hearsAnswer_123 : decode cX4_hearsAnswer 123 = .ok (.iaload, 1) := by decide +kernel
theorem dX4_hearsAnswer_124 : decode cX4_hearsAnswer 124 = .ok (.aload_n 0, 1) := by decide +kernel
theorem dX4_hearsAnswer_125 : decode cX4_hearsAnswer 125 = .ok (.getfield 13, 3) := by decide +kernel
theorem dX4_hearsAnswer_128 : decode cX4_hearsAnswer 128 = .ok (.iload 4, 2) := by decide +kernel
theorem dX4_hearsAnswer_130 : decode cX4_hearsAnswer 130 = .ok (.iaload, 1) := by decide +kernel
theorem dX4_hearsAnswer_131 : decode cX4_hearsAnswer 131 = .ok (.aload_n 0, 1) := by decide +kernel
theorem dX4_hearsAnswer_132 : decode cX4_hearsAnswer 132 = .ok (.getfield 16, 3) := by decide +kernel
theorem dX4_hearsAnswer_135 : decode cX4_hearsAnswer 135 = .ok (.iload 4, 2) := by decide +kernel
theorem dX4_hearsAnswer_137 : decode cX4_hearsAnswer 137 = .ok (.iaload, 1) := by decide +kernel
theorem dX4_hearsAnswer_138 : decode cX4_hearsAnswer 138 = .ok (.invokevirtual 130, 3) := by decide +kernel
theorem dX4_hearsAnswer_141 : decode cX4_hearsAnswer 141 = .ok (.ifCond .eq 7, 3) := by decide +kernel
theorem dX4_hearsAnswer_144 : decode cX4_hearsAnswer 144 = .ok (.iconst 1, 1) := by decide +kernel
theorem dX4_hearsAnswer_145 : decode cX4_hearsAnswer 145 = .ok (.goto 4, 3) := by decide +kernel
theorem dX4_hearsAnswer_148 : decode cX4_hearsAnswer 148 = .ok (.iconst 0, 1) := by decide +kernel
theorem dX4_hearsAnswer_149 : decode cX4_hearsAnswer 149 = .ok (.istore 5, 2) := by decide +kernel
theorem dX4_hearsAnswer_151 : decode cX4_hearsAnswer 151 = .ok (.aload_n 0, 1) := by decide +kernel
theorem dX4_hearsAnswer_152 : decode cX4_hearsAnswer 152 = .ok (.getfield 29, 3) := by decide +kernel
theorem dX4_hearsAnswer_155 : decode cX4_hearsAnswer 155 = .ok (.iload 4, 2) := by decide +kernel
theorem dX4_hearsAnswer_157 : decode cX4_hearsAnswer 157 = .ok (.aload_n 0, 1) := by decide +kernel
theorem dX4_hearsAnswer_158 : decode cX4_hearsAnswer 158 = .ok (.getfield 71, 3) := by decide +kernel
theorem dX4_hearsAnswer_161 : decode cX4_hearsAnswer 161 = .ok (.iload_n 3, 1) := by decide +kernel
theorem dX4_hearsAnswer_162 : decode cX4_hearsAnswer 162 = .ok (.iaload, 1) := by decide +kernel
theorem dX4_hearsAnswer_163 : decode cX4_hearsAnswer 163 = .ok (.iconst (-1), 1) := by decide +kernel
theorem dX4_hearsAnswer_164 : decode cX4_hearsAnswer 164 = .ok (.if_icmp .ne 13, 3) := by decide +kernel
theorem dX4_hearsAnswer_167 : decode cX4_hearsAnswer 167 = .ok (.aload_n 0, 1) := by decide +kernel
theorem dX4_hearsAnswer_168 : decode cX4_hearsAnswer 168 = .ok (.getfield 29, 3) := by decide +kernel
theorem dX4_hearsAnswer_171 : decode cX4_hearsAnswer 171 = .ok (.iload 4, 2) := by decide +kernel
theorem dX4_hearsAnswer_173 : decode cX4_hearsAnswer 173 = .ok (.iaload, 1) := by decide +kernel
theorem dX4_hearsAnswer_174 : decode cX4_hearsAnswer 174 = .ok (.goto 18, 3) := by decide +kernel
theorem dX4_hearsAnswer_177 : decode cX4_hearsAnswer 177 = .ok (.iload 5, 2) := by decide +kernel
theorem dX4_hearsAnswer_179 : decode cX4_hearsAnswer 179 = .ok (.ifCond .eq 12, 3) := by decide +kernel
theorem dX4_hearsAnswer_182 : decode cX4_hearsAnswer 182 = .ok (.aload_n 0, 1) := by decide +kernel
theorem dX4_hearsAnswer_183 : decode cX4_hearsAnswer 183 = .ok (.getfield 71, 3) := by decide +kernel
theorem dX4_hearsAnswer_186 : decode cX4_hearsAnswer 186 = .ok (.iload_n 3, 1) := by decide +kernel
theorem dX4_hearsAnswer_187 : decode cX4_hearsAnswer 187 = .ok (.iaload, 1) := by decide +kernel
theorem dX4_hearsAnswer_188 : decode cX4_hearsAnswer 188 = .ok (.goto 4, 3) := by decide +kernel
theorem dX4_hearsAnswer_191 : decode cX4_hearsAnswer 191 = .ok (.iconst (-1), 1) := by decide +kernel
theorem dX4_hearsAnswer_192 : decode cX4_hearsAnswer 192 = .ok (.iastore, 1) := by decide +kernel
theorem dX4_hearsAnswer_193 : decode cX4_hearsAnswer 193 = .ok (.iinc 3 1, 3) := by decide +kernel
theorem dX4_hearsAnswer_196 : decode cX4_hearsAnswer 196 = .ok (.goto (-99), 3) := by decide +kernel
theorem dX4_hearsAnswer_199 : decode cX4_hearsAnswer 199 = .ok (.aload_n 0, 1) := by decide +kernel
theorem dX4_hearsAnswer_200 : decode cX4_hearsAnswer 200 = .ok (.iload_n 1, 1) := by decide +kernel
theorem dX4_hearsAnswer_201 : decode cX4_hearsAnswer 201 = .ok (.invokevirtual 122, 3) := by decide +kernel
theorem dX4_hearsAnswer_204 : decode cX4_hearsAnswer 204 = .ok (.return_, 1) := by decide +kernel
set_option maxRecDepth 20000 in
theorem ggX4_hears_X4_isShut : GoodIn wsX4_hears wsX4_isShut := goodIn_r _ [7, 1, 66, 67, 68, 69, 70, 71, 72, 73, 74, 75, 76, 77, 78, 79, 80, 81, 82, 83, 84, 85, 86, 87, 88, 89, 90, 91, 92, 93, 94] (by decide +kernel) (by decide +kernel)
set_option maxRecDepth 20000 in
theorem gX4_hears_X4_isShut : GoodIn wsX4_hears (wsV RX4 96 RX4 yX4_isShut wsX4_isShut) := goodIn_app (goodIn_of _ (by decide +kernel)) ggX4_hears_X4_isShut
set_option maxRecDepth 20000 in
theorem ggX4_hears_X4_says : GoodIn wsX4_hears wsX4_says := goodIn_r _ [11, 12, 13, 14, 15, 6, 16, 17, 18, 19, 20, 21, 22, 23, 66, 67, 68, 69, 70, 71, 72, 73, 74, 75, 76, 77, 78, 79, 80, 81, 82, 83, 84, 85, 86, 87, 88, 89, 90, 91, 92, 93, 94] (by decide +kernel) (by decide +kernel)
set_option maxRecDepth 20000 in
theorem gX4_hears_X4_says : GoodIn wsX4_hears (wsV RX4 126 RX4 yX4_says wsX4_says) := goodIn_app (goodIn_of _ (by decide +kernel)) ggX4_hears_X4_says
set_option maxRecDepth 20000 in
theorem ggX4_hears_X4_hearsRequest : GoodIn wsX4_hears wsX4_hearsRequest := goodIn_r _ [27, 28, 29, 30, 1, 31, 32, 33, 34, 6, 35, 36, 12, 37, 38, 13, 14, 15, 16, 17, 18, 19, 20, 21, 22, 23, 39, 40, 41, 42, 43, 44, 45, 46, 47, 48, 49, 50, 51, 52, 53, 54, 55, 56, 57, 58, 59, 66, 67, 68, 69, 70, 71, 72, 73, 74, 75, 76, 77, 78, 79, 80, 81, 82, 83, 84, 85, 86, 87, 88, 89, 90, 91, 92, 93, 94] (by decide +kernel) (by decide +kernel)
set_option maxRecDepth 20000 in
theorem gX4_hears_X4_hearsRequest : GoodIn wsX4_hears (wsV RX4 139 RX4 yX4_hearsRequest wsX4_hearsRequest) := goodIn_app (goodIn_of _ (by decide +kernel)) ggX4_hears_X4_hearsRequest
set_option maxRecDepth 20000 in
theorem ggX4_hears_X4_hearsAnswer : GoodIn wsX4_hears wsX4_hearsAnswer := goodIn_r _ [63, 48, 36, 1, 2, 43, 64, 65, 37, 56, 57, 58, 6, 59, 31, 49, 50, 51, 52, 53, 54, 55, 32, 33, 34, 35, 12, 29, 38, 13, 14, 15, 16, 17, 18, 19, 20, 21, 22, 23, 66, 67, 68, 69, 70, 71, 72, 73, 74, 75, 76, 77, 78, 79, 80, 81, 82, 83, 84, 85, 86, 87, 88, 89, 90, 91, 92, 93, 94] (by decide +kernel) (by decide +kernel)
set_option maxRecDepth 20000 in
theorem gX4_hears_X4_hearsAnswer : GoodIn wsX4_hears (wsV RX4 142 RX4 yX4_hearsAnswer wsX4_hearsAnswer) := goodIn_app (goodIn_of _ (by decide +kernel)) ggX4_hears_X4_hearsAnswer
theorem dX4_hears_0 : decode cX4_hears 0 = .ok (.aload_n 0, 1) := by decide +kernel
theorem dX4_hears_1 : decode cX4_hears 1 = .ok (.iload_n 1, 1) := by decide +kernel
theorem dX4_hears_2 : decode cX4_hears 2 = .ok (.invokevirtual 96, 3) := by decide +kernel
theorem dX4_hears_5 : decode cX4_hears 5 = .ok (.ifCond .ne 17, 3) := by decide +kernel
theorem dX4_hears_8 : decode cX4_hears 8 = .ok (.aload_n 0, 1) := by decide +kernel
theorem dX4_hears_9 : decode cX4_hears 9 = .ok (.getfield 35, 3) := by decide +kernel
theorem dX4_hears_12 : decode cX4_hears 12 = .ok (.iload_n 1, 1) := by decide +kernel
theorem dX4_hears_13 : decode cX4_hears 13 = .ok (.iaload, 1) := by decide +kernel
theorem dX4_hears_14 : decode cX4_hears 14 = .ok (.iconst 5, 1) := by decide +kernel
theorem dX4_hears_15 : decode cX4_hears 15 = .ok (.if_icmp .eq 7, 3) := by decide +kernel
theorem dX4_hears_18 : decode cX4_hears 18 = .ok (.iconst 1, 1) := by decide +kernel
theorem dX4_hears_19 : decode cX4_hears 19 = .ok (.goto 4, 3) := by decide +kernel
theorem dX4_hears_22 : decode cX4_hears 22 = .ok (.iconst 0, 1) := by decide +kernel
theorem dX4_hears_23 : decode cX4_hears 23 = .ok (.istore_n 2, 1) := by decide +kernel
theorem dX4_hears_24 : decode cX4_hears 24 = .ok (.aload_n 0, 1) := by decide +kernel
theorem dX4_hears_25 : decode cX4_hears 25 = .ok (.getfield 109, 3) := by decide +kernel
theorem dX4_hears_28 : decode cX4_hears 28 = .ok (.iconst 4, 1) := by decide +kernel
theorem dX4_hears_29 : decode cX4_hears 29 = .ok (.if_icmp .ne 32, 3) := by decide +kernel
theorem dX4_hears_32 : decode cX4_hears 32 = .ok (.aload_n 0, 1) := by decide +kernel
theorem dX4_hears_33 : decode cX4_hears 33 = .ok (.iload_n 1, 1) := by decide +kernel
theorem dX4_hears_34 : decode cX4_hears 34 = .ok (.iconst 5, 1) := by decide +kernel
theorem dX4_hears_35 : decode cX4_hears 35 = .ok (.invokevirtual 126, 3) := by decide +kernel
theorem dX4_hears_38 : decode cX4_hears 38 = .ok (.aload_n 0, 1) := by decide +kernel
theorem dX4_hears_39 : decode cX4_hears 39 = .ok (.getfield 35, 3) := by decide +kernel
theorem dX4_hears_42 : decode cX4_hears 42 = .ok (.iload_n 1, 1) := by decide +kernel
theorem dX4_hears_43 : decode cX4_hears 43 = .ok (.iload_n 2, 1) := by decide +kernel
theorem dX4_hears_44 : decode cX4_hears 44 = .ok (.ifCond .eq 7, 3) := by decide +kernel
theorem dX4_hears_47 : decode cX4_hears 47 = .ok (.iconst 0, 1) := by decide +kernel
theorem dX4_hears_48 : decode cX4_hears 48 = .ok (.goto 9, 3) := by decide +kernel
theorem dX4_hears_51 : decode cX4_hears 51 = .ok (.aload_n 0, 1) := by decide +kernel
theorem dX4_hears_52 : decode cX4_hears 52 = .ok (.getfield 35, 3) := by decide +kernel
theorem dX4_hears_55 : decode cX4_hears 55 = .ok (.iload_n 1, 1) := by decide +kernel
theorem dX4_hears_56 : decode cX4_hears 56 = .ok (.iaload, 1) := by decide +kernel
theorem dX4_hears_57 : decode cX4_hears 57 = .ok (.iastore, 1) := by decide +kernel
theorem dX4_hears_58 : decode cX4_hears 58 = .ok (.goto 68, 3) := by decide +kernel
theorem dX4_hears_61 : decode cX4_hears 61 = .ok (.aload_n 0, 1) := by decide +kernel
theorem dX4_hears_62 : decode cX4_hears 62 = .ok (.getfield 109, 3) := by decide +kernel
theorem dX4_hears_65 : decode cX4_hears 65 = .ok (.iconst 5, 1) := by decide +kernel
theorem dX4_hears_66 : decode cX4_hears 66 = .ok (.if_icmp .ne 32, 3) := by decide +kernel
theorem dX4_hears_69 : decode cX4_hears 69 = .ok (.aload_n 0, 1) := by decide +kernel
theorem dX4_hears_70 : decode cX4_hears 70 = .ok (.getfield 35, 3) := by decide +kernel
theorem dX4_hears_73 : decode cX4_hears 73 = .ok (.iload_n 1, 1) := by decide +kernel
theorem dX4_hears_74 : decode cX4_hears 74 = .ok (.aload_n 0, 1) := by decide +kernel
theorem dX4_hears_75 : decode cX4_hears 75 = .ok (.getfield 35, 3) := by decide +kernel
theorem dX4_hears_78 : decode cX4_hears 78 = .ok (.iload_n 1, 1) := by decide +kernel
theorem dX4_hears_79 : decode cX4_hears 79 = .ok (.iaload, 1) := by decide +kernel
theorem dX4_hears_80 : decode cX4_hears 80 = .ok (.iconst 5, 1) := by decide +kernel
theorem dX4_hears_81 : decode cX4_hears 81 = .ok (.if_icmp .ne 7, 3) := by decide +kernel
theorem dX4_hears_84 : decode cX4_hears 84 = .ok (.iconst 0, 1) := by decide +kernel
theorem dX4_hears_85 : decode cX4_hears 85 = .ok (.goto 9, 3) := by decide +kernel
theorem dX4_hears_88 : decode cX4_hears 88 = .ok (.aload_n 0, 1) := by decide +kernel
theorem dX4_hears_89 : decode cX4_hears 89 = .ok (.getfield 35, 3) := by decide +kernel
theorem dX4_hears_92 : decode cX4_hears 92 = .ok (.iload_n 1, 1) := by decide +kernel
theorem dX4_hears_93 : decode cX4_hears 93 = .ok (.iaload, 1) := by decide +kernel
theorem dX4_hears_94 : decode cX4_hears 94 = .ok (.iastore, 1) := by decide +kernel
theorem dX4_hears_95 : decode cX4_hears 95 = .ok (.goto 31, 3) := by decide +kernel
theorem dX4_hears_98 : decode cX4_hears 98 = .ok (.iload_n 2, 1) := by decide +kernel
theorem dX4_hears_99 : decode cX4_hears 99 = .ok (.ifCond .eq 18, 3) := by decide +kernel
theorem dX4_hears_102 : decode cX4_hears 102 = .ok (.aload_n 0, 1) := by decide +kernel
theorem dX4_hears_103 : decode cX4_hears 103 = .ok (.getfield 109, 3) := by decide +kernel
theorem dX4_hears_106 : decode cX4_hears 106 = .ok (.ifCond .ne 11, 3) := by decide +kernel
theorem dX4_hears_109 : decode cX4_hears 109 = .ok (.aload_n 0, 1) := by decide +kernel
theorem dX4_hears_110 : decode cX4_hears 110 = .ok (.iload_n 1, 1) := by decide +kernel
theorem dX4_hears_111 : decode cX4_hears 111 = .ok (.invokevirtual 139, 3) := by decide +kernel
theorem dX4_hears_114 : decode cX4_hears 114 = .ok (.goto 12, 3) := by decide +kernel
theorem dX4_hears_117 : decode cX4_hears 117 = .ok (.iload_n 2, 1) := by decide +kernel
theorem dX4_hears_118 : decode cX4_hears 118 = .ok (.ifCond .eq 8, 3) := by decide +kernel
theorem dX4_hears_121 : decode cX4_hears 121 = .ok (.aload_n 0, 1) := by decide +kernel
theorem dX4_hears_122 : decode cX4_hears 122 = .ok (.iload_n 1, 1) := by decide +kernel
theorem dX4_hears_123 : decode cX4_hears 123 = .ok (.invokevirtual 142, 3) := by decide +kernel
theorem dX4_hears_126 : decode cX4_hears 126 = .ok (.return_, 1) := by decide +kernel
set_option maxRecDepth 20000 in
theorem ggX4_takesAt_X4_isEnd : GoodIn wsX4_takesAt wsX4_isEnd := goodIn_r _ [5, 6, 7, 4, 8] (by decide +kernel) (by decide +kernel)
set_option maxRecDepth 20000 in
theorem gX4_takesAt_X4_isEnd : GoodIn wsX4_takesAt (va_wsS RX4 85 yX4_isEnd wsX4_isEnd) := goodIn_app (goodIn_of _ (by decide +kernel)) ggX4_takesAt_X4_isEnd
set_option maxRecDepth 20000 in
theorem ggX4_takesAt_X4_can : GoodIn wsX4_takesAt wsX4_can := goodIn_r _ [12, 13, 26, 27, 28, 29, 30, 31, 32, 33, 34, 35, 36, 37, 38, 39, 40, 41, 42, 43, 44, 45, 46, 47, 48, 49, 50, 51, 52, 53, 54] (by decide +kernel) (by decide +kernel)
set_option maxRecDepth 20000 in
theorem gX4_takesAt_X4_can : GoodIn wsX4_takesAt (wsV RX4 99 RX4 yX4_can wsX4_can) := goodIn_app (goodIn_of _ (by decide +kernel)) ggX4_takesAt_X4_can
set_option maxRecDepth 20000 in
theorem ggX4_takesAt_X4_takes : GoodIn wsX4_takesAt wsX4_takes := goodIn_r _ [17, 18, 19, 20, 21, 22, 23, 24, 25, 1, 26, 27, 28, 29, 30, 31, 32, 33, 34, 35, 36, 37, 38, 39, 40, 41, 42, 43, 44, 45, 46, 47, 48, 49, 50, 51, 52, 53, 54] (by decide +kernel) (by decide +kernel)
set_option maxRecDepth 20000 in
theorem gX4_takesAt_X4_takes : GoodIn wsX4_takesAt (wsV RX4 145 RX4 yX4_takes wsX4_takes) := goodIn_app (goodIn_of _ (by decide +kernel)) ggX4_takesAt_X4_takes
theorem dX4_takesAt_0 : decode cX4_takesAt 0 = .ok (.aload_n 0, 1) := by decide +kernel
theorem dX4_takesAt_1 : decode cX4_takesAt 1 = .ok (.iload_n 1, 1) := by decide +kernel
theorem dX4_takesAt_2 : decode cX4_takesAt 2 = .ok (.invokestatic 85, 3) := by decide +kernel
theorem dX4_takesAt_5 : decode cX4_takesAt 5 = .ok (.ifCond .ne 7, 3) := by decide +kernel
theorem dX4_takesAt_8 : decode cX4_takesAt 8 = .ok (.iconst 1, 1) := by decide +kernel
theorem dX4_takesAt_9 : decode cX4_takesAt 9 = .ok (.goto 17, 3) := by decide +kernel
theorem dX4_takesAt_12 : decode cX4_takesAt 12 = .ok (.aload_n 0, 1) := by decide +kernel
theorem dX4_takesAt_13 : decode cX4_takesAt 13 = .ok (.getfield 56, 3) := by decide +kernel
theorem dX4_takesAt_16 : decode cX4_takesAt 16 = .ok (.iload_n 1, 1) := by decide +kernel
theorem dX4_takesAt_17 : decode cX4_takesAt 17 = .ok (.iaload, 1) := by decide +kernel
theorem dX4_takesAt_18 : decode cX4_takesAt 18 = .ok (.ifCond .ne 7, 3) := by decide +kernel
theorem dX4_takesAt_21 : decode cX4_takesAt 21 = .ok (.iconst 2, 1) := by decide +kernel
theorem dX4_takesAt_22 : decode cX4_takesAt 22 = .ok (.goto 4, 3) := by decide +kernel
theorem dX4_takesAt_25 : decode cX4_takesAt 25 = .ok (.iconst 0, 1) := by decide +kernel
theorem dX4_takesAt_26 : decode cX4_takesAt 26 = .ok (.invokevirtual 99, 3) := by decide +kernel
theorem dX4_takesAt_29 : decode cX4_takesAt 29 = .ok (.ifCond .ne 5, 3) := by decide +kernel
theorem dX4_takesAt_32 : decode cX4_takesAt 32 = .ok (.iconst 0, 1) := by decide +kernel
theorem dX4_takesAt_33 : decode cX4_takesAt 33 = .ok (.ireturn, 1) := by decide +kernel
theorem dX4_takesAt_34 : decode cX4_takesAt 34 = .ok (.aload_n 0, 1) := by decide +kernel
theorem dX4_takesAt_35 : decode cX4_takesAt 35 = .ok (.iload_n 1, 1) := by decide +kernel
theorem dX4_takesAt_36 : decode cX4_takesAt 36 = .ok (.invokevirtual 145, 3) := by decide +kernel
theorem dX4_takesAt_39 : decode cX4_takesAt 39 = .ok (.iconst 1, 1) := by decide +kernel
theorem dX4_takesAt_40 : decode cX4_takesAt 40 = .ok (.ireturn, 1) := by decide +kernel
set_option maxRecDepth 20000 in
theorem ggX4_deliver_X4_takesAt : GoodIn wsX4_deliver wsX4_takesAt := goodIn_r _ [6, 7, 8, 9, 5, 10, 11, 12, 13, 14, 15, 16, 17, 18, 19, 20, 21, 22, 23, 1, 24, 25, 26, 27, 28, 29, 86, 87, 88, 89, 90, 91, 92, 93, 94, 95, 96, 97, 98, 99, 100, 101, 102, 103, 104, 105, 106, 107, 108, 109, 110, 111, 112, 113, 114] (by decide +kernel) (by decide +kernel)
set_option maxRecDepth 20000 in
theorem gX4_deliver_X4_takesAt : GoodIn wsX4_deliver (wsV RX4 148 RX4 yX4_takesAt wsX4_takesAt) := goodIn_app (goodIn_of _ (by decide +kernel)) ggX4_deliver_X4_takesAt
set_option maxRecDepth 20000 in
theorem ggX4_deliver_X4_hears : GoodIn wsX4_deliver wsX4_hears := goodIn_r _ [33, 34, 1, 35, 36, 37, 5, 38, 39, 40, 41, 42, 43, 44, 45, 46, 47, 48, 49, 7, 23, 24, 26, 29, 50, 51, 52, 53, 27, 54, 55, 56, 57, 58, 59, 60, 61, 62, 63, 64, 65, 66, 67, 28, 68, 69, 70, 71, 25, 72, 73, 74, 75, 11, 12, 13, 76, 77, 78, 79, 80, 81, 82, 83, 84, 85, 86, 87, 88, 89, 90, 91, 92, 93, 94, 95, 96, 97, 98, 99, 100, 101, 102, 103, 104, 105, 106, 107, 108, 109, 110, 111, 112, 113, 114] (by decide +kernel) (by decide +kernel)
set_option maxRecDepth 20000 in
theorem gX4_deliver_X4_hears : GoodIn wsX4_deliver (wsV RX4 151 RX4 yX4_hears wsX4_hears) := goodIn_app (goodIn_of _ (by decide +kernel)) ggX4_deliver_X4_hears
theorem dX4_deliver_0 : decode cX4_deliver 0 = .ok (.aload_n 0, 1) := by decide +kernel
theorem dX4_deliver_1 : decode cX4_deliver 1 = .ok (.iload_n 1, 1) := by decide +kernel
theorem dX4_deliver_2 : decode cX4_deliver 2 = .ok (.invokevirtual 148, 3) := by decide +kernel
theorem dX4_deliver_5 : decode cX4_deliver 5 = .ok (.ifCond .ne 5, 3) := by decide +kernel
theorem dX4_deliver_8 : decode cX4_deliver 8 = .ok (.iconst 0, 1) := by decide +kernel
theorem dX4_deliver_9 : decode cX4_deliver 9 = .ok (.ireturn, 1) := by decide +kernel
theorem dX4_deliver_10 : decode cX4_deliver 10 = .ok (.aload_n 0, 1) := by decide +kernel
theorem dX4_deliver_11 : decode cX4_deliver 11 = .ok (.getfield 109, 3) := by decide +kernel
theorem dX4_deliver_14 : decode cX4_deliver 14 = .ok (.istore_n 2, 1) := by decide +kernel
theorem dX4_deliver_15 : decode cX4_deliver 15 = .ok (.aload_n 0, 1) := by decide +kernel
theorem dX4_deliver_16 : decode cX4_deliver 16 = .ok (.iload_n 1, 1) := by decide +kernel
theorem dX4_deliver_17 : decode cX4_deliver 17 = .ok (.invokevirtual 151, 3) := by decide +kernel
theorem dX4_deliver_20 : decode cX4_deliver 20 = .ok (.iload_n 2, 1) := by decide +kernel
theorem dX4_deliver_21 : decode cX4_deliver 21 = .ok (.ireturn, 1) := by decide +kernel
set_option maxRecDepth 20000 in
theorem ggX4_lose_X4_takesAt : GoodIn wsX4_lose wsX4_takesAt := goodIn_r _ [6, 7, 8, 9, 5, 10, 11, 12, 13, 14, 15, 16, 17, 18, 19, 20, 21, 22, 23, 1, 24, 25, 26, 27, 28, 29, 30, 31, 32, 33, 34, 35, 36, 37, 38, 39, 40, 41, 42, 43, 44, 45, 46, 47, 48, 49, 50, 51, 52, 53, 54, 55, 56, 57, 58] (by decide +kernel) (by decide +kernel)
set_option maxRecDepth 20000 in
theorem gX4_lose_X4_takesAt : GoodIn wsX4_lose (wsV RX4 148 RX4 yX4_takesAt wsX4_takesAt) := goodIn_app (goodIn_of _ (by decide +kernel)) ggX4_lose_X4_takesAt
theorem dX4_lose_0 : decode cX4_lose 0 = .ok (.aload_n 0, 1) := by decide +kernel
theorem dX4_lose_1 : decode cX4_lose 1 = .ok (.iload_n 1, 1) := by decide +kernel
theorem dX4_lose_2 : decode cX4_lose 2 = .ok (.invokevirtual 148, 3) := by decide +kernel
theorem dX4_lose_5 : decode cX4_lose 5 = .ok (.ifCond .eq 10, 3) := by decide +kernel
theorem dX4_lose_8 : decode cX4_lose 8 = .ok (.aload_n 0, 1) := by decide +kernel
theorem dX4_lose_9 : decode cX4_lose 9 = .ok (.getfield 109, 3) := by decide +kernel
theorem dX4_lose_12 : decode cX4_lose 12 = .ok (.goto 4, 3) := by decide +kernel
theorem dX4_lose_15 : decode cX4_lose 15 = .ok (.iconst 0, 1) := by decide +kernel
theorem dX4_lose_16 : decode cX4_lose 16 = .ok (.ireturn, 1) := by decide +kernel
set_option maxRecDepth 20000 in
theorem ggX4_passes_X4_says : GoodIn wsX4_passes wsX4_says := goodIn_r _ [8, 9, 10, 11, 12, 7, 13, 14, 15, 16, 17, 18, 19, 20, 29, 30, 31, 32, 33, 34, 35, 36, 37, 38, 39, 40, 41, 42, 43, 44, 45, 46, 47, 48, 49, 50, 51, 52, 53, 54, 55, 56, 57] (by decide +kernel) (by decide +kernel)
set_option maxRecDepth 20000 in
theorem gX4_passes_X4_says : GoodIn wsX4_passes (wsV RX4 126 RX4 yX4_says wsX4_says) := goodIn_app (goodIn_of _ (by decide +kernel)) ggX4_passes_X4_says
set_option maxRecDepth 20000 in
theorem ggX4_passes_X4_requests : GoodIn wsX4_passes wsX4_requests := goodIn_r _ [24, 25, 2, 26, 9, 27, 28, 1, 10, 11, 12, 7, 13, 14, 15, 16, 17, 18, 19, 20, 29, 30, 31, 32, 33, 34, 35, 36, 37, 38, 39, 40, 41, 42, 43, 44, 45, 46, 47, 48, 49, 50, 51, 52, 53, 54, 55, 56, 57] (by decide +kernel) (by decide +kernel)
set_option maxRecDepth 20000 in
theorem gX4_passes_X4_requests : GoodIn wsX4_passes (wsV RX4 122 RX4 yX4_requests wsX4_requests) := goodIn_app (goodIn_of _ (by decide +kernel)) ggX4_passes_X4_requests
theorem dX4_passes_0 : decode cX4_passes 0 = .ok (.aload_n 0, 1) := by decide +kernel
theorem dX4_passes_1 : decode cX4_passes 1 = .ok (.getfield 47, 3) := by decide +kernel
theorem dX4_passes_4 : decode cX4_passes 4 = .ok (.iload_n 1, 1) := by decide +kernel
theorem dX4_passes_5 : decode cX4_passes 5 = .ok (.dup2, 1) := by decide +kernel
theorem dX4_passes_6 : decode cX4_passes 6 = .ok (.iaload, 1) := by decide +kernel
theorem dX4_passes_7 : decode cX4_passes 7 = .ok (.iconst 1, 1) := by decide +kernel
theorem dX4_passes_8 : decode cX4_passes 8 = .ok (.isub, 1) := by decide +kernel
theorem dX4_passes_9 : decode cX4_passes 9 = .ok (.iastore, 1) := by decide +kernel
theorem dX4_passes_10 : decode cX4_passes 10 = .ok (.aload_n 0, 1) := by decide +kernel
theorem dX4_passes_11 : decode cX4_passes 11 = .ok (.getfield 47, 3) := by decide +kernel
theorem dX4_passes_14 : decode cX4_passes 14 = .ok (.iload_n 1, 1) := by decide +kernel
theorem dX4_passes_15 : decode cX4_passes 15 = .ok (.iaload, 1) := by decide +kernel
theorem dX4_passes_16 : decode cX4_passes 16 = .ok (.ifCond .le 4, 3) := by decide +kernel
theorem dX4_passes_19 : decode cX4_passes 19 = .ok (.return_, 1) := by decide +kernel
theorem dX4_passes_20 : decode cX4_passes 20 = .ok (.aload_n 0, 1) := by decide +kernel
theorem dX4_passes_21 : decode cX4_passes 21 = .ok (.getfield 35, 3) := by decide +kernel
theorem dX4_passes_24 : decode cX4_passes 24 = .ok (.iload_n 1, 1) := by decide +kernel
theorem dX4_passes_25 : decode cX4_passes 25 = .ok (.iaload, 1) := by decide +kernel
theorem dX4_passes_26 : decode cX4_passes 26 = .ok (.iconst 5, 1) := by decide +kernel
theorem dX4_passes_27 : decode cX4_passes 27 = .ok (.if_icmp .ne 47, 3) := by decide +kernel
theorem dX4_passes_30 : decode cX4_passes 30 = .ok (.aload_n 0, 1) := by decide +kernel
theorem dX4_passes_31 : decode cX4_passes 31 = .ok (.getfield 53, 3) := by decide +kernel
theorem dX4_passes_34 : decode cX4_passes 34 = .ok (.iload_n 1, 1) := by decide +kernel
theorem dX4_passes_35 : decode cX4_passes 35 = .ok (.iaload, 1) := by decide +kernel
theorem dX4_passes_36 : decode cX4_passes 36 = .ok (.iconst 3, 1) := by decide +kernel
theorem dX4_passes_37 : decode cX4_passes 37 = .ok (.if_icmp .ge 29, 3) := by decide +kernel
theorem dX4_passes_40 : decode cX4_passes 40 = .ok (.aload_n 0, 1) := by decide +kernel
theorem dX4_passes_41 : decode cX4_passes 41 = .ok (.getfield 53, 3) := by decide +kernel
theorem dX4_passes_44 : decode cX4_passes 44 = .ok (.iload_n 1, 1) := by decide +kernel
theorem dX4_passes_45 : decode cX4_passes 45 = .ok (.dup2, 1) := by decide +kernel
theorem dX4_passes_46 : decode cX4_passes 46 = .ok (.iaload, 1) := by decide +kernel
theorem dX4_passes_47 : decode cX4_passes 47 = .ok (.iconst 1, 1) := by decide +kernel
theorem dX4_passes_48 : decode cX4_passes 48 = .ok (.iadd, 1) := by decide +kernel
theorem dX4_passes_49 : decode cX4_passes 49 = .ok (.iastore, 1) := by decide +kernel
theorem dX4_passes_50 : decode cX4_passes 50 = .ok (.aload_n 0, 1) := by decide +kernel
theorem dX4_passes_51 : decode cX4_passes 51 = .ok (.iload_n 1, 1) := by decide +kernel
theorem dX4_passes_52 : decode cX4_passes 52 = .ok (.iconst 4, 1) := by decide +kernel
theorem dX4_passes_53 : decode cX4_passes 53 = .ok (.invokevirtual 126, 3) := by decide +kernel
theorem dX4_passes_56 : decode cX4_passes 56 = .ok (.aload_n 0, 1) := by decide +kernel
theorem dX4_passes_57 : decode cX4_passes 57 = .ok (.getfield 47, 3) := by decide +kernel
theorem dX4_passes_60 : decode cX4_passes 60 = .ok (.iload_n 1, 1) := by decide +kernel
theorem dX4_passes_61 : decode cX4_passes 61 = .ok (.iconst 2, 1) := by decide +kernel
theorem dX4_passes_62 : decode cX4_passes 62 = .ok (.iastore, 1) := by decide +kernel
theorem dX4_passes_63 : decode cX4_passes 63 = .ok (.goto 10, 3) := by decide +kernel
theorem dX4_passes_66 : decode cX4_passes 66 = .ok (.aload_n 0, 1) := by decide +kernel
theorem dX4_passes_67 : decode cX4_passes 67 = .ok (.getfield 35, 3) := by decide +kernel
theorem dX4_passes_70 : decode cX4_passes 70 = .ok (.iload_n 1, 1) := by decide +kernel
theorem dX4_passes_71 : decode cX4_passes 71 = .ok (.iconst 0, 1) := by decide +kernel
theorem dX4_passes_72 : decode cX4_passes 72 = .ok (.iastore, 1) := by decide +kernel
theorem dX4_passes_73 : decode cX4_passes 73 = .ok (.return_, 1) := by decide +kernel
theorem dX4_passes_74 : decode cX4_passes 74 = .ok (.aload_n 0, 1) := by decide +kernel
theorem dX4_passes_75 : decode cX4_passes 75 = .ok (.getfield 35, 3) := by decide +kernel
theorem dX4_passes_78 : decode cX4_passes 78 = .ok (.iload_n 1, 1) := by decide +kernel
theorem dX4_passes_79 : decode cX4_passes 79 = .ok (.aload_n 0, 1) := by decide +kernel
theorem dX4_passes_80 : decode cX4_passes 80 = .ok (.getfield 35, 3) := by decide +kernel
theorem dX4_passes_83 : decode cX4_passes 83 = .ok (.iload_n 1, 1) := by decide +kernel
theorem dX4_passes_84 : decode cX4_passes 84 = .ok (.iaload, 1) := by decide +kernel
theorem dX4_passes_85 : decode cX4_passes 85 = .ok (.iconst 2, 1) := by decide +kernel
theorem dX4_passes_86 : decode cX4_passes 86 = .ok (.if_icmp .ne 7, 3) := by decide +kernel
theorem dX4_passes_89 : decode cX4_passes 89 = .ok (.iconst 1, 1) := by decide +kernel
theorem dX4_passes_90 : decode cX4_passes 90 = .ok (.goto 9, 3) := by decide +kernel
theorem dX4_passes_93 : decode cX4_passes 93 = .ok (.aload_n 0, 1) := by decide +kernel
theorem dX4_passes_94 : decode cX4_passes 94 = .ok (.getfield 35, 3) := by decide +kernel
theorem dX4_passes_97 : decode cX4_passes 97 = .ok (.iload_n 1, 1) := by decide +kernel
theorem dX4_passes_98 : decode cX4_passes 98 = .ok (.iaload, 1) := by decide +kernel
theorem dX4_passes_99 : decode cX4_passes 99 = .ok (.iastore, 1) := by decide +kernel
theorem dX4_passes_100 : decode cX4_passes 100 = .ok (.aload_n 0, 1) := by decide +kernel
theorem dX4_passes_101 : decode cX4_passes 101 = .ok (.iload_n 1, 1) := by decide +kernel
theorem dX4_passes_102 : decode cX4_passes 102 = .ok (.invokevirtual 122, 3) := by decide +kernel
theorem dX4_passes_105 : decode cX4_passes 105 = .ok (.return_, 1) := by decide +kernel
set_option maxRecDepth 20000 in
theorem ggX4_tick_X4_isShut : GoodIn wsX4_tick wsX4_isShut := goodIn_r _ [9, 4, 39, 40, 41, 42, 43, 44, 45, 46, 47, 48, 49, 50, 51, 52, 53, 54, 55, 56, 57, 58, 59, 60, 61, 62, 63, 64, 65, 66, 67] (by decide +kernel) (by decide +kernel)
set_option maxRecDepth 20000 in
theorem gX4_tick_X4_isShut : GoodIn wsX4_tick (wsV RX4 96 RX4 yX4_isShut wsX4_isShut) := goodIn_app (goodIn_of _ (by decide +kernel)) ggX4_tick_X4_isShut
set_option maxRecDepth 20000 in
theorem ggX4_tick_X4_passes : GoodIn wsX4_tick wsX4_passes := goodIn_r _ [13, 14, 4, 15, 16, 17, 18, 8, 19, 20, 21, 22, 23, 24, 25, 2, 26, 27, 28, 29, 30, 31, 32, 33, 34, 35, 36, 37, 38, 39, 40, 41, 42, 43, 44, 45, 46, 47, 48, 49, 50, 51, 52, 53, 54, 55, 56, 57, 58, 59, 60, 61, 62, 63, 64, 65, 66, 67] (by decide +kernel) (by decide +kernel)
set_option maxRecDepth 20000 in
theorem gX4_tick_X4_passes : GoodIn wsX4_tick (wsV RX4 157 RX4 yX4_passes wsX4_passes) := goodIn_app (goodIn_of _ (by decide +kernel)) ggX4_tick_X4_passes
theorem dX4_tick_0 : decode cX4_tick 0 = .ok (.aload_n 0, 1) := by decide +kernel
theorem dX4_tick_1 : decode cX4_tick 1 = .ok (.iconst 0, 1) := by decide +kernel
theorem dX4_tick_2 : decode cX4_tick 2 = .ok (.putfield 77, 3) := by decide +kernel
theorem dX4_tick_5 : decode cX4_tick 5 = .ok (.aload_n 0, 1) := by decide +kernel
theorem dX4_tick_6 : decode cX4_tick 6 = .ok (.getfield 106, 3) := by decide +kernel
theorem dX4_tick_9 : decode cX4_tick 9 = .ok (.istore_n 1, 1) := by decide +kernel
theorem dX4_tick_10 : decode cX4_tick 10 = .ok (.aload_n 0, 1) := by decide +kernel
theorem dX4_tick_11 : decode cX4_tick 11 = .ok (.dup, 1) := by decide +kernel
theorem dX4_tick_12 : decode cX4_tick 12 = .ok (.getfield 154, 3) := by decide +kernel
theorem dX4_tick_15 : decode cX4_tick 15 = .ok (.iconst 1, 1) := by decide +kernel
theorem dX4_tick_16 : decode cX4_tick 16 = .ok (.iadd, 1) := by decide +kernel
theorem dX4_tick_17 : decode cX4_tick 17 = .ok (.putfield 154, 3) := by decide +kernel
theorem dX4_tick_20 : decode cX4_tick 20 = .ok (.iconst 0, 1) := by decide +kernel
theorem dX4_tick_21 : decode cX4_tick 21 = .ok (.istore_n 2, 1) := by decide +kernel
theorem dX4_tick_22 : decode cX4_tick 22 = .ok (.iload_n 2, 1) := by decide +kernel
theorem dX4_tick_23 : decode cX4_tick 23 = .ok (.iconst 2, 1) := by decide +kernel
theorem dX4_tick_24 : decode cX4_tick 24 = .ok (.if_icmp .ge 32, 3) := by decide +kernel
theorem dX4_tick_27 : decode cX4_tick 27 = .ok (.aload_n 0, 1) := by decide +kernel
theorem dX4_tick_28 : decode cX4_tick 28 = .ok (.iload_n 2, 1) := by decide +kernel
theorem dX4_tick_29 : decode cX4_tick 29 = .ok (.invokevirtual 96, 3) := by decide +kernel
theorem dX4_tick_32 : decode cX4_tick 32 = .ok (.ifCond .ne 18, 3) := by decide +kernel
theorem dX4_tick_35 : decode cX4_tick 35 = .ok (.aload_n 0, 1) := by decide +kernel
theorem dX4_tick_36 : decode cX4_tick 36 = .ok (.getfield 35, 3) := by decide +kernel
theorem dX4_tick_39 : decode cX4_tick 39 = .ok (.iload_n 2, 1) := by decide +kernel
theorem dX4_tick_40 : decode cX4_tick 40 = .ok (.iaload, 1) := by decide +kernel
theorem dX4_tick_41 : decode cX4_tick 41 = .ok (.iconst 4, 1) := by decide +kernel
theorem dX4_tick_42 : decode cX4_tick 42 = .ok (.if_icmp .eq 8, 3) := by decide +kernel
theorem dX4_tick_45 : decode cX4_tick 45 = .ok (.aload_n 0, 1) := by decide +kernel
theorem dX4_tick_46 : decode cX4_tick 46 = .ok (.iload_n 2, 1) := by decide +kernel
theorem dX4_tick_47 : decode cX4_tick 47 = .ok (.invokevirtual 157, 3) := by decide +kernel
theorem dX4_tick_50 : decode cX4_tick 50 = .ok (.iinc 2 1, 3) := by decide +kernel
theorem dX4_tick_53 : decode cX4_tick 53 = .ok (.goto (-31), 3) := by decide +kernel
theorem dX4_tick_56 : decode cX4_tick 56 = .ok (.aload_n 0, 1) := by decide +kernel
theorem dX4_tick_57 : decode cX4_tick 57 = .ok (.getfield 106, 3) := by decide +kernel
theorem dX4_tick_60 : decode cX4_tick 60 = .ok (.iload_n 1, 1) := by decide +kernel
theorem dX4_tick_61 : decode cX4_tick 61 = .ok (.isub, 1) := by decide +kernel
theorem dX4_tick_62 : decode cX4_tick 62 = .ok (.ireturn, 1) := by decide +kernel
theorem dX4_time_0 : decode cX4_time 0 = .ok (.aload_n 0, 1) := by decide +kernel
theorem dX4_time_1 : decode cX4_time 1 = .ok (.iconst 0, 1) := by decide +kernel
theorem dX4_time_2 : decode cX4_time 2 = .ok (.putfield 77, 3) := by decide +kernel
theorem dX4_time_5 : decode cX4_time 5 = .ok (.aload_n 0, 1) := by decide +kernel
theorem dX4_time_6 : decode cX4_time 6 = .ok (.getfield 154, 3) := by decide +kernel
theorem dX4_time_9 : decode cX4_time 9 = .ok (.ireturn, 1) := by decide +kernel
set_option maxRecDepth 20000 in
theorem ggX4_state_X4_isEnd : GoodIn wsX4_state wsX4_isEnd := goodIn_r _ [5, 6, 7, 4, 8] (by decide +kernel) (by decide +kernel)
set_option maxRecDepth 20000 in
theorem gX4_state_X4_isEnd : GoodIn wsX4_state (va_wsS RX4 85 yX4_isEnd wsX4_isEnd) := goodIn_app (goodIn_of _ (by decide +kernel)) ggX4_state_X4_isEnd
set_option maxRecDepth 20000 in
theorem ggX4_state_X4_can : GoodIn wsX4_state wsX4_can := goodIn_r _ [12, 13, 14, 15, 16, 17, 18, 19, 20, 21, 22, 23, 24, 25, 26, 27, 28, 29, 30, 31, 32, 33, 34, 35, 36, 37, 38, 39, 40, 41, 42] (by decide +kernel) (by decide +kernel)
set_option maxRecDepth 20000 in
theorem gX4_state_X4_can : GoodIn wsX4_state (wsV RX4 99 RX4 yX4_can wsX4_can) := goodIn_app (goodIn_of _ (by decide +kernel)) ggX4_state_X4_can
theorem dX4_state_0 : decode cX4_state 0 = .ok (.aload_n 0, 1) := by decide +kernel
theorem dX4_state_1 : decode cX4_state 1 = .ok (.iload_n 1, 1) := by decide +kernel
theorem dX4_state_2 : decode cX4_state 2 = .ok (.invokestatic 85, 3) := by decide +kernel
theorem dX4_state_5 : decode cX4_state 5 = .ok (.ifCond .eq 7, 3) := by decide +kernel
theorem dX4_state_8 : decode cX4_state 8 = .ok (.iconst 0, 1) := by decide +kernel
theorem dX4_state_9 : decode cX4_state 9 = .ok (.goto 4, 3) := by decide +kernel
theorem dX4_state_12 : decode cX4_state 12 = .ok (.iconst 1, 1) := by decide +kernel
theorem dX4_state_13 : decode cX4_state 13 = .ok (.invokevirtual 99, 3) := by decide +kernel
theorem dX4_state_16 : decode cX4_state 16 = .ok (.ifCond .eq 12, 3) := by decide +kernel
theorem dX4_state_19 : decode cX4_state 19 = .ok (.aload_n 0, 1) := by decide +kernel
theorem dX4_state_20 : decode cX4_state 20 = .ok (.getfield 35, 3) := by decide +kernel
theorem dX4_state_23 : decode cX4_state 23 = .ok (.iload_n 1, 1) := by decide +kernel
theorem dX4_state_24 : decode cX4_state 24 = .ok (.iaload, 1) := by decide +kernel
theorem dX4_state_25 : decode cX4_state 25 = .ok (.goto 4, 3) := by decide +kernel
theorem dX4_state_28 : decode cX4_state 28 = .ok (.iconst 0, 1) := by decide +kernel
theorem dX4_state_29 : decode cX4_state 29 = .ok (.ireturn, 1) := by decide +kernel
set_option maxRecDepth 20000 in
theorem ggX4_tries_X4_isEnd : GoodIn wsX4_tries wsX4_isEnd := goodIn_r _ [5, 6, 7, 4, 8] (by decide +kernel) (by decide +kernel)
set_option maxRecDepth 20000 in
theorem gX4_tries_X4_isEnd : GoodIn wsX4_tries (va_wsS RX4 85 yX4_isEnd wsX4_isEnd) := goodIn_app (goodIn_of _ (by decide +kernel)) ggX4_tries_X4_isEnd
set_option maxRecDepth 20000 in
theorem ggX4_tries_X4_can : GoodIn wsX4_tries wsX4_can := goodIn_r _ [12, 13, 14, 15, 16, 17, 18, 19, 20, 21, 22, 23, 24, 25, 26, 27, 28, 29, 30, 31, 32, 33, 34, 35, 36, 37, 38, 39, 40, 41, 42] (by decide +kernel) (by decide +kernel)
set_option maxRecDepth 20000 in
theorem gX4_tries_X4_can : GoodIn wsX4_tries (wsV RX4 99 RX4 yX4_can wsX4_can) := goodIn_app (goodIn_of _ (by decide +kernel)) ggX4_tries_X4_can
theorem dX4_tries_0 : decode cX4_tries 0 = .ok (.aload_n 0, 1) := by decide +kernel
theorem dX4_tries_1 : decode cX4_tries 1 = .ok (.iload_n 1, 1) := by decide +kernel
theorem dX4_tries_2 : decode cX4_tries 2 = .ok (.invokestatic 85, 3) := by decide +kernel
theorem dX4_tries_5 : decode cX4_tries 5 = .ok (.ifCond .eq 7, 3) := by decide +kernel
theorem dX4_tries_8 : decode cX4_tries 8 = .ok (.iconst 0, 1) := by decide +kernel
theorem dX4_tries_9 : decode cX4_tries 9 = .ok (.goto 4, 3) := by decide +kernel
theorem dX4_tries_12 : decode cX4_tries 12 = .ok (.iconst 1, 1) := by decide +kernel
theorem dX4_tries_13 : decode cX4_tries 13 = .ok (.invokevirtual 99, 3) := by decide +kernel
theorem dX4_tries_16 : decode cX4_tries 16 = .ok (.ifCond .eq 12, 3) := by decide +kernel
theorem dX4_tries_19 : decode cX4_tries 19 = .ok (.aload_n 0, 1) := by decide +kernel
theorem dX4_tries_20 : decode cX4_tries 20 = .ok (.getfield 44, 3) := by decide +kernel
theorem dX4_tries_23 : decode cX4_tries 23 = .ok (.iload_n 1, 1) := by decide +kernel
theorem dX4_tries_24 : decode cX4_tries 24 = .ok (.iaload, 1) := by decide +kernel
theorem dX4_tries_25 : decode cX4_tries 25 = .ok (.goto 4, 3) := by decide +kernel
theorem dX4_tries_28 : decode cX4_tries 28 = .ok (.iconst 0, 1) := by decide +kernel
theorem dX4_tries_29 : decode cX4_tries 29 = .ok (.ireturn, 1) := by decide +kernel
set_option maxRecDepth 20000 in
theorem ggX4_asked_X4_isOption : GoodIn wsX4_asked wsX4_isOption := goodIn_r _ [5, 6, 7, 4, 8, 9, 10, 11] (by decide +kernel) (by decide +kernel)
set_option maxRecDepth 20000 in
theorem gX4_asked_X4_isOption : GoodIn wsX4_asked (va_wsS RX4 89 yX4_isOption wsX4_isOption) := goodIn_app (goodIn_of _ (by decide +kernel)) ggX4_asked_X4_isOption
set_option maxRecDepth 20000 in
theorem ggX4_asked_X4_can : GoodIn wsX4_asked wsX4_can := goodIn_r _ [15, 16, 17, 18, 19, 20, 21, 22, 23, 24, 25, 26, 27, 28, 29, 30, 31, 32, 33, 34, 35, 36, 37, 38, 39, 40, 41, 42, 43, 44, 45] (by decide +kernel) (by decide +kernel)
set_option maxRecDepth 20000 in
theorem gX4_asked_X4_can : GoodIn wsX4_asked (wsV RX4 99 RX4 yX4_can wsX4_can) := goodIn_app (goodIn_of _ (by decide +kernel)) ggX4_asked_X4_can
theorem dX4_asked_0 : decode cX4_asked 0 = .ok (.aload_n 0, 1) := by decide +kernel
theorem dX4_asked_1 : decode cX4_asked 1 = .ok (.iload_n 1, 1) := by decide +kernel
theorem dX4_asked_2 : decode cX4_asked 2 = .ok (.iload_n 2, 1) := by decide +kernel
theorem dX4_asked_3 : decode cX4_asked 3 = .ok (.invokestatic 89, 3) := by decide +kernel
theorem dX4_asked_6 : decode cX4_asked 6 = .ok (.ifCond .eq 7, 3) := by decide +kernel
theorem dX4_asked_9 : decode cX4_asked 9 = .ok (.iconst 0, 1) := by decide +kernel
theorem dX4_asked_10 : decode cX4_asked 10 = .ok (.goto 4, 3) := by decide +kernel
theorem dX4_asked_13 : decode cX4_asked 13 = .ok (.iconst 1, 1) := by decide +kernel
theorem dX4_asked_14 : decode cX4_asked 14 = .ok (.invokevirtual 99, 3) := by decide +kernel
theorem dX4_asked_17 : decode cX4_asked 17 = .ok (.ifCond .eq 16, 3) := by decide +kernel
theorem dX4_asked_20 : decode cX4_asked 20 = .ok (.aload_n 0, 1) := by decide +kernel
theorem dX4_asked_21 : decode cX4_asked 21 = .ok (.getfield 29, 3) := by decide +kernel
theorem dX4_asked_24 : decode cX4_asked 24 = .ok (.iconst 4, 1) := by decide +kernel
theorem dX4_asked_25 : decode cX4_asked 25 = .ok (.iload_n 1, 1) := by decide +kernel
theorem dX4_asked_26 : decode cX4_asked 26 = .ok (.imul, 1) := by decide +kernel
theorem dX4_asked_27 : decode cX4_asked 27 = .ok (.iload_n 2, 1) := by decide +kernel
theorem dX4_asked_28 : decode cX4_asked 28 = .ok (.iadd, 1) := by decide +kernel
theorem dX4_asked_29 : decode cX4_asked 29 = .ok (.iaload, 1) := by decide +kernel
theorem dX4_asked_30 : decode cX4_asked 30 = .ok (.goto 4, 3) := by decide +kernel
theorem dX4_asked_33 : decode cX4_asked 33 = .ok (.iconst 0, 1) := by decide +kernel
theorem dX4_asked_34 : decode cX4_asked 34 = .ok (.ireturn, 1) := by decide +kernel
set_option maxRecDepth 20000 in
theorem ggX4_granted_X4_isOption : GoodIn wsX4_granted wsX4_isOption := goodIn_r _ [6, 7, 8, 5, 9, 10, 11, 12] (by decide +kernel) (by decide +kernel)
set_option maxRecDepth 20000 in
theorem gX4_granted_X4_isOption : GoodIn wsX4_granted (va_wsS RX4 89 yX4_isOption wsX4_isOption) := goodIn_app (goodIn_of _ (by decide +kernel)) ggX4_granted_X4_isOption
set_option maxRecDepth 20000 in
theorem ggX4_granted_X4_can : GoodIn wsX4_granted wsX4_can := goodIn_r _ [16, 17, 18, 19, 20, 21, 22, 23, 24, 25, 26, 27, 28, 29, 30, 31, 32, 33, 34, 35, 36, 37, 38, 39, 40, 41, 42, 43, 44, 45, 46] (by decide +kernel) (by decide +kernel)
set_option maxRecDepth 20000 in
theorem gX4_granted_X4_can : GoodIn wsX4_granted (wsV RX4 99 RX4 yX4_can wsX4_can) := goodIn_app (goodIn_of _ (by decide +kernel)) ggX4_granted_X4_can
theorem dX4_granted_0 : decode cX4_granted 0 = .ok (.aload_n 0, 1) := by decide +kernel
theorem dX4_granted_1 : decode cX4_granted 1 = .ok (.iload_n 1, 1) := by decide +kernel
theorem dX4_granted_2 : decode cX4_granted 2 = .ok (.iload_n 2, 1) := by decide +kernel
theorem dX4_granted_3 : decode cX4_granted 3 = .ok (.invokestatic 89, 3) := by decide +kernel
theorem dX4_granted_6 : decode cX4_granted 6 = .ok (.ifCond .eq 7, 3) := by decide +kernel
theorem dX4_granted_9 : decode cX4_granted 9 = .ok (.iconst 0, 1) := by decide +kernel
theorem dX4_granted_10 : decode cX4_granted 10 = .ok (.goto 4, 3) := by decide +kernel
theorem dX4_granted_13 : decode cX4_granted 13 = .ok (.iconst 1, 1) := by decide +kernel
theorem dX4_granted_14 : decode cX4_granted 14 = .ok (.invokevirtual 99, 3) := by decide +kernel
theorem dX4_granted_17 : decode cX4_granted 17 = .ok (.ifCond .ne 5, 3) := by decide +kernel
theorem dX4_granted_20 : decode cX4_granted 20 = .ok (.iconst 0, 1) := by decide +kernel
theorem dX4_granted_21 : decode cX4_granted 21 = .ok (.ireturn, 1) := by decide +kernel
theorem dX4_granted_22 : decode cX4_granted 22 = .ok (.aload_n 0, 1) := by decide +kernel
theorem dX4_granted_23 : decode cX4_granted 23 = .ok (.getfield 35, 3) := by decide +kernel
theorem dX4_granted_26 : decode cX4_granted 26 = .ok (.iload_n 1, 1) := by decide +kernel
theorem dX4_granted_27 : decode cX4_granted 27 = .ok (.iaload, 1) := by decide +kernel
theorem dX4_granted_28 : decode cX4_granted 28 = .ok (.iconst 2, 1) := by decide +kernel
theorem dX4_granted_29 : decode cX4_granted 29 = .ok (.if_icmp .eq 13, 3) := by decide +kernel
theorem dX4_granted_32 : decode cX4_granted 32 = .ok (.aload_n 0, 1) := by decide +kernel
theorem dX4_granted_33 : decode cX4_granted 33 = .ok (.getfield 35, 3) := by decide +kernel
theorem dX4_granted_36 : decode cX4_granted 36 = .ok (.iload_n 1, 1) := by decide +kernel
theorem dX4_granted_37 : decode cX4_granted 37 = .ok (.iaload, 1) := by decide +kernel
theorem dX4_granted_38 : decode cX4_granted 38 = .ok (.iconst 4, 1) := by decide +kernel
theorem dX4_granted_39 : decode cX4_granted 39 = .ok (.if_icmp .ne 16, 3) := by decide +kernel
theorem dX4_granted_42 : decode cX4_granted 42 = .ok (.aload_n 0, 1) := by decide +kernel
theorem dX4_granted_43 : decode cX4_granted 43 = .ok (.getfield 29, 3) := by decide +kernel
theorem dX4_granted_46 : decode cX4_granted 46 = .ok (.iconst 4, 1) := by decide +kernel
theorem dX4_granted_47 : decode cX4_granted 47 = .ok (.iload_n 1, 1) := by decide +kernel
theorem dX4_granted_48 : decode cX4_granted 48 = .ok (.imul, 1) := by decide +kernel
theorem dX4_granted_49 : decode cX4_granted 49 = .ok (.iload_n 2, 1) := by decide +kernel
theorem dX4_granted_50 : decode cX4_granted 50 = .ok (.iadd, 1) := by decide +kernel
theorem dX4_granted_51 : decode cX4_granted 51 = .ok (.iaload, 1) := by decide +kernel
theorem dX4_granted_52 : decode cX4_granted 52 = .ok (.goto 4, 3) := by decide +kernel
theorem dX4_granted_55 : decode cX4_granted 55 = .ok (.iconst (-1), 1) := by decide +kernel
theorem dX4_granted_56 : decode cX4_granted 56 = .ok (.ireturn, 1) := by decide +kernel
set_option maxRecDepth 20000 in
theorem ggX4_allowed_X4_isOption : GoodIn wsX4_allowed wsX4_isOption := goodIn_r _ [6, 7, 8, 5, 9, 10, 11, 12] (by decide +kernel) (by decide +kernel)
set_option maxRecDepth 20000 in
theorem gX4_allowed_X4_isOption : GoodIn wsX4_allowed (va_wsS RX4 89 yX4_isOption wsX4_isOption) := goodIn_app (goodIn_of _ (by decide +kernel)) ggX4_allowed_X4_isOption
set_option maxRecDepth 20000 in
theorem ggX4_allowed_X4_can : GoodIn wsX4_allowed wsX4_can := goodIn_r _ [16, 17, 18, 19, 20, 21, 22, 23, 24, 25, 26, 27, 28, 29, 30, 31, 32, 33, 34, 35, 36, 37, 38, 39, 40, 41, 42, 43, 44, 45, 46] (by decide +kernel) (by decide +kernel)
set_option maxRecDepth 20000 in
theorem gX4_allowed_X4_can : GoodIn wsX4_allowed (wsV RX4 99 RX4 yX4_can wsX4_can) := goodIn_app (goodIn_of _ (by decide +kernel)) ggX4_allowed_X4_can
theorem dX4_allowed_0 : decode cX4_allowed 0 = .ok (.aload_n 0, 1) := by decide +kernel
theorem dX4_allowed_1 : decode cX4_allowed 1 = .ok (.iload_n 1, 1) := by decide +kernel
theorem dX4_allowed_2 : decode cX4_allowed 2 = .ok (.iload_n 2, 1) := by decide +kernel
theorem dX4_allowed_3 : decode cX4_allowed 3 = .ok (.invokestatic 89, 3) := by decide +kernel
theorem dX4_allowed_6 : decode cX4_allowed 6 = .ok (.ifCond .eq 7, 3) := by decide +kernel
theorem dX4_allowed_9 : decode cX4_allowed 9 = .ok (.iconst 0, 1) := by decide +kernel
theorem dX4_allowed_10 : decode cX4_allowed 10 = .ok (.goto 4, 3) := by decide +kernel
theorem dX4_allowed_13 : decode cX4_allowed 13 = .ok (.iconst 1, 1) := by decide +kernel
theorem dX4_allowed_14 : decode cX4_allowed 14 = .ok (.invokevirtual 99, 3) := by decide +kernel
theorem dX4_allowed_17 : decode cX4_allowed 17 = .ok (.ifCond .ne 5, 3) := by decide +kernel
theorem dX4_allowed_20 : decode cX4_allowed 20 = .ok (.iconst 0, 1) := by decide +kernel
theorem dX4_allowed_21 : decode cX4_allowed 21 = .ok (.ireturn, 1) := by decide +kernel
theorem dX4_allowed_22 : decode cX4_allowed 22 = .ok (.aload_n 0, 1) := by decide +kernel
theorem dX4_allowed_23 : decode cX4_allowed 23 = .ok (.getfield 35, 3) := by decide +kernel
theorem dX4_allowed_26 : decode cX4_allowed 26 = .ok (.iload_n 1, 1) := by decide +kernel
theorem dX4_allowed_27 : decode cX4_allowed 27 = .ok (.iaload, 1) := by decide +kernel
theorem dX4_allowed_28 : decode cX4_allowed 28 = .ok (.iconst 3, 1) := by decide +kernel
theorem dX4_allowed_29 : decode cX4_allowed 29 = .ok (.if_icmp .eq 13, 3) := by decide +kernel
theorem dX4_allowed_32 : decode cX4_allowed 32 = .ok (.aload_n 0, 1) := by decide +kernel
theorem dX4_allowed_33 : decode cX4_allowed 33 = .ok (.getfield 35, 3) := by decide +kernel
theorem dX4_allowed_36 : decode cX4_allowed 36 = .ok (.iload_n 1, 1) := by decide +kernel
theorem dX4_allowed_37 : decode cX4_allowed 37 = .ok (.iaload, 1) := by decide +kernel
theorem dX4_allowed_38 : decode cX4_allowed 38 = .ok (.iconst 4, 1) := by decide +kernel
theorem dX4_allowed_39 : decode cX4_allowed 39 = .ok (.if_icmp .ne 16, 3) := by decide +kernel
theorem dX4_allowed_42 : decode cX4_allowed 42 = .ok (.aload_n 0, 1) := by decide +kernel
theorem dX4_allowed_43 : decode cX4_allowed 43 = .ok (.getfield 32, 3) := by decide +kernel
theorem dX4_allowed_46 : decode cX4_allowed 46 = .ok (.iconst 4, 1) := by decide +kernel
theorem dX4_allowed_47 : decode cX4_allowed 47 = .ok (.iload_n 1, 1) := by decide +kernel
theorem dX4_allowed_48 : decode cX4_allowed 48 = .ok (.imul, 1) := by decide +kernel
theorem dX4_allowed_49 : decode cX4_allowed 49 = .ok (.iload_n 2, 1) := by decide +kernel
theorem dX4_allowed_50 : decode cX4_allowed 50 = .ok (.iadd, 1) := by decide +kernel
theorem dX4_allowed_51 : decode cX4_allowed 51 = .ok (.iaload, 1) := by decide +kernel
theorem dX4_allowed_52 : decode cX4_allowed 52 = .ok (.goto 4, 3) := by decide +kernel
theorem dX4_allowed_55 : decode cX4_allowed 55 = .ok (.iconst (-1), 1) := by decide +kernel
theorem dX4_allowed_56 : decode cX4_allowed 56 = .ok (.ireturn, 1) := by decide +kernel
set_option maxRecDepth 20000 in
theorem ggX4_waiting_X4_isEnd : GoodIn wsX4_waiting wsX4_isEnd := goodIn_r _ [5, 6, 7, 4, 8] (by decide +kernel) (by decide +kernel)
set_option maxRecDepth 20000 in
theorem gX4_waiting_X4_isEnd : GoodIn wsX4_waiting (va_wsS RX4 85 yX4_isEnd wsX4_isEnd) := goodIn_app (goodIn_of _ (by decide +kernel)) ggX4_waiting_X4_isEnd
set_option maxRecDepth 20000 in
theorem ggX4_waiting_X4_can : GoodIn wsX4_waiting wsX4_can := goodIn_r _ [12, 13, 14, 15, 16, 17, 18, 19, 20, 21, 22, 23, 24, 25, 26, 27, 28, 29, 30, 31, 32, 33, 34, 35, 36, 37, 38, 39, 40, 41, 42] (by decide +kernel) (by decide +kernel)
set_option maxRecDepth 20000 in
theorem gX4_waiting_X4_can : GoodIn wsX4_waiting (wsV RX4 99 RX4 yX4_can wsX4_can) := goodIn_app (goodIn_of _ (by decide +kernel)) ggX4_waiting_X4_can
theorem dX4_waiting_0 : decode cX4_waiting 0 = .ok (.aload_n 0, 1) := by decide +kernel
theorem dX4_waiting_1 : decode cX4_waiting 1 = .ok (.iload_n 1, 1) := by decide +kernel
theorem dX4_waiting_2 : decode cX4_waiting 2 = .ok (.invokestatic 85, 3) := by decide +kernel
theorem dX4_waiting_5 : decode cX4_waiting 5 = .ok (.ifCond .eq 7, 3) := by decide +kernel
theorem dX4_waiting_8 : decode cX4_waiting 8 = .ok (.iconst 0, 1) := by decide +kernel
theorem dX4_waiting_9 : decode cX4_waiting 9 = .ok (.goto 4, 3) := by decide +kernel
theorem dX4_waiting_12 : decode cX4_waiting 12 = .ok (.iconst 1, 1) := by decide +kernel
theorem dX4_waiting_13 : decode cX4_waiting 13 = .ok (.invokevirtual 99, 3) := by decide +kernel
theorem dX4_waiting_16 : decode cX4_waiting 16 = .ok (.ifCond .eq 12, 3) := by decide +kernel
theorem dX4_waiting_19 : decode cX4_waiting 19 = .ok (.aload_n 0, 1) := by decide +kernel
theorem dX4_waiting_20 : decode cX4_waiting 20 = .ok (.getfield 56, 3) := by decide +kernel
theorem dX4_waiting_23 : decode cX4_waiting 23 = .ok (.iload_n 1, 1) := by decide +kernel
theorem dX4_waiting_24 : decode cX4_waiting 24 = .ok (.iaload, 1) := by decide +kernel
theorem dX4_waiting_25 : decode cX4_waiting 25 = .ok (.goto 4, 3) := by decide +kernel
theorem dX4_waiting_28 : decode cX4_waiting 28 = .ok (.iconst 0, 1) := by decide +kernel
theorem dX4_waiting_29 : decode cX4_waiting 29 = .ok (.ireturn, 1) := by decide +kernel
set_option maxRecDepth 20000 in
theorem ggX4_kindAt_X4_isEnd : GoodIn wsX4_kindAt wsX4_isEnd := goodIn_r _ [6, 7, 8, 5, 9] (by decide +kernel) (by decide +kernel)
set_option maxRecDepth 20000 in
theorem gX4_kindAt_X4_isEnd : GoodIn wsX4_kindAt (va_wsS RX4 85 yX4_isEnd wsX4_isEnd) := goodIn_app (goodIn_of _ (by decide +kernel)) ggX4_kindAt_X4_isEnd
set_option maxRecDepth 20000 in
theorem ggX4_kindAt_X4_isIn : GoodIn wsX4_kindAt wsX4_isIn := goodIn_r _ [9] (by decide +kernel) (by decide +kernel)
set_option maxRecDepth 20000 in
theorem gX4_kindAt_X4_isIn : GoodIn wsX4_kindAt (va_wsS RX4 81 yX4_isIn wsX4_isIn) := goodIn_app (goodIn_of _ (by decide +kernel)) ggX4_kindAt_X4_isIn
set_option maxRecDepth 20000 in
theorem ggX4_kindAt_X4_can : GoodIn wsX4_kindAt wsX4_can := goodIn_r _ [13, 14, 15, 16, 17, 18, 19, 20, 21, 22, 23, 24, 25, 26, 27, 28, 29, 30, 31, 32, 33, 34, 35, 36, 37, 38, 39, 40, 41, 42, 43] (by decide +kernel) (by decide +kernel)
set_option maxRecDepth 20000 in
theorem gX4_kindAt_X4_can : GoodIn wsX4_kindAt (wsV RX4 99 RX4 yX4_can wsX4_can) := goodIn_app (goodIn_of _ (by decide +kernel)) ggX4_kindAt_X4_can
theorem dX4_kindAt_0 : decode cX4_kindAt 0 = .ok (.aload_n 0, 1) := by decide +kernel
theorem dX4_kindAt_1 : decode cX4_kindAt 1 = .ok (.iload_n 1, 1) := by decide +kernel
theorem dX4_kindAt_2 : decode cX4_kindAt 2 = .ok (.invokestatic 85, 3) := by decide +kernel
theorem dX4_kindAt_5 : decode cX4_kindAt 5 = .ok (.ifCond .ne 7, 3) := by decide +kernel
theorem dX4_kindAt_8 : decode cX4_kindAt 8 = .ok (.iconst 1, 1) := by decide +kernel
theorem dX4_kindAt_9 : decode cX4_kindAt 9 = .ok (.goto 24, 3) := by decide +kernel
theorem dX4_kindAt_12 : decode cX4_kindAt 12 = .ok (.iload_n 2, 1) := by decide +kernel
theorem dX4_kindAt_13 : decode cX4_kindAt 13 = .ok (.iconst 0, 1) := by decide +kernel
theorem dX4_kindAt_14 : decode cX4_kindAt 14 = .ok (.aload_n 0, 1) := by decide +kernel
theorem dX4_kindAt_15 : decode cX4_kindAt 15 = .ok (.getfield 56, 3) := by decide +kernel
theorem dX4_kindAt_18 : decode cX4_kindAt 18 = .ok (.iload_n 1, 1) := by decide +kernel
theorem dX4_kindAt_19 : decode cX4_kindAt 19 = .ok (.iaload, 1) := by decide +kernel
theorem dX4_kindAt_20 : decode cX4_kindAt 20 = .ok (.iconst 1, 1) := by decide +kernel
theorem dX4_kindAt_21 : decode cX4_kindAt 21 = .ok (.isub, 1) := by decide +kernel
theorem dX4_kindAt_22 : decode cX4_kindAt 22 = .ok (.invokestatic 81, 3) := by decide +kernel
theorem dX4_kindAt_25 : decode cX4_kindAt 25 = .ok (.ifCond .eq 7, 3) := by decide +kernel
theorem dX4_kindAt_28 : decode cX4_kindAt 28 = .ok (.iconst 0, 1) := by decide +kernel
theorem dX4_kindAt_29 : decode cX4_kindAt 29 = .ok (.goto 4, 3) := by decide +kernel
theorem dX4_kindAt_32 : decode cX4_kindAt 32 = .ok (.iconst 2, 1) := by decide +kernel
theorem dX4_kindAt_33 : decode cX4_kindAt 33 = .ok (.invokevirtual 99, 3) := by decide +kernel
theorem dX4_kindAt_36 : decode cX4_kindAt 36 = .ok (.ifCond .eq 17, 3) := by decide +kernel
theorem dX4_kindAt_39 : decode cX4_kindAt 39 = .ok (.aload_n 0, 1) := by decide +kernel
theorem dX4_kindAt_40 : decode cX4_kindAt 40 = .ok (.getfield 59, 3) := by decide +kernel
theorem dX4_kindAt_43 : decode cX4_kindAt 43 = .ok (.bipush 12, 2) := by decide +kernel
theorem dX4_kindAt_45 : decode cX4_kindAt 45 = .ok (.iload_n 1, 1) := by decide +kernel
theorem dX4_kindAt_46 : decode cX4_kindAt 46 = .ok (.imul, 1) := by decide +kernel
theorem dX4_kindAt_47 : decode cX4_kindAt 47 = .ok (.iload_n 2, 1) := by decide +kernel
theorem dX4_kindAt_48 : decode cX4_kindAt 48 = .ok (.iadd, 1) := by decide +kernel
theorem dX4_kindAt_49 : decode cX4_kindAt 49 = .ok (.iaload, 1) := by decide +kernel
theorem dX4_kindAt_50 : decode cX4_kindAt 50 = .ok (.goto 4, 3) := by decide +kernel
theorem dX4_kindAt_53 : decode cX4_kindAt 53 = .ok (.iconst 0, 1) := by decide +kernel
theorem dX4_kindAt_54 : decode cX4_kindAt 54 = .ok (.ireturn, 1) := by decide +kernel
theorem dX4_word_0 : decode cX4_word 0 = .ok (.iload_n 0, 1) := by decide +kernel
theorem dX4_word_1 : decode cX4_word 1 = .ok (.i2l, 1) := by decide +kernel
theorem dX4_word_2 : decode cX4_word 2 = .ok (.iload_n 1, 1) := by decide +kernel
theorem dX4_word_3 : decode cX4_word 3 = .ok (.i2l, 1) := by decide +kernel
theorem dX4_word_4 : decode cX4_word 4 = .ok (.bipush 7, 2) := by decide +kernel
theorem dX4_word_6 : decode cX4_word 6 = .ok (.lshl, 1) := by decide +kernel
theorem dX4_word_7 : decode cX4_word 7 = .ok (.lor, 1) := by decide +kernel
theorem dX4_word_8 : decode cX4_word 8 = .ok (.iload_n 2, 1) := by decide +kernel
theorem dX4_word_9 : decode cX4_word 9 = .ok (.i2l, 1) := by decide +kernel
theorem dX4_word_10 : decode cX4_word 10 = .ok (.bipush 14, 2) := by decide +kernel
theorem dX4_word_12 : decode cX4_word 12 = .ok (.lshl, 1) := by decide +kernel
theorem dX4_word_13 : decode cX4_word 13 = .ok (.lor, 1) := by decide +kernel
theorem dX4_word_14 : decode cX4_word 14 = .ok (.iload_n 3, 1) := by decide +kernel
theorem dX4_word_15 : decode cX4_word 15 = .ok (.i2l, 1) := by decide +kernel
theorem dX4_word_16 : decode cX4_word 16 = .ok (.bipush 21, 2) := by decide +kernel
theorem dX4_word_18 : decode cX4_word 18 = .ok (.lshl, 1) := by decide +kernel
theorem dX4_word_19 : decode cX4_word 19 = .ok (.lor, 1) := by decide +kernel
theorem dX4_word_20 : decode cX4_word 20 = .ok (.iload 4, 2) := by decide +kernel
theorem dX4_word_22 : decode cX4_word 22 = .ok (.i2l, 1) := by decide +kernel
theorem dX4_word_23 : decode cX4_word 23 = .ok (.bipush 28, 2) := by decide +kernel
theorem dX4_word_25 : decode cX4_word 25 = .ok (.lshl, 1) := by decide +kernel
theorem dX4_word_26 : decode cX4_word 26 = .ok (.lor, 1) := by decide +kernel
theorem dX4_word_27 : decode cX4_word 27 = .ok (.iload 5, 2) := by decide +kernel
theorem dX4_word_29 : decode cX4_word 29 = .ok (.i2l, 1) := by decide +kernel
theorem dX4_word_30 : decode cX4_word 30 = .ok (.bipush 35, 2) := by decide +kernel
theorem dX4_word_32 : decode cX4_word 32 = .ok (.lshl, 1) := by decide +kernel
theorem dX4_word_33 : decode cX4_word 33 = .ok (.lor, 1) := by decide +kernel
theorem dX4_word_34 : decode cX4_word 34 = .ok (.iload 6, 2) := by decide +kernel
theorem dX4_word_36 : decode cX4_word 36 = .ok (.i2l, 1) := by decide +kernel
theorem dX4_word_37 : decode cX4_word 37 = .ok (.bipush 42, 2) := by decide +kernel
theorem dX4_word_39 : decode cX4_word 39 = .ok (.lshl, 1) := by decide +kernel
theorem dX4_word_40 : decode cX4_word 40 = .ok (.lor, 1) := by decide +kernel
theorem dX4_word_41 : decode cX4_word 41 = .ok (.lreturn, 1) := by decide +kernel
set_option maxRecDepth 20000 in
theorem ggX4_wordOf_X4_word : GoodIn wsX4_wordOf wsX4_word := goodIn_r _ [4] (by decide +kernel) (by decide +kernel)
set_option maxRecDepth 20000 in
theorem gX4_wordOf_X4_word : GoodIn wsX4_wordOf (va_wsS RX4 160 yX4_word wsX4_word) := goodIn_app (goodIn_of _ (by decide +kernel)) ggX4_wordOf_X4_word
theorem dX4_wordOf_0 : decode cX4_wordOf 0 = .ok (.iload_n 0, 1) := by decide +kernel
theorem dX4_wordOf_1 : decode cX4_wordOf 1 = .ok (.iconst 3, 1) := by decide +kernel
theorem dX4_wordOf_2 : decode cX4_wordOf 2 = .ok (.if_icmp .ge 66, 3) := by decide +kernel
theorem dX4_wordOf_5 : decode cX4_wordOf 5 = .ok (.iload_n 0, 1) := by decide +kernel
theorem dX4_wordOf_6 : decode cX4_wordOf 6 = .ok (.ifCond .ne 22, 3) := by decide +kernel
theorem dX4_wordOf_9 : decode cX4_wordOf 9 = .ok (.bipush 99, 2) := by decide +kernel
theorem dX4_wordOf_11 : decode cX4_wordOf 11 = .ok (.bipush 108, 2) := by decide +kernel
theorem dX4_wordOf_13 : decode cX4_wordOf 13 = .ok (.bipush 111, 2) := by decide +kernel
theorem dX4_wordOf_15 : decode cX4_wordOf 15 = .ok (.bipush 115, 2) := by decide +kernel
theorem dX4_wordOf_17 : decode cX4_wordOf 17 = .ok (.bipush 101, 2) := by decide +kernel
theorem dX4_wordOf_19 : decode cX4_wordOf 19 = .ok (.bipush 100, 2) := by decide +kernel
theorem dX4_wordOf_21 : decode cX4_wordOf 21 = .ok (.iconst 0, 1) := by decide +kernel
theorem dX4_wordOf_22 : decode cX4_wordOf 22 = .ok (.invokestatic 160, 3) := by decide +kernel
theorem dX4_wordOf_25 : decode cX4_wordOf 25 = .ok (.goto 42, 3) := by decide +kernel
theorem dX4_wordOf_28 : decode cX4_wordOf 28 = .ok (.iload_n 0, 1) := by decide +kernel
theorem dX4_wordOf_29 : decode cX4_wordOf 29 = .ok (.iconst 1, 1) := by decide +kernel
theorem dX4_wordOf_30 : decode cX4_wordOf 30 = .ok (.if_icmp .ne 22, 3) := by decide +kernel
theorem dX4_wordOf_33 : decode cX4_wordOf 33 = .ok (.bipush 97, 2) := by decide +kernel
theorem dX4_wordOf_35 : decode cX4_wordOf 35 = .ok (.bipush 115, 2) := by decide +kernel
theorem dX4_wordOf_37 : decode cX4_wordOf 37 = .ok (.bipush 107, 2) := by decide +kernel
theorem dX4_wordOf_39 : decode cX4_wordOf 39 = .ok (.bipush 105, 2) := by decide +kernel
theorem dX4_wordOf_41 : decode cX4_wordOf 41 = .ok (.bipush 110, 2) := by decide +kernel
theorem dX4_wordOf_43 : decode cX4_wordOf 43 = .ok (.bipush 103, 2) := by decide +kernel
theorem dX4_wordOf_45 : decode cX4_wordOf 45 = .ok (.iconst 0, 1) := by decide +kernel
theorem dX4_wordOf_46 : decode cX4_wordOf 46 = .ok (.invokestatic 160, 3) := by decide +kernel
theorem dX4_wordOf_49 : decode cX4_wordOf 49 = .ok (.goto 18, 3) := by decide +kernel
theorem dX4_wordOf_52 : decode cX4_wordOf 52 = .ok (.bipush 104, 2) := by decide +kernel
theorem dX4_wordOf_54 : decode cX4_wordOf 54 = .ok (.bipush 101, 2) := by decide +kernel
theorem dX4_wordOf_56 : decode cX4_wordOf 56 = .ok (.bipush 97, 2) := by decide +kernel
theorem dX4_wordOf_58 : decode cX4_wordOf 58 = .ok (.bipush 114, 2) := by decide +kernel
theorem dX4_wordOf_60 : decode cX4_wordOf 60 = .ok (.bipush 100, 2) := by decide +kernel
theorem dX4_wordOf_62 : decode cX4_wordOf 62 = .ok (.iconst 0, 1) := by decide +kernel
theorem dX4_wordOf_63 : decode cX4_wordOf 63 = .ok (.iconst 0, 1) := by decide +kernel
theorem dX4_wordOf_64 : decode cX4_wordOf 64 = .ok (.invokestatic 160, 3) := by decide +kernel
theorem dX4_wordOf_67 : decode cX4_wordOf 67 = .ok (.lreturn, 1) := by decide +kernel
theorem dX4_wordOf_68 : decode cX4_wordOf 68 = .ok (.iload_n 0, 1) := by decide +kernel
theorem dX4_wordOf_69 : decode cX4_wordOf 69 = .ok (.iconst 5, 1) := by decide +kernel
theorem dX4_wordOf_70 : decode cX4_wordOf 70 = .ok (.if_icmp .ge 42, 3) := by decide +kernel
theorem dX4_wordOf_73 : decode cX4_wordOf 73 = .ok (.iload_n 0, 1) := by decide +kernel
theorem dX4_wordOf_74 : decode cX4_wordOf 74 = .ok (.iconst 3, 1) := by decide +kernel
theorem dX4_wordOf_75 : decode cX4_wordOf 75 = .ok (.if_icmp .ne 20, 3) := by decide +kernel
theorem dX4_wordOf_78 : decode cX4_wordOf 78 = .ok (.bipush 116, 2) := by decide +kernel
theorem dX4_wordOf_80 : decode cX4_wordOf 80 = .ok (.bipush 111, 2) := by decide +kernel
theorem dX4_wordOf_82 : decode cX4_wordOf 82 = .ok (.bipush 108, 2) := by decide +kernel
theorem dX4_wordOf_84 : decode cX4_wordOf 84 = .ok (.bipush 100, 2) := by decide +kernel
theorem dX4_wordOf_86 : decode cX4_wordOf 86 = .ok (.iconst 0, 1) := by decide +kernel
theorem dX4_wordOf_87 : decode cX4_wordOf 87 = .ok (.iconst 0, 1) := by decide +kernel
theorem dX4_wordOf_88 : decode cX4_wordOf 88 = .ok (.iconst 0, 1) := by decide +kernel
theorem dX4_wordOf_89 : decode cX4_wordOf 89 = .ok (.invokestatic 160, 3) := by decide +kernel
theorem dX4_wordOf_92 : decode cX4_wordOf 92 = .ok (.goto 19, 3) := by decide +kernel
theorem dX4_wordOf_95 : decode cX4_wordOf 95 = .ok (.bipush 111, 2) := by decide +kernel
theorem dX4_wordOf_97 : decode cX4_wordOf 97 = .ok (.bipush 112, 2) := by decide +kernel
theorem dX4_wordOf_99 : decode cX4_wordOf 99 = .ok (.bipush 101, 2) := by decide +kernel
theorem dX4_wordOf_101 : decode cX4_wordOf 101 = .ok (.bipush 110, 2) := by decide +kernel
theorem dX4_wordOf_103 : decode cX4_wordOf 103 = .ok (.bipush 101, 2) := by decide +kernel
theorem dX4_wordOf_105 : decode cX4_wordOf 105 = .ok (.bipush 100, 2) := by decide +kernel
theorem dX4_wordOf_107 : decode cX4_wordOf 107 = .ok (.iconst 0, 1) := by decide +kernel
theorem dX4_wordOf_108 : decode cX4_wordOf 108 = .ok (.invokestatic 160, 3) := by decide +kernel
theorem dX4_wordOf_111 : decode cX4_wordOf 111 = .ok (.lreturn, 1) := by decide +kernel
theorem dX4_wordOf_112 : decode cX4_wordOf 112 = .ok (.iload_n 0, 1) := by decide +kernel
theorem dX4_wordOf_113 : decode cX4_wordOf 113 = .ok (.iconst 5, 1) := by decide +kernel
theorem dX4_wordOf_114 : decode cX4_wordOf 114 = .ok (.if_icmp .ne 23, 3) := by decide +kernel
theorem dX4_wordOf_117 : decode cX4_wordOf 117 = .ok (.bipush 99, 2) := by decide +kernel
theorem dX4_wordOf_119 : decode cX4_wordOf 119 = .ok (.bipush 108, 2) := by decide +kernel
theorem dX4_wordOf_121 : decode cX4_wordOf 121 = .ok (.bipush 111, 2) := by decide +kernel
theorem dX4_wordOf_123 : decode cX4_wordOf 123 = .ok (.bipush 115, 2) := by decide +kernel
theorem dX4_wordOf_125 : decode cX4_wordOf 125 = .ok (.bipush 105, 2) := by decide +kernel
theorem dX4_wordOf_127 : decode cX4_wordOf 127 = .ok (.bipush 110, 2) := by decide +kernel
theorem dX4_wordOf_129 : decode cX4_wordOf 129 = .ok (.bipush 103, 2) := by decide +kernel
theorem dX4_wordOf_131 : decode cX4_wordOf 131 = .ok (.invokestatic 160, 3) := by decide +kernel
theorem dX4_wordOf_134 : decode cX4_wordOf 134 = .ok (.goto 44, 3) := by decide +kernel
theorem dX4_wordOf_137 : decode cX4_wordOf 137 = .ok (.iload_n 0, 1) := by decide +kernel
theorem dX4_wordOf_138 : decode cX4_wordOf 138 = .ok (.bipush 6, 2) := by decide +kernel
theorem dX4_wordOf_140 : decode cX4_wordOf 140 = .ok (.if_icmp .ne 22, 3) := by decide +kernel
theorem dX4_wordOf_143 : decode cX4_wordOf 143 = .ok (.bipush 102, 2) := by decide +kernel
theorem dX4_wordOf_145 : decode cX4_wordOf 145 = .ok (.bipush 97, 2) := by decide +kernel
theorem dX4_wordOf_147 : decode cX4_wordOf 147 = .ok (.bipush 105, 2) := by decide +kernel
theorem dX4_wordOf_149 : decode cX4_wordOf 149 = .ok (.bipush 108, 2) := by decide +kernel
theorem dX4_wordOf_151 : decode cX4_wordOf 151 = .ok (.bipush 101, 2) := by decide +kernel
theorem dX4_wordOf_153 : decode cX4_wordOf 153 = .ok (.bipush 100, 2) := by decide +kernel
theorem dX4_wordOf_155 : decode cX4_wordOf 155 = .ok (.iconst 0, 1) := by decide +kernel
theorem dX4_wordOf_156 : decode cX4_wordOf 156 = .ok (.invokestatic 160, 3) := by decide +kernel
theorem dX4_wordOf_159 : decode cX4_wordOf 159 = .ok (.goto 19, 3) := by decide +kernel
theorem dX4_wordOf_162 : decode cX4_wordOf 162 = .ok (.bipush 108, 2) := by decide +kernel
theorem dX4_wordOf_164 : decode cX4_wordOf 164 = .ok (.bipush 111, 2) := by decide +kernel
theorem dX4_wordOf_166 : decode cX4_wordOf 166 = .ok (.bipush 111, 2) := by decide +kernel
theorem dX4_wordOf_168 : decode cX4_wordOf 168 = .ok (.bipush 112, 2) := by decide +kernel
theorem dX4_wordOf_170 : decode cX4_wordOf 170 = .ok (.bipush 101, 2) := by decide +kernel
theorem dX4_wordOf_172 : decode cX4_wordOf 172 = .ok (.bipush 100, 2) := by decide +kernel
theorem dX4_wordOf_174 : decode cX4_wordOf 174 = .ok (.iconst 0, 1) := by decide +kernel
theorem dX4_wordOf_175 : decode cX4_wordOf 175 = .ok (.invokestatic 160, 3) := by decide +kernel
theorem dX4_wordOf_178 : decode cX4_wordOf 178 = .ok (.lreturn, 1) := by decide +kernel
theorem dX4_letters_0 : decode cX4_letters 0 = .ok (.iconst 0, 1) := by decide +kernel
theorem dX4_letters_1 : decode cX4_letters 1 = .ok (.istore_n 2, 1) := by decide +kernel
theorem dX4_letters_2 : decode cX4_letters 2 = .ok (.iload_n 2, 1) := by decide +kernel
theorem dX4_letters_3 : decode cX4_letters 3 = .ok (.bipush 7, 2) := by decide +kernel
theorem dX4_letters_5 : decode cX4_letters 5 = .ok (.if_icmp .ge 24, 3) := by decide +kernel
theorem dX4_letters_8 : decode cX4_letters 8 = .ok (.lload_n 0, 1) := by decide +kernel
theorem dX4_letters_9 : decode cX4_letters 9 = .ok (.bipush 7, 2) := by decide +kernel
theorem dX4_letters_11 : decode cX4_letters 11 = .ok (.iload_n 2, 1) := by decide +kernel
theorem dX4_letters_12 : decode cX4_letters 12 = .ok (.imul, 1) := by decide +kernel
theorem dX4_letters_13 : decode cX4_letters 13 = .ok (.lshr, 1) := by decide +kernel
theorem dX4_letters_14 : decode cX4_letters 14 = .ok (.ldc2_w 164, 3) := by decide +kernel
theorem dX4_letters_17 : decode cX4_letters 17 = .ok (.land, 1) := by decide +kernel
theorem dX4_letters_18 : decode cX4_letters 18 = .ok (.lconst 0, 1) := by decide +kernel
theorem dX4_letters_19 : decode cX4_letters 19 = .ok (.lcmp, 1) := by decide +kernel
theorem dX4_letters_20 : decode cX4_letters 20 = .ok (.ifCond .le 9, 3) := by decide +kernel
theorem dX4_letters_23 : decode cX4_letters 23 = .ok (.iinc 2 1, 3) := by decide +kernel
theorem dX4_letters_26 : decode cX4_letters 26 = .ok (.goto (-24), 3) := by decide +kernel
theorem dX4_letters_29 : decode cX4_letters 29 = .ok (.iload_n 2, 1) := by decide +kernel
theorem dX4_letters_30 : decode cX4_letters 30 = .ok (.ireturn, 1) := by decide +kernel
theorem dX4_digits_0 : decode cX4_digits 0 = .ok (.iload_n 0, 1) := by decide +kernel
theorem dX4_digits_1 : decode cX4_digits 1 = .ok (.bipush 10, 2) := by decide +kernel
theorem dX4_digits_3 : decode cX4_digits 3 = .ok (.if_icmp .ge 7, 3) := by decide +kernel
theorem dX4_digits_6 : decode cX4_digits 6 = .ok (.iconst 1, 1) := by decide +kernel
theorem dX4_digits_7 : decode cX4_digits 7 = .ok (.goto 14, 3) := by decide +kernel
theorem dX4_digits_10 : decode cX4_digits 10 = .ok (.iload_n 0, 1) := by decide +kernel
theorem dX4_digits_11 : decode cX4_digits 11 = .ok (.bipush 100, 2) := by decide +kernel
theorem dX4_digits_13 : decode cX4_digits 13 = .ok (.if_icmp .ge 7, 3) := by decide +kernel
theorem dX4_digits_16 : decode cX4_digits 16 = .ok (.iconst 2, 1) := by decide +kernel
theorem dX4_digits_17 : decode cX4_digits 17 = .ok (.goto 4, 3) := by decide +kernel
theorem dX4_digits_20 : decode cX4_digits 20 = .ok (.iconst 3, 1) := by decide +kernel
theorem dX4_digits_21 : decode cX4_digits 21 = .ok (.ireturn, 1) := by decide +kernel
set_option maxRecDepth 20000 in
theorem ggX4_digitAt_X4_digits : GoodIn wsX4_digitAt wsX4_digits := goodIn_r _ [4] (by decide +kernel) (by decide +kernel)
set_option maxRecDepth 20000 in
theorem gX4_digitAt_X4_digits : GoodIn wsX4_digitAt (va_wsS RX4 166 yX4_digits wsX4_digits) := goodIn_app (goodIn_of _ (by decide +kernel)) ggX4_digitAt_X4_digits
theorem dX4_digitAt_0 : decode cX4_digitAt 0 = .ok (.iload_n 0, 1) := by decide +kernel
theorem dX4_digitAt_1 : decode cX4_digitAt 1 = .ok (.istore_n 2, 1) := by decide +kernel
theorem dX4_digitAt_2 : decode cX4_digitAt 2 = .ok (.iload_n 0, 1) := by decide +kernel
theorem dX4_digitAt_3 : decode cX4_digitAt 3 = .ok (.invokestatic 166, 3) := by decide +kernel
theorem dX4_digitAt_6 : decode cX4_digitAt 6 = .ok (.iconst 1, 1) := by decide +kernel
theorem dX4_digitAt_7 : decode cX4_digitAt 7 = .ok (.isub, 1) := by decide +kernel
theorem dX4_digitAt_8 : decode cX4_digitAt 8 = .ok (.istore_n 3, 1) := by decide +kernel
theorem dX4_digitAt_9 : decode cX4_digitAt 9 = .ok (.iload_n 3, 1) := by decide +kernel
theorem dX4_digitAt_10 : decode cX4_digitAt 10 = .ok (.iload_n 1, 1) := by decide +kernel
theorem dX4_digitAt_11 : decode cX4_digitAt 11 = .ok (.if_icmp .le 14, 3) := by decide +kernel
theorem dX4_digitAt_14 : decode cX4_digitAt 14 = .ok (.iload_n 2, 1) := by decide +kernel
theorem dX4_digitAt_15 : decode cX4_digitAt 15 = .ok (.bipush 10, 2) := by decide +kernel
theorem dX4_digitAt_17 : decode cX4_digitAt 17 = .ok (.idiv, 1) := by decide +kernel
theorem dX4_digitAt_18 : decode cX4_digitAt 18 = .ok (.istore_n 2, 1) := by decide +kernel
theorem dX4_digitAt_19 : decode cX4_digitAt 19 = .ok (.iinc 3 (-1), 3) := by decide +kernel
theorem dX4_digitAt_22 : decode cX4_digitAt 22 = .ok (.goto (-13), 3) := by decide +kernel
theorem dX4_digitAt_25 : decode cX4_digitAt 25 = .ok (.iload_n 2, 1) := by decide +kernel
theorem dX4_digitAt_26 : decode cX4_digitAt 26 = .ok (.bipush 10, 2) := by decide +kernel
theorem dX4_digitAt_28 : decode cX4_digitAt 28 = .ok (.irem, 1) := by decide +kernel
theorem dX4_digitAt_29 : decode cX4_digitAt 29 = .ok (.ireturn, 1) := by decide +kernel
set_option maxRecDepth 20000 in
theorem ggX4_lengthOf_X4_wordOf : GoodIn wsX4_lengthOf wsX4_wordOf := goodIn_r _ [6, 7, 8, 5, 9] (by decide +kernel) (by decide +kernel)
set_option maxRecDepth 20000 in
theorem gX4_lengthOf_X4_wordOf : GoodIn wsX4_lengthOf (va_wsS RX4 170 yX4_wordOf wsX4_wordOf) := goodIn_app (goodIn_of _ (by decide +kernel)) ggX4_lengthOf_X4_wordOf
set_option maxRecDepth 20000 in
theorem ggX4_lengthOf_X4_letters : GoodIn wsX4_lengthOf wsX4_letters := goodIn_r _ [12, 13] (by decide +kernel) (by decide +kernel)
set_option maxRecDepth 20000 in
theorem gX4_lengthOf_X4_letters : GoodIn wsX4_lengthOf (va_wsS RX4 174 yX4_letters wsX4_letters) := goodIn_app (goodIn_of _ (by decide +kernel)) ggX4_lengthOf_X4_letters
set_option maxRecDepth 20000 in
theorem ggX4_lengthOf_X4_digits : GoodIn wsX4_lengthOf wsX4_digits := goodIn_r _ [16] (by decide +kernel) (by decide +kernel)
set_option maxRecDepth 20000 in
theorem gX4_lengthOf_X4_digits : GoodIn wsX4_lengthOf (va_wsS RX4 166 yX4_digits wsX4_digits) := goodIn_app (goodIn_of _ (by decide +kernel)) ggX4_lengthOf_X4_digits
theorem dX4_lengthOf_0 : decode cX4_lengthOf 0 = .ok (.aload_n 0, 1) := by decide +kernel
theorem dX4_lengthOf_1 : decode cX4_lengthOf 1 = .ok (.getfield 35, 3) := by decide +kernel
theorem dX4_lengthOf_4 : decode cX4_lengthOf 4 = .ok (.iload_n 1, 1) := by decide +kernel
theorem dX4_lengthOf_5 : decode cX4_lengthOf 5 = .ok (.iaload, 1) := by decide +kernel
theorem dX4_lengthOf_6 : decode cX4_lengthOf 6 = .ok (.invokestatic 170, 3) := by decide +kernel
theorem dX4_lengthOf_9 : decode cX4_lengthOf 9 = .ok (.invokestatic 174, 3) := by decide +kernel
theorem dX4_lengthOf_12 : decode cX4_lengthOf 12 = .ok (.istore_n 2, 1) := by decide +kernel
theorem dX4_lengthOf_13 : decode cX4_lengthOf 13 = .ok (.iconst 4, 1) := by decide +kernel
theorem dX4_lengthOf_14 : decode cX4_lengthOf 14 = .ok (.iload_n 1, 1) := by decide +kernel
theorem dX4_lengthOf_15 : decode cX4_lengthOf 15 = .ok (.imul, 1) := by decide +kernel
theorem dX4_lengthOf_16 : decode cX4_lengthOf 16 = .ok (.istore_n 3, 1) := by decide +kernel
theorem dX4_lengthOf_17 : decode cX4_lengthOf 17 = .ok (.iload_n 3, 1) := by decide +kernel
theorem dX4_lengthOf_18 : decode cX4_lengthOf 18 = .ok (.iconst 4, 1) := by decide +kernel
theorem dX4_lengthOf_19 : decode cX4_lengthOf 19 = .ok (.iload_n 1, 1) := by decide +kernel
theorem dX4_lengthOf_20 : decode cX4_lengthOf 20 = .ok (.imul, 1) := by decide +kernel
theorem dX4_lengthOf_21 : decode cX4_lengthOf 21 = .ok (.iconst 4, 1) := by decide +kernel
theorem dX4_lengthOf_22 : decode cX4_lengthOf 22 = .ok (.iadd, 1) := by decide +kernel
theorem dX4_lengthOf_23 : decode cX4_lengthOf 23 = .ok (.if_icmp .ge 37, 3) := by decide +kernel
theorem dX4_lengthOf_26 : decode cX4_lengthOf 26 = .ok (.iload_n 2, 1) := by decide +kernel
theorem dX4_lengthOf_27 : decode cX4_lengthOf 27 = .ok (.aload_n 0, 1) := by decide +kernel
theorem dX4_lengthOf_28 : decode cX4_lengthOf 28 = .ok (.getfield 29, 3) := by decide +kernel
theorem dX4_lengthOf_31 : decode cX4_lengthOf 31 = .ok (.iload_n 3, 1) := by decide +kernel
theorem dX4_lengthOf_32 : decode cX4_lengthOf 32 = .ok (.iaload, 1) := by decide +kernel
theorem dX4_lengthOf_33 : decode cX4_lengthOf 33 = .ok (.iconst (-1), 1) := by decide +kernel
theorem dX4_lengthOf_34 : decode cX4_lengthOf 34 = .ok (.if_icmp .ne 7, 3) := by decide +kernel
theorem dX4_lengthOf_37 : decode cX4_lengthOf 37 = .ok (.iconst 0, 1) := by decide +kernel
theorem dX4_lengthOf_38 : decode cX4_lengthOf 38 = .ok (.goto 14, 3) := by decide +kernel
theorem dX4_lengthOf_41 : decode cX4_lengthOf 41 = .ok (.iconst 2, 1) := by decide +kernel
theorem dX4_lengthOf_42 : decode cX4_lengthOf 42 = .ok (.aload_n 0, 1) := by decide +kernel
theorem dX4_lengthOf_43 : decode cX4_lengthOf 43 = .ok (.getfield 29, 3) := by decide +kernel
theorem dX4_lengthOf_46 : decode cX4_lengthOf 46 = .ok (.iload_n 3, 1) := by decide +kernel
theorem dX4_lengthOf_47 : decode cX4_lengthOf 47 = .ok (.iaload, 1) := by decide +kernel
theorem dX4_lengthOf_48 : decode cX4_lengthOf 48 = .ok (.invokestatic 166, 3) := by decide +kernel
theorem dX4_lengthOf_51 : decode cX4_lengthOf 51 = .ok (.iadd, 1) := by decide +kernel
theorem dX4_lengthOf_52 : decode cX4_lengthOf 52 = .ok (.iadd, 1) := by decide +kernel
theorem dX4_lengthOf_53 : decode cX4_lengthOf 53 = .ok (.istore_n 2, 1) := by decide +kernel
theorem dX4_lengthOf_54 : decode cX4_lengthOf 54 = .ok (.iinc 3 1, 3) := by decide +kernel
theorem dX4_lengthOf_57 : decode cX4_lengthOf 57 = .ok (.goto (-40), 3) := by decide +kernel
theorem dX4_lengthOf_60 : decode cX4_lengthOf 60 = .ok (.iload_n 2, 1) := by decide +kernel
theorem dX4_lengthOf_61 : decode cX4_lengthOf 61 = .ok (.ireturn, 1) := by decide +kernel
set_option maxRecDepth 20000 in
theorem ggX4_charOf_X4_wordOf : GoodIn wsX4_charOf wsX4_wordOf := goodIn_r _ [7, 8, 9, 6, 10] (by decide +kernel) (by decide +kernel)
set_option maxRecDepth 20000 in
theorem gX4_charOf_X4_wordOf : GoodIn wsX4_charOf (va_wsS RX4 170 yX4_wordOf wsX4_wordOf) := goodIn_app (goodIn_of _ (by decide +kernel)) ggX4_charOf_X4_wordOf
set_option maxRecDepth 20000 in
theorem ggX4_charOf_X4_letters : GoodIn wsX4_charOf wsX4_letters := goodIn_r _ [13, 2] (by decide +kernel) (by decide +kernel)
set_option maxRecDepth 20000 in
theorem gX4_charOf_X4_letters : GoodIn wsX4_charOf (va_wsS RX4 174 yX4_letters wsX4_letters) := goodIn_app (goodIn_of _ (by decide +kernel)) ggX4_charOf_X4_letters
set_option maxRecDepth 20000 in
theorem ggX4_charOf_X4_digits : GoodIn wsX4_charOf wsX4_digits := goodIn_r _ [16] (by decide +kernel) (by decide +kernel)
set_option maxRecDepth 20000 in
theorem gX4_charOf_X4_digits : GoodIn wsX4_charOf (va_wsS RX4 166 yX4_digits wsX4_digits) := goodIn_app (goodIn_of _ (by decide +kernel)) ggX4_charOf_X4_digits
set_option maxRecDepth 20000 in
theorem ggX4_charOf_X4_digitAt : GoodIn wsX4_charOf wsX4_digitAt := goodIn_r _ [19, 14, 15, 6, 16] (by decide +kernel) (by decide +kernel)
set_option maxRecDepth 20000 in
theorem gX4_charOf_X4_digitAt : GoodIn wsX4_charOf (va_wsS RX4 178 yX4_digitAt wsX4_digitAt) := goodIn_app (goodIn_of _ (by decide +kernel)) ggX4_charOf_X4_digitAt
theorem dX4_charOf_0 : decode cX4_charOf 0 = .ok (.aload_n 0, 1) := by decide +kernel
theorem dX4_charOf_1 : decode cX4_charOf 1 = .ok (.getfield 35, 3) := by decide +kernel
theorem dX4_charOf_4 : decode cX4_charOf 4 = .ok (.iload_n 1, 1) := by decide +kernel
theorem dX4_charOf_5 : decode cX4_charOf 5 = .ok (.iaload, 1) := by decide +kernel
theorem dX4_charOf_6 : decode cX4_charOf 6 = .ok (.invokestatic 170, 3) := by decide +kernel
theorem dX4_charOf_9 : decode cX4_charOf 9 = .ok (.lstore_n 3, 1) := by decide +kernel
theorem dX4_charOf_10 : decode cX4_charOf 10 = .ok (.iload_n 2, 1) := by decide +kernel
theorem dX4_charOf_11 : decode cX4_charOf 11 = .ok (.lload_n 3, 1) := by decide +kernel
theorem dX4_charOf_12 : decode cX4_charOf 12 = .ok (.invokestatic 174, 3) := by decide +kernel
theorem dX4_charOf_15 : decode cX4_charOf 15 = .ok (.if_icmp .ge 16, 3) := by decide +kernel
theorem dX4_charOf_18 : decode cX4_charOf 18 = .ok (.lload_n 3, 1) := by decide +kernel
theorem dX4_charOf_19 : decode cX4_charOf 19 = .ok (.bipush 7, 2) := by decide +kernel
theorem dX4_charOf_21 : decode cX4_charOf 21 = .ok (.iload_n 2, 1) := by decide +kernel
theorem dX4_charOf_22 : decode cX4_charOf 22 = .ok (.imul, 1) := by decide +kernel
theorem dX4_charOf_23 : decode cX4_charOf 23 = .ok (.lshr, 1) := by decide +kernel
theorem dX4_charOf_24 : decode cX4_charOf 24 = .ok (.ldc2_w 164, 3) := by decide +kernel
theorem dX4_charOf_27 : decode cX4_charOf 27 = .ok (.land, 1) := by decide +kernel
theorem dX4_charOf_28 : decode cX4_charOf 28 = .ok (.l2i, 1) := by decide +kernel
theorem dX4_charOf_29 : decode cX4_charOf 29 = .ok (.i2c, 1) := by decide +kernel
theorem dX4_charOf_30 : decode cX4_charOf 30 = .ok (.ireturn, 1) := by decide +kernel
theorem dX4_charOf_31 : decode cX4_charOf 31 = .ok (.iload_n 2, 1) := by decide +kernel
theorem dX4_charOf_32 : decode cX4_charOf 32 = .ok (.lload_n 3, 1) := by decide +kernel
theorem dX4_charOf_33 : decode cX4_charOf 33 = .ok (.invokestatic 174, 3) := by decide +kernel
theorem dX4_charOf_36 : decode cX4_charOf 36 = .ok (.isub, 1) := by decide +kernel
theorem dX4_charOf_37 : decode cX4_charOf 37 = .ok (.istore 5, 2) := by decide +kernel
theorem dX4_charOf_39 : decode cX4_charOf 39 = .ok (.bipush 32, 2) := by decide +kernel
theorem dX4_charOf_41 : decode cX4_charOf 41 = .ok (.istore 6, 2) := by decide +kernel
theorem dX4_charOf_43 : decode cX4_charOf 43 = .ok (.iconst 0, 1) := by decide +kernel
theorem dX4_charOf_44 : decode cX4_charOf 44 = .ok (.istore 7, 2) := by decide +kernel
theorem dX4_charOf_46 : decode cX4_charOf 46 = .ok (.iload 7, 2) := by decide +kernel
theorem dX4_charOf_48 : decode cX4_charOf 48 = .ok (.iconst 4, 1) := by decide +kernel
theorem dX4_charOf_49 : decode cX4_charOf 49 = .ok (.if_icmp .ge 99, 3) := by decide +kernel
theorem dX4_charOf_52 : decode cX4_charOf 52 = .ok (.aload_n 0, 1) := by decide +kernel
theorem dX4_charOf_53 : decode cX4_charOf 53 = .ok (.getfield 29, 3) := by decide +kernel
theorem dX4_charOf_56 : decode cX4_charOf 56 = .ok (.iconst 4, 1) := by decide +kernel
theorem dX4_charOf_57 : decode cX4_charOf 57 = .ok (.iload_n 1, 1) := by decide +kernel
theorem dX4_charOf_58 : decode cX4_charOf 58 = .ok (.imul, 1) := by decide +kernel
theorem dX4_charOf_59 : decode cX4_charOf 59 = .ok (.iload 7, 2) := by decide +kernel
theorem dX4_charOf_61 : decode cX4_charOf 61 = .ok (.iadd, 1) := by decide +kernel
theorem dX4_charOf_62 : decode cX4_charOf 62 = .ok (.iaload, 1) := by decide +kernel
theorem dX4_charOf_63 : decode cX4_charOf 63 = .ok (.istore 8, 2) := by decide +kernel
theorem dX4_charOf_65 : decode cX4_charOf 65 = .ok (.iload 8, 2) := by decide +kernel
theorem dX4_charOf_67 : decode cX4_charOf 67 = .ok (.iconst (-1), 1) := by decide +kernel
theorem dX4_charOf_68 : decode cX4_charOf 68 = .ok (.if_icmp .ne 7, 3) := by decide +kernel
theorem dX4_charOf_71 : decode cX4_charOf 71 = .ok (.iconst 0, 1) := by decide +kernel
theorem dX4_charOf_72 : decode cX4_charOf 72 = .ok (.goto 10, 3) := by decide +kernel
theorem dX4_charOf_75 : decode cX4_charOf 75 = .ok (.iconst 2, 1) := by decide +kernel
theorem dX4_charOf_76 : decode cX4_charOf 76 = .ok (.iload 8, 2) := by decide +kernel
theorem dX4_charOf_78 : decode cX4_charOf 78 = .ok (.invokestatic 166, 3) := by decide +kernel
theorem dX4_charOf_81 : decode cX4_charOf 81 = .ok (.iadd, 1) := by decide +kernel
theorem dX4_charOf_82 : decode cX4_charOf 82 = .ok (.istore 9, 2) := by decide +kernel
theorem dX4_charOf_84 : decode cX4_charOf 84 = .ok (.iload 5, 2) := by decide +kernel
theorem dX4_charOf_86 : decode cX4_charOf 86 = .ok (.ifCond .lt 49, 3) := by decide +kernel
theorem dX4_charOf_89 : decode cX4_charOf 89 = .ok (.iload 5, 2) := by decide +kernel
theorem dX4_charOf_91 : decode cX4_charOf 91 = .ok (.iload 9, 2) := by decide +kernel
theorem dX4_charOf_93 : decode cX4_charOf 93 = .ok (.if_icmp .ge 42, 3) := by decide +kernel
theorem dX4_charOf_96 : decode cX4_charOf 96 = .ok (.iload 5, 2) := by decide +kernel
theorem dX4_charOf_98 : decode cX4_charOf 98 = .ok (.ifCond .ne 8, 3) := by decide +kernel
theorem dX4_charOf_101 : decode cX4_charOf 101 = .ok (.bipush 32, 2) := by decide +kernel
theorem dX4_charOf_103 : decode cX4_charOf 103 = .ok (.goto 30, 3) := by decide +kernel
theorem dX4_charOf_106 : decode cX4_charOf 106 = .ok (.iload 5, 2) := by decide +kernel
theorem dX4_charOf_108 : decode cX4_charOf 108 = .ok (.iconst 1, 1) := by decide +kernel
theorem dX4_charOf_109 : decode cX4_charOf 109 = .ok (.if_icmp .ne 11, 3) := by decide +kernel
theorem dX4_charOf_112 : decode cX4_charOf 112 = .ok (.bipush 97, 2) := by decide +kernel
theorem dX4_charOf_114 : decode cX4_charOf 114 = .ok (.iload 7, 2) := by decide +kernel
theorem dX4_charOf_116 : decode cX4_charOf 116 = .ok (.iadd, 1) := by decide +kernel
theorem dX4_charOf_117 : decode cX4_charOf 117 = .ok (.goto 15, 3) := by decide +kernel
theorem dX4_charOf_120 : decode cX4_charOf 120 = .ok (.bipush 48, 2) := by decide +kernel
theorem dX4_charOf_122 : decode cX4_charOf 122 = .ok (.iload 8, 2) := by decide +kernel
theorem dX4_charOf_124 : decode cX4_charOf 124 = .ok (.iload 5, 2) := by decide +kernel
theorem dX4_charOf_126 : decode cX4_charOf 126 = .ok (.iconst 2, 1) := by decide +kernel
theorem dX4_charOf_127 : decode cX4_charOf 127 = .ok (.isub, 1) := by decide +kernel
theorem dX4_charOf_128 : decode cX4_charOf 128 = .ok (.invokestatic 178, 3) := by decide +kernel
theorem dX4_charOf_131 : decode cX4_charOf 131 = .ok (.iadd, 1) := by decide +kernel
theorem dX4_charOf_132 : decode cX4_charOf 132 = .ok (.i2c, 1) := by decide +kernel
theorem dX4_charOf_133 : decode cX4_charOf 133 = .ok (.istore 6, 2) := by decide +kernel
theorem dX4_charOf_135 : decode cX4_charOf 135 = .ok (.iload 5, 2) := by decide +kernel
theorem dX4_charOf_137 : decode cX4_charOf 137 = .ok (.iload 9, 2) := by decide +kernel
theorem dX4_charOf_139 : decode cX4_charOf 139 = .ok (.isub, 1) := by decide +kernel
theorem dX4_charOf_140 : decode cX4_charOf 140 = .ok (.istore 5, 2) := by decide +kernel
theorem dX4_charOf_142 : decode cX4_charOf 142 = .ok (.iinc 7 1, 3) := by decide +kernel
theorem dX4_charOf_145 : decode cX4_charOf 145 = .ok (.goto (-99), 3) := by decide +kernel
theorem dX4_charOf_148 : decode cX4_charOf 148 = .ok (.iload 6, 2) := by decide +kernel
theorem dX4_charOf_150 : decode cX4_charOf 150 = .ok (.ireturn, 1) := by decide +kernel
set_option maxRecDepth 20000 in
theorem ggX4_lineLength_X4_isEnd : GoodIn wsX4_lineLength wsX4_isEnd := goodIn_r _ [4, 5, 6, 3, 7] (by decide +kernel) (by decide +kernel)
set_option maxRecDepth 20000 in
theorem gX4_lineLength_X4_isEnd : GoodIn wsX4_lineLength (va_wsS RX4 85 yX4_isEnd wsX4_isEnd) := goodIn_app (goodIn_of _ (by decide +kernel)) ggX4_lineLength_X4_isEnd
set_option maxRecDepth 20000 in
theorem ggX4_lineLength_X4_can : GoodIn wsX4_lineLength wsX4_can := goodIn_r _ [11, 12, 32, 33, 34, 35, 36, 37, 38, 39, 40, 41, 42, 43, 44, 45, 46, 47, 48, 49, 50, 51, 52, 53, 54, 55, 56, 57, 58, 59, 60] (by decide +kernel) (by decide +kernel)
set_option maxRecDepth 20000 in
theorem gX4_lineLength_X4_can : GoodIn wsX4_lineLength (wsV RX4 99 RX4 yX4_can wsX4_can) := goodIn_app (goodIn_of _ (by decide +kernel)) ggX4_lineLength_X4_can
set_option maxRecDepth 20000 in
theorem ggX4_lineLength_X4_lengthOf : GoodIn wsX4_lineLength wsX4_lengthOf := goodIn_r _ [16, 17, 18, 19, 20, 3, 21, 22, 23, 24, 25, 26, 27, 28, 29, 30, 31, 32, 33, 34, 35, 36, 37, 38, 39, 40, 41, 42, 43, 44, 45, 46, 47, 48, 49, 50, 51, 52, 53, 54, 55, 56, 57, 58, 59, 60] (by decide +kernel) (by decide +kernel)
set_option maxRecDepth 20000 in
theorem gX4_lineLength_X4_lengthOf : GoodIn wsX4_lineLength (wsV RX4 182 RX4 yX4_lengthOf wsX4_lengthOf) := goodIn_app (goodIn_of _ (by decide +kernel)) ggX4_lineLength_X4_lengthOf
theorem dX4_lineLength_0 : decode cX4_lineLength 0 = .ok (.aload_n 0, 1) := by decide +kernel
theorem dX4_lineLength_1 : decode cX4_lineLength 1 = .ok (.iload_n 1, 1) := by decide +kernel
theorem dX4_lineLength_2 : decode cX4_lineLength 2 = .ok (.invokestatic 85, 3) := by decide +kernel
theorem dX4_lineLength_5 : decode cX4_lineLength 5 = .ok (.ifCond .eq 7, 3) := by decide +kernel
theorem dX4_lineLength_8 : decode cX4_lineLength 8 = .ok (.iconst 0, 1) := by decide +kernel
theorem dX4_lineLength_9 : decode cX4_lineLength 9 = .ok (.goto 4, 3) := by decide +kernel
theorem dX4_lineLength_12 : decode cX4_lineLength 12 = .ok (.iconst 1, 1) := by decide +kernel
theorem dX4_lineLength_13 : decode cX4_lineLength 13 = .ok (.invokevirtual 99, 3) := by decide +kernel
theorem dX4_lineLength_16 : decode cX4_lineLength 16 = .ok (.ifCond .eq 11, 3) := by decide +kernel
theorem dX4_lineLength_19 : decode cX4_lineLength 19 = .ok (.aload_n 0, 1) := by decide +kernel
theorem dX4_lineLength_20 : decode cX4_lineLength 20 = .ok (.iload_n 1, 1) := by decide +kernel
theorem dX4_lineLength_21 : decode cX4_lineLength 21 = .ok (.invokevirtual 182, 3) := by decide +kernel
theorem dX4_lineLength_24 : decode cX4_lineLength 24 = .ok (.goto 4, 3) := by decide +kernel
theorem dX4_lineLength_27 : decode cX4_lineLength 27 = .ok (.iconst 0, 1) := by decide +kernel
theorem dX4_lineLength_28 : decode cX4_lineLength 28 = .ok (.ireturn, 1) := by decide +kernel
set_option maxRecDepth 20000 in
theorem ggX4_lineChar_X4_isEnd : GoodIn wsX4_lineChar wsX4_isEnd := goodIn_r _ [4, 5, 6, 3, 7] (by decide +kernel) (by decide +kernel)
set_option maxRecDepth 20000 in
theorem gX4_lineChar_X4_isEnd : GoodIn wsX4_lineChar (va_wsS RX4 85 yX4_isEnd wsX4_isEnd) := goodIn_app (goodIn_of _ (by decide +kernel)) ggX4_lineChar_X4_isEnd
set_option maxRecDepth 20000 in
theorem ggX4_lineChar_X4_lengthOf : GoodIn wsX4_lineChar wsX4_lengthOf := goodIn_r _ [11, 12, 13, 14, 15, 3, 16, 17, 18, 19, 20, 21, 22, 23, 24, 25, 26, 39, 40, 41, 42, 43, 44, 45, 46, 47, 48, 49, 50, 51, 52, 53, 54, 55, 56, 57, 58, 59, 60, 61, 62, 63, 64, 65, 66, 67] (by decide +kernel) (by decide +kernel)
set_option maxRecDepth 20000 in
theorem gX4_lineChar_X4_lengthOf : GoodIn wsX4_lineChar (wsV RX4 182 RX4 yX4_lengthOf wsX4_lengthOf) := goodIn_app (goodIn_of _ (by decide +kernel)) ggX4_lineChar_X4_lengthOf
set_option maxRecDepth 20000 in
theorem ggX4_lineChar_X4_isIn : GoodIn wsX4_lineChar wsX4_isIn := goodIn_r _ [7] (by decide +kernel) (by decide +kernel)
set_option maxRecDepth 20000 in
theorem gX4_lineChar_X4_isIn : GoodIn wsX4_lineChar (va_wsS RX4 81 yX4_isIn wsX4_isIn) := goodIn_app (goodIn_of _ (by decide +kernel)) ggX4_lineChar_X4_isIn
set_option maxRecDepth 20000 in
theorem ggX4_lineChar_X4_can : GoodIn wsX4_lineChar wsX4_can := goodIn_r _ [30, 31, 39, 40, 41, 42, 43, 44, 45, 46, 47, 48, 49, 50, 51, 52, 53, 54, 55, 56, 57, 58, 59, 60, 61, 62, 63, 64, 65, 66, 67] (by decide +kernel) (by decide +kernel)
set_option maxRecDepth 20000 in
theorem gX4_lineChar_X4_can : GoodIn wsX4_lineChar (wsV RX4 99 RX4 yX4_can wsX4_can) := goodIn_app (goodIn_of _ (by decide +kernel)) ggX4_lineChar_X4_can
set_option maxRecDepth 20000 in
theorem ggX4_lineChar_X4_charOf : GoodIn wsX4_lineChar wsX4_charOf := goodIn_r _ [35, 12, 23, 13, 14, 15, 3, 16, 17, 18, 19, 20, 21, 22, 24, 25, 26, 36, 37, 38, 39, 40, 41, 42, 43, 44, 45, 46, 47, 48, 49, 50, 51, 52, 53, 54, 55, 56, 57, 58, 59, 60, 61, 62, 63, 64, 65, 66, 67] (by decide +kernel) (by decide +kernel)
set_option maxRecDepth 20000 in
theorem gX4_lineChar_X4_charOf : GoodIn wsX4_lineChar (wsV RX4 185 RX4 yX4_charOf wsX4_charOf) := goodIn_app (goodIn_of _ (by decide +kernel)) ggX4_lineChar_X4_charOf
theorem dX4_lineChar_0 : decode cX4_lineChar 0 = .ok (.aload_n 0, 1) := by decide +kernel
theorem dX4_lineChar_1 : decode cX4_lineChar 1 = .ok (.iload_n 1, 1) := by decide +kernel
theorem dX4_lineChar_2 : decode cX4_lineChar 2 = .ok (.invokestatic 85, 3) := by decide +kernel
theorem dX4_lineChar_5 : decode cX4_lineChar 5 = .ok (.ifCond .ne 7, 3) := by decide +kernel
theorem dX4_lineChar_8 : decode cX4_lineChar 8 = .ok (.iconst 1, 1) := by decide +kernel
theorem dX4_lineChar_9 : decode cX4_lineChar 9 = .ok (.goto 23, 3) := by decide +kernel
theorem dX4_lineChar_12 : decode cX4_lineChar 12 = .ok (.iload_n 2, 1) := by decide +kernel
theorem dX4_lineChar_13 : decode cX4_lineChar 13 = .ok (.iconst 0, 1) := by decide +kernel
theorem dX4_lineChar_14 : decode cX4_lineChar 14 = .ok (.aload_n 0, 1) := by decide +kernel
theorem dX4_lineChar_15 : decode cX4_lineChar 15 = .ok (.iload_n 1, 1) := by decide +kernel
theorem dX4_lineChar_16 : decode cX4_lineChar 16 = .ok (.invokevirtual 182, 3) := by decide +kernel
theorem dX4_lineChar_19 : decode cX4_lineChar 19 = .ok (.iconst 1, 1) := by decide +kernel
theorem dX4_lineChar_20 : decode cX4_lineChar 20 = .ok (.isub, 1) := by decide +kernel
theorem dX4_lineChar_21 : decode cX4_lineChar 21 = .ok (.invokestatic 81, 3) := by decide +kernel
theorem dX4_lineChar_24 : decode cX4_lineChar 24 = .ok (.ifCond .eq 7, 3) := by decide +kernel
theorem dX4_lineChar_27 : decode cX4_lineChar 27 = .ok (.iconst 0, 1) := by decide +kernel
theorem dX4_lineChar_28 : decode cX4_lineChar 28 = .ok (.goto 4, 3) := by decide +kernel
theorem dX4_lineChar_31 : decode cX4_lineChar 31 = .ok (.iconst 2, 1) := by decide +kernel
theorem dX4_lineChar_32 : decode cX4_lineChar 32 = .ok (.invokevirtual 99, 3) := by decide +kernel
theorem dX4_lineChar_35 : decode cX4_lineChar 35 = .ok (.ifCond .eq 12, 3) := by decide +kernel
theorem dX4_lineChar_38 : decode cX4_lineChar 38 = .ok (.aload_n 0, 1) := by decide +kernel
theorem dX4_lineChar_39 : decode cX4_lineChar 39 = .ok (.iload_n 1, 1) := by decide +kernel
theorem dX4_lineChar_40 : decode cX4_lineChar 40 = .ok (.iload_n 2, 1) := by decide +kernel
theorem dX4_lineChar_41 : decode cX4_lineChar 41 = .ok (.invokevirtual 185, 3) := by decide +kernel
theorem dX4_lineChar_44 : decode cX4_lineChar 44 = .ok (.goto 5, 3) := by decide +kernel
theorem dX4_lineChar_47 : decode cX4_lineChar 47 = .ok (.bipush 32, 2) := by decide +kernel
theorem dX4_lineChar_49 : decode cX4_lineChar 49 = .ok (.ireturn, 1) := by decide +kernel
