set_option maxRecDepth 20000 in
theorem ggX0_init_X2_init : GoodIn wsX0_init wsX2_init := goodIn_r _ [26, 27, 2, 3, 4, 28, 29, 30, 31, 32, 33, 50, 51, 52, 53, 54, 55] (by decide +kernel) (by decide +kernel)
set_option maxRecDepth 20000 in
theorem gX0_init_X2_init_n39 : GoodIn wsX0_init (wsX2_init) := ggX0_init_X2_init
theorem dX0_init_0 : decode cX0_init 0 = .ok (.aload_n 0, 1) := by decide +kernel
theorem dX0_init_1 : decode cX0_init 1 = .ok (.invokespecial 3, 3) := by decide +kernel
theorem dX0_init_4 : decode cX0_init 4 = .ok (.aload_n 0, 1) := by decide +kernel
theorem dX0_init_5 : decode cX0_init 5 = .ok (.iconst 4, 1) := by decide +kernel
theorem dX0_init_6 : decode cX0_init 6 = .ok (.newarray .int, 2) := by decide +kernel
theorem dX0_init_8 : decode cX0_init 8 = .ok (.putfield 9, 3) := by decide +kernel
theorem dX0_init_11 : decode cX0_init 11 = .ok (.aload_n 0, 1) := by decide +kernel
theorem dX0_init_12 : decode cX0_init 12 = .ok (.iconst 4, 1) := by decide +kernel
theorem dX0_init_13 : decode cX0_init 13 = .ok (.newarray .int, 2) := by decide +kernel
theorem dX0_init_15 : decode cX0_init 15 = .ok (.putfield 15, 3) := by decide +kernel
theorem dX0_init_18 : decode cX0_init 18 = .ok (.aload_n 0, 1) := by decide +kernel
theorem dX0_init_19 : decode cX0_init 19 = .ok (.iconst 4, 1) := by decide +kernel
theorem dX0_init_20 : decode cX0_init 20 = .ok (.newarray .int, 2) := by decide +kernel
theorem dX0_init_22 : decode cX0_init 22 = .ok (.putfield 18, 3) := by decide +kernel
theorem dX0_init_25 : decode cX0_init 25 = .ok (.aload_n 0, 1) := by decide +kernel
theorem dX0_init_26 : decode cX0_init 26 = .ok (.iconst 4, 1) := by decide +kernel
theorem dX0_init_27 : decode cX0_init 27 = .ok (.newarray .int, 2) := by decide +kernel
theorem dX0_init_29 : decode cX0_init 29 = .ok (.putfield 21, 3) := by decide +kernel
theorem dX0_init_32 : decode cX0_init 32 = .ok (.aload_n 0, 1) := by decide +kernel
theorem dX0_init_33 : decode cX0_init 33 = .ok (.iconst 4, 1) := by decide +kernel
theorem dX0_init_34 : decode cX0_init 34 = .ok (.newarray .int, 2) := by decide +kernel
theorem dX0_init_36 : decode cX0_init 36 = .ok (.putfield 24, 3) := by decide +kernel
theorem dX0_init_39 : decode cX0_init 39 = .ok (.aload_n 0, 1) := by decide +kernel
theorem dX0_init_40 : decode cX0_init 40 = .ok (.iconst 4, 1) := by decide +kernel
theorem dX0_init_41 : decode cX0_init 41 = .ok (.newarray .boolean, 2) := by decide +kernel
theorem dX0_init_43 : decode cX0_init 43 = .ok (.putfield 27, 3) := by decide +kernel
theorem dX0_init_46 : decode cX0_init 46 = .ok (.aload_n 0, 1) := by decide +kernel
theorem dX0_init_47 : decode cX0_init 47 = .ok (.iconst 4, 1) := by decide +kernel
theorem dX0_init_48 : decode cX0_init 48 = .ok (.newarray .int, 2) := by decide +kernel
theorem dX0_init_50 : decode cX0_init 50 = .ok (.putfield 31, 3) := by decide +kernel
theorem dX0_init_53 : decode cX0_init 53 = .ok (.aload_n 0, 1) := by decide +kernel
theorem dX0_init_54 : decode cX0_init 54 = .ok (.iconst 4, 1) := by decide +kernel
theorem dX0_init_55 : decode cX0_init 55 = .ok (.newarray .int, 2) := by decide +kernel
theorem dX0_init_57 : decode cX0_init 57 = .ok (.putfield 34, 3) := by decide +kernel
theorem dX0_init_60 : decode cX0_init 60 = .ok (.aload_n 0, 1) := by decide +kernel
theorem dX0_init_61 : decode cX0_init 61 = .ok (.new 37, 3) := by decide +kernel
theorem dX0_init_64 : decode cX0_init 64 = .ok (.dup, 1) := by decide +kernel
theorem dX0_init_65 : decode cX0_init 65 = .ok (.invokespecial 39, 3) := by decide +kernel
theorem dX0_init_68 : decode cX0_init 68 = .ok (.putfield 40, 3) := by decide +kernel
theorem dX0_init_71 : decode cX0_init 71 = .ok (.aload_n 0, 1) := by decide +kernel
theorem dX0_init_72 : decode cX0_init 72 = .ok (.iconst 0, 1) := by decide +kernel
theorem dX0_init_73 : decode cX0_init 73 = .ok (.putfield 44, 3) := by decide +kernel
theorem dX0_init_76 : decode cX0_init 76 = .ok (.aload_n 0, 1) := by decide +kernel
theorem dX0_init_77 : decode cX0_init 77 = .ok (.iconst 0, 1) := by decide +kernel
theorem dX0_init_78 : decode cX0_init 78 = .ok (.putfield 48, 3) := by decide +kernel
theorem dX0_init_81 : decode cX0_init 81 = .ok (.aload_n 0, 1) := by decide +kernel
theorem dX0_init_82 : decode cX0_init 82 = .ok (.iconst 0, 1) := by decide +kernel
theorem dX0_init_83 : decode cX0_init 83 = .ok (.putfield 51, 3) := by decide +kernel
theorem dX0_init_86 : decode cX0_init 86 = .ok (.aload_n 0, 1) := by decide +kernel
theorem dX0_init_87 : decode cX0_init 87 = .ok (.iconst 0, 1) := by decide +kernel
theorem dX0_init_88 : decode cX0_init 88 = .ok (.putfield 54, 3) := by decide +kernel
theorem dX0_init_91 : decode cX0_init 91 = .ok (.aload_n 0, 1) := by decide +kernel
theorem dX0_init_92 : decode cX0_init 92 = .ok (.iconst 0, 1) := by decide +kernel
theorem dX0_init_93 : decode cX0_init 93 = .ok (.putfield 57, 3) := by decide +kernel
theorem dX0_init_96 : decode cX0_init 96 = .ok (.aload_n 0, 1) := by decide +kernel
theorem dX0_init_97 : decode cX0_init 97 = .ok (.iconst 0, 1) := by decide +kernel
theorem dX0_init_98 : decode cX0_init 98 = .ok (.putfield 60, 3) := by decide +kernel
theorem dX0_init_101 : decode cX0_init 101 = .ok (.aload_n 0, 1) := by decide +kernel
theorem dX0_init_102 : decode cX0_init 102 = .ok (.iconst 0, 1) := by decide +kernel
theorem dX0_init_103 : decode cX0_init 103 = .ok (.putfield 63, 3) := by decide +kernel
theorem dX0_init_106 : decode cX0_init 106 = .ok (.iconst 0, 1) := by decide +kernel
theorem dX0_init_107 : decode cX0_init 107 = .ok (.istore_n 1, 1) := by decide +kernel
theorem dX0_init_108 : decode cX0_init 108 = .ok (.iload_n 1, 1) := by decide +kernel
theorem dX0_init_109 : decode cX0_init 109 = .ok (.iconst 4, 1) := by decide +kernel
theorem dX0_init_110 : decode cX0_init 110 = .ok (.if_icmp .ge 46, 3) := by decide +kernel
theorem dX0_init_113 : decode cX0_init 113 = .ok (.aload_n 0, 1) := by decide +kernel
theorem dX0_init_114 : decode cX0_init 114 = .ok (.getfield 9, 3) := by decide +kernel
theorem dX0_init_117 : decode cX0_init 117 = .ok (.iload_n 1, 1) := by decide +kernel
theorem dX0_init_118 : decode cX0_init 118 = .ok (.iconst (-1), 1) := by decide +kernel
theorem dX0_init_119 : decode cX0_init 119 = .ok (.iastore, 1) := by decide +kernel
theorem dX0_init_120 : decode cX0_init 120 = .ok (.aload_n 0, 1) := by decide +kernel
theorem dX0_init_121 : decode cX0_init 121 = .ok (.getfield 18, 3) := by decide +kernel
theorem dX0_init_124 : decode cX0_init 124 = .ok (.iload_n 1, 1) := by decide +kernel
theorem dX0_init_125 : decode cX0_init 125 = .ok (.bipush 100, 2) := by decide +kernel
theorem dX0_init_127 : decode cX0_init 127 = .ok (.iastore, 1) := by decide +kernel
theorem dX0_init_128 : decode cX0_init 128 = .ok (.aload_n 0, 1) := by decide +kernel
theorem dX0_init_129 : decode cX0_init 129 = .ok (.getfield 24, 3) := by decide +kernel
theorem dX0_init_132 : decode cX0_init 132 = .ok (.iload_n 1, 1) := by decide +kernel
theorem dX0_init_133 : decode cX0_init 133 = .ok (.bipush 100, 2) := by decide +kernel
theorem dX0_init_135 : decode cX0_init 135 = .ok (.iastore, 1) := by decide +kernel
theorem dX0_init_136 : decode cX0_init 136 = .ok (.aload_n 0, 1) := by decide +kernel
theorem dX0_init_137 : decode cX0_init 137 = .ok (.getfield 31, 3) := by decide +kernel
theorem dX0_init_140 : decode cX0_init 140 = .ok (.iload_n 1, 1) := by decide +kernel
theorem dX0_init_141 : decode cX0_init 141 = .ok (.iconst (-1), 1) := by decide +kernel
theorem dX0_init_142 : decode cX0_init 142 = .ok (.iastore, 1) := by decide +kernel
theorem dX0_init_143 : decode cX0_init 143 = .ok (.aload_n 0, 1) := by decide +kernel
theorem dX0_init_144 : decode cX0_init 144 = .ok (.getfield 34, 3) := by decide +kernel
theorem dX0_init_147 : decode cX0_init 147 = .ok (.iload_n 1, 1) := by decide +kernel
theorem dX0_init_148 : decode cX0_init 148 = .ok (.iconst (-1), 1) := by decide +kernel
theorem dX0_init_149 : decode cX0_init 149 = .ok (.iastore, 1) := by decide +kernel
theorem dX0_init_150 : decode cX0_init 150 = .ok (.iinc 1 1, 3) := by decide +kernel
theorem dX0_init_153 : decode cX0_init 153 = .ok (.goto (-45), 3) := by decide +kernel
theorem dX0_init_156 : decode cX0_init 156 = .ok (.return_, 1) := by decide +kernel
theorem dX0_isShut_0 : decode cX0_isShut 0 = .ok (.aload_n 0, 1) := by decide +kernel
theorem dX0_isShut_1 : decode cX0_isShut 1 = .ok (.getfield 44, 3) := by decide +kernel
theorem dX0_isShut_4 : decode cX0_isShut 4 = .ok (.ifCond .eq 21, 3) := by decide +kernel
theorem dX0_isShut_7 : decode cX0_isShut 7 = .ok (.aload_n 0, 1) := by decide +kernel
theorem dX0_isShut_8 : decode cX0_isShut 8 = .ok (.getfield 44, 3) := by decide +kernel
theorem dX0_isShut_11 : decode cX0_isShut 11 = .ok (.bipush 6, 2) := by decide +kernel
theorem dX0_isShut_13 : decode cX0_isShut 13 = .ok (.if_icmp .eq 12, 3) := by decide +kernel
theorem dX0_isShut_16 : decode cX0_isShut 16 = .ok (.aload_n 0, 1) := by decide +kernel
theorem dX0_isShut_17 : decode cX0_isShut 17 = .ok (.getfield 44, 3) := by decide +kernel
theorem dX0_isShut_20 : decode cX0_isShut 20 = .ok (.bipush 7, 2) := by decide +kernel
theorem dX0_isShut_22 : decode cX0_isShut 22 = .ok (.if_icmp .ne 7, 3) := by decide +kernel
theorem dX0_isShut_25 : decode cX0_isShut 25 = .ok (.iconst 1, 1) := by decide +kernel
theorem dX0_isShut_26 : decode cX0_isShut 26 = .ok (.goto 4, 3) := by decide +kernel
theorem dX0_isShut_29 : decode cX0_isShut 29 = .ok (.iconst 0, 1) := by decide +kernel
theorem dX0_isShut_30 : decode cX0_isShut 30 = .ok (.ireturn, 1) := by decide +kernel
set_option maxRecDepth 20000 in
theorem ggX0_isUp_X0_isShut : GoodIn wsX0_isUp wsX0_isShut := goodIn_r _ [6, 1, 7, 8, 9, 10, 11, 12, 13, 14, 15, 16, 17, 18, 19, 20, 21, 22] (by decide +kernel) (by decide +kernel)
set_option maxRecDepth 20000 in
theorem gX0_isUp_X0_isShut : GoodIn wsX0_isUp (wsV RX0 66 RX0 yX0_isShut wsX0_isShut) := goodIn_app (goodIn_of _ (by decide +kernel)) ggX0_isUp_X0_isShut
theorem dX0_isUp_0 : decode cX0_isUp 0 = .ok (.aload_n 0, 1) := by decide +kernel
theorem dX0_isUp_1 : decode cX0_isUp 1 = .ok (.invokevirtual 66, 3) := by decide +kernel
theorem dX0_isUp_4 : decode cX0_isUp 4 = .ok (.ifCond .ne 15, 3) := by decide +kernel
theorem dX0_isUp_7 : decode cX0_isUp 7 = .ok (.aload_n 0, 1) := by decide +kernel
theorem dX0_isUp_8 : decode cX0_isUp 8 = .ok (.getfield 44, 3) := by decide +kernel
theorem dX0_isUp_11 : decode cX0_isUp 11 = .ok (.iconst 5, 1) := by decide +kernel
theorem dX0_isUp_12 : decode cX0_isUp 12 = .ok (.if_icmp .eq 7, 3) := by decide +kernel
theorem dX0_isUp_15 : decode cX0_isUp 15 = .ok (.iconst 1, 1) := by decide +kernel
theorem dX0_isUp_16 : decode cX0_isUp 16 = .ok (.goto 4, 3) := by decide +kernel
theorem dX0_isUp_19 : decode cX0_isUp 19 = .ok (.iconst 0, 1) := by decide +kernel
theorem dX0_isUp_20 : decode cX0_isUp 20 = .ok (.ireturn, 1) := by decide +kernel
set_option maxRecDepth 20000 in
theorem ggX0_isWaiting_X0_isShut : GoodIn wsX0_isWaiting wsX0_isShut := goodIn_r _ [6, 1, 7, 8, 9, 10, 11, 12, 13, 14, 15, 16, 17, 18, 19, 20, 21, 22] (by decide +kernel) (by decide +kernel)
set_option maxRecDepth 20000 in
theorem gX0_isWaiting_X0_isShut : GoodIn wsX0_isWaiting (wsV RX0 66 RX0 yX0_isShut wsX0_isShut) := goodIn_app (goodIn_of _ (by decide +kernel)) ggX0_isWaiting_X0_isShut
theorem dX0_isWaiting_0 : decode cX0_isWaiting 0 = .ok (.aload_n 0, 1) := by decide +kernel
theorem dX0_isWaiting_1 : decode cX0_isWaiting 1 = .ok (.invokevirtual 66, 3) := by decide +kernel
theorem dX0_isWaiting_4 : decode cX0_isWaiting 4 = .ok (.ifCond .ne 15, 3) := by decide +kernel
theorem dX0_isWaiting_7 : decode cX0_isWaiting 7 = .ok (.aload_n 0, 1) := by decide +kernel
theorem dX0_isWaiting_8 : decode cX0_isWaiting 8 = .ok (.getfield 44, 3) := by decide +kernel
theorem dX0_isWaiting_11 : decode cX0_isWaiting 11 = .ok (.iconst 4, 1) := by decide +kernel
theorem dX0_isWaiting_12 : decode cX0_isWaiting 12 = .ok (.if_icmp .eq 7, 3) := by decide +kernel
theorem dX0_isWaiting_15 : decode cX0_isWaiting 15 = .ok (.iconst 1, 1) := by decide +kernel
theorem dX0_isWaiting_16 : decode cX0_isWaiting 16 = .ok (.goto 4, 3) := by decide +kernel
theorem dX0_isWaiting_19 : decode cX0_isWaiting 19 = .ok (.iconst 0, 1) := by decide +kernel
theorem dX0_isWaiting_20 : decode cX0_isWaiting 20 = .ok (.ireturn, 1) := by decide +kernel
theorem dX0_becomeOpened_0 : decode cX0_becomeOpened 0 = .ok (.aload_n 0, 1) := by decide +kernel
theorem dX0_becomeOpened_1 : decode cX0_becomeOpened 1 = .ok (.iconst 4, 1) := by decide +kernel
theorem dX0_becomeOpened_2 : decode cX0_becomeOpened 2 = .ok (.putfield 44, 3) := by decide +kernel
theorem dX0_becomeOpened_5 : decode cX0_becomeOpened 5 = .ok (.aload_n 0, 1) := by decide +kernel
theorem dX0_becomeOpened_6 : decode cX0_becomeOpened 6 = .ok (.bipush 10, 2) := by decide +kernel
theorem dX0_becomeOpened_8 : decode cX0_becomeOpened 8 = .ok (.putfield 54, 3) := by decide +kernel
theorem dX0_becomeOpened_11 : decode cX0_becomeOpened 11 = .ok (.return_, 1) := by decide +kernel
set_option maxRecDepth 20000 in
theorem ggX0_moveOnAfterYes_X0_becomeOpened : GoodIn wsX0_moveOnAfterYes wsX0_becomeOpened := goodIn_r _ [6, 1, 7, 8, 9, 10, 11, 12, 13, 14, 15, 16, 17, 18, 19, 20, 21, 22, 23] (by decide +kernel) (by decide +kernel)
set_option maxRecDepth 20000 in
theorem gX0_moveOnAfterYes_X0_becomeOpened : GoodIn wsX0_moveOnAfterYes (wsV RX0 70 RX0 yX0_becomeOpened wsX0_becomeOpened) := goodIn_app (goodIn_of _ (by decide +kernel)) ggX0_moveOnAfterYes_X0_becomeOpened
theorem dX0_moveOnAfterYes_0 : decode cX0_moveOnAfterYes 0 = .ok (.aload_n 0, 1) := by decide +kernel
theorem dX0_moveOnAfterYes_1 : decode cX0_moveOnAfterYes 1 = .ok (.getfield 44, 3) := by decide +kernel
theorem dX0_moveOnAfterYes_4 : decode cX0_moveOnAfterYes 4 = .ok (.iconst 1, 1) := by decide +kernel
theorem dX0_moveOnAfterYes_5 : decode cX0_moveOnAfterYes 5 = .ok (.if_icmp .ne 11, 3) := by decide +kernel
theorem dX0_moveOnAfterYes_8 : decode cX0_moveOnAfterYes 8 = .ok (.aload_n 0, 1) := by decide +kernel
theorem dX0_moveOnAfterYes_9 : decode cX0_moveOnAfterYes 9 = .ok (.iconst 3, 1) := by decide +kernel
theorem dX0_moveOnAfterYes_10 : decode cX0_moveOnAfterYes 10 = .ok (.putfield 44, 3) := by decide +kernel
theorem dX0_moveOnAfterYes_13 : decode cX0_moveOnAfterYes 13 = .ok (.goto 15, 3) := by decide +kernel
theorem dX0_moveOnAfterYes_16 : decode cX0_moveOnAfterYes 16 = .ok (.aload_n 0, 1) := by decide +kernel
theorem dX0_moveOnAfterYes_17 : decode cX0_moveOnAfterYes 17 = .ok (.getfield 44, 3) := by decide +kernel
theorem dX0_moveOnAfterYes_20 : decode cX0_moveOnAfterYes 20 = .ok (.iconst 2, 1) := by decide +kernel
theorem dX0_moveOnAfterYes_21 : decode cX0_moveOnAfterYes 21 = .ok (.if_icmp .ne 7, 3) := by decide +kernel
theorem dX0_moveOnAfterYes_24 : decode cX0_moveOnAfterYes 24 = .ok (.aload_n 0, 1) := by decide +kernel
theorem dX0_moveOnAfterYes_25 : decode cX0_moveOnAfterYes 25 = .ok (.invokevirtual 70, 3) := by decide +kernel
theorem dX0_moveOnAfterYes_28 : decode cX0_moveOnAfterYes 28 = .ok (.return_, 1) := by decide +kernel
theorem dX0_countLoop_0 : decode cX0_countLoop 0 = .ok (.aload_n 0, 1) := by decide +kernel
theorem dX0_countLoop_1 : decode cX0_countLoop 1 = .ok (.dup, 1) := by decide +kernel
theorem dX0_countLoop_2 : decode cX0_countLoop 2 = .ok (.getfield 60, 3) := by decide +kernel
theorem dX0_countLoop_5 : decode cX0_countLoop 5 = .ok (.iconst 1, 1) := by decide +kernel
theorem dX0_countLoop_6 : decode cX0_countLoop 6 = .ok (.iadd, 1) := by decide +kernel
theorem dX0_countLoop_7 : decode cX0_countLoop 7 = .ok (.putfield 60, 3) := by decide +kernel
theorem dX0_countLoop_10 : decode cX0_countLoop 10 = .ok (.aload_n 0, 1) := by decide +kernel
theorem dX0_countLoop_11 : decode cX0_countLoop 11 = .ok (.getfield 60, 3) := by decide +kernel
theorem dX0_countLoop_14 : decode cX0_countLoop 14 = .ok (.iconst 3, 1) := by decide +kernel
theorem dX0_countLoop_15 : decode cX0_countLoop 15 = .ok (.if_icmp .ne 9, 3) := by decide +kernel
theorem dX0_countLoop_18 : decode cX0_countLoop 18 = .ok (.aload_n 0, 1) := by decide +kernel
theorem dX0_countLoop_19 : decode cX0_countLoop 19 = .ok (.bipush 7, 2) := by decide +kernel
theorem dX0_countLoop_21 : decode cX0_countLoop 21 = .ok (.putfield 44, 3) := by decide +kernel
theorem dX0_countLoop_24 : decode cX0_countLoop 24 = .ok (.return_, 1) := by decide +kernel
theorem dX0_takeCounter_0 : decode cX0_takeCounter 0 = .ok (.iconst 0, 1) := by decide +kernel
theorem dX0_takeCounter_1 : decode cX0_takeCounter 1 = .ok (.istore_n 2, 1) := by decide +kernel
theorem dX0_takeCounter_2 : decode cX0_takeCounter 2 = .ok (.iload_n 2, 1) := by decide +kernel
theorem dX0_takeCounter_3 : decode cX0_takeCounter 3 = .ok (.iconst 4, 1) := by decide +kernel
theorem dX0_takeCounter_4 : decode cX0_takeCounter 4 = .ok (.if_icmp .ge 61, 3) := by decide +kernel
theorem dX0_takeCounter_7 : decode cX0_takeCounter 7 = .ok (.aload_n 1, 1) := by decide +kernel
theorem dX0_takeCounter_8 : decode cX0_takeCounter 8 = .ok (.iload_n 2, 1) := by decide +kernel
theorem dX0_takeCounter_9 : decode cX0_takeCounter 9 = .ok (.iaload, 1) := by decide +kernel
theorem dX0_takeCounter_10 : decode cX0_takeCounter 10 = .ok (.istore_n 3, 1) := by decide +kernel
theorem dX0_takeCounter_11 : decode cX0_takeCounter 11 = .ok (.iload_n 3, 1) := by decide +kernel
theorem dX0_takeCounter_12 : decode cX0_takeCounter 12 = .ok (.iconst (-1), 1) := by decide +kernel
theorem dX0_takeCounter_13 : decode cX0_takeCounter 13 = .ok (.if_icmp .eq 46, 3) := by decide +kernel
theorem dX0_takeCounter_16 : decode cX0_takeCounter 16 = .ok (.iload_n 3, 1) := by decide +kernel
theorem dX0_takeCounter_17 : decode cX0_takeCounter 17 = .ok (.aload_n 0, 1) := by decide +kernel
theorem dX0_takeCounter_18 : decode cX0_takeCounter 18 = .ok (.getfield 15, 3) := by decide +kernel
theorem dX0_takeCounter_21 : decode cX0_takeCounter 21 = .ok (.iload_n 2, 1) := by decide +kernel
theorem dX0_takeCounter_22 : decode cX0_takeCounter 22 = .ok (.iaload, 1) := by decide +kernel
theorem dX0_takeCounter_23 : decode cX0_takeCounter 23 = .ok (.if_icmp .lt 17, 3) := by decide +kernel
theorem dX0_takeCounter_26 : decode cX0_takeCounter 26 = .ok (.iload_n 3, 1) := by decide +kernel
theorem dX0_takeCounter_27 : decode cX0_takeCounter 27 = .ok (.aload_n 0, 1) := by decide +kernel
theorem dX0_takeCounter_28 : decode cX0_takeCounter 28 = .ok (.getfield 18, 3) := by decide +kernel
theorem dX0_takeCounter_31 : decode cX0_takeCounter 31 = .ok (.iload_n 2, 1) := by decide +kernel
theorem dX0_takeCounter_32 : decode cX0_takeCounter 32 = .ok (.iaload, 1) := by decide +kernel
theorem dX0_takeCounter_33 : decode cX0_takeCounter 33 = .ok (.if_icmp .gt 7, 3) := by decide +kernel
theorem dX0_takeCounter_36 : decode cX0_takeCounter 36 = .ok (.iconst 1, 1) := by decide +kernel
theorem dX0_takeCounter_37 : decode cX0_takeCounter 37 = .ok (.goto 4, 3) := by decide +kernel
theorem dX0_takeCounter_40 : decode cX0_takeCounter 40 = .ok (.iconst 0, 1) := by decide +kernel
theorem dX0_takeCounter_41 : decode cX0_takeCounter 41 = .ok (.istore 4, 2) := by decide +kernel
theorem dX0_takeCounter_43 : decode cX0_takeCounter 43 = .ok (.aload_n 0, 1) := by decide +kernel
theorem dX0_takeCounter_44 : decode cX0_takeCounter 44 = .ok (.getfield 31, 3) := by decide +kernel
theorem dX0_takeCounter_47 : decode cX0_takeCounter 47 = .ok (.iload_n 2, 1) := by decide +kernel
theorem dX0_takeCounter_48 : decode cX0_takeCounter 48 = .ok (.iload 4, 2) := by decide +kernel
theorem dX0_takeCounter_50 : decode cX0_takeCounter 50 = .ok (.ifCond .eq 7, 3) := by decide +kernel
theorem dX0_takeCounter_53 : decode cX0_takeCounter 53 = .ok (.iload_n 3, 1) := by decide +kernel
theorem dX0_takeCounter_54 : decode cX0_takeCounter 54 = .ok (.goto 4, 3) := by decide +kernel
theorem dX0_takeCounter_57 : decode cX0_takeCounter 57 = .ok (.iconst (-1), 1) := by decide +kernel
theorem dX0_takeCounter_58 : decode cX0_takeCounter 58 = .ok (.iastore, 1) := by decide +kernel
theorem dX0_takeCounter_59 : decode cX0_takeCounter 59 = .ok (.iinc 2 1, 3) := by decide +kernel
theorem dX0_takeCounter_62 : decode cX0_takeCounter 62 = .ok (.goto (-60), 3) := by decide +kernel
theorem dX0_takeCounter_65 : decode cX0_takeCounter 65 = .ok (.return_, 1) := by decide +kernel
theorem dX0_takeRefusal_0 : decode cX0_takeRefusal 0 = .ok (.iconst 0, 1) := by decide +kernel
theorem dX0_takeRefusal_1 : decode cX0_takeRefusal 1 = .ok (.istore_n 2, 1) := by decide +kernel
theorem dX0_takeRefusal_2 : decode cX0_takeRefusal 2 = .ok (.iload_n 2, 1) := by decide +kernel
theorem dX0_takeRefusal_3 : decode cX0_takeRefusal 3 = .ok (.iconst 4, 1) := by decide +kernel
theorem dX0_takeRefusal_4 : decode cX0_takeRefusal 4 = .ok (.if_icmp .ge 23, 3) := by decide +kernel
theorem dX0_takeRefusal_7 : decode cX0_takeRefusal 7 = .ok (.aload_n 1, 1) := by decide +kernel
theorem dX0_takeRefusal_8 : decode cX0_takeRefusal 8 = .ok (.iload_n 2, 1) := by decide +kernel
theorem dX0_takeRefusal_9 : decode cX0_takeRefusal 9 = .ok (.iaload, 1) := by decide +kernel
theorem dX0_takeRefusal_10 : decode cX0_takeRefusal 10 = .ok (.iconst (-1), 1) := by decide +kernel
theorem dX0_takeRefusal_11 : decode cX0_takeRefusal 11 = .ok (.if_icmp .eq 10, 3) := by decide +kernel
theorem dX0_takeRefusal_14 : decode cX0_takeRefusal 14 = .ok (.aload_n 0, 1) := by decide +kernel
theorem dX0_takeRefusal_15 : decode cX0_takeRefusal 15 = .ok (.getfield 31, 3) := by decide +kernel
theorem dX0_takeRefusal_18 : decode cX0_takeRefusal 18 = .ok (.iload_n 2, 1) := by decide +kernel
theorem dX0_takeRefusal_19 : decode cX0_takeRefusal 19 = .ok (.iconst (-1), 1) := by decide +kernel
theorem dX0_takeRefusal_20 : decode cX0_takeRefusal 20 = .ok (.iastore, 1) := by decide +kernel
theorem dX0_takeRefusal_21 : decode cX0_takeRefusal 21 = .ok (.iinc 2 1, 3) := by decide +kernel
theorem dX0_takeRefusal_24 : decode cX0_takeRefusal 24 = .ok (.goto (-22), 3) := by decide +kernel
theorem dX0_takeRefusal_27 : decode cX0_takeRefusal 27 = .ok (.return_, 1) := by decide +kernel
set_option maxRecDepth 20000 in
theorem ggX0_judge_X0_putRefused : GoodIn wsX0_judge wsX0_putRefused := goodIn_r _ [5, 6, 23, 24, 25, 26, 27, 28, 29, 30, 31, 32, 33, 34, 35, 36, 37, 38] (by decide +kernel) (by decide +kernel)
set_option maxRecDepth 20000 in
theorem gX0_judge_X0_putRefused : GoodIn wsX0_judge (wsV RX0 73 RX0 yX0_putRefused wsX0_putRefused) := goodIn_app (goodIn_of _ (by decide +kernel)) ggX0_judge_X0_putRefused
set_option maxRecDepth 20000 in
theorem ggX0_judge_X0_putNearest : GoodIn wsX0_judge wsX0_putNearest := goodIn_r _ [10, 11, 12, 13, 14, 15, 16, 17, 18, 19, 23, 24, 25, 26, 27, 28, 29, 30, 31, 32, 33, 34, 35, 36, 37, 38] (by decide +kernel) (by decide +kernel)
set_option maxRecDepth 20000 in
theorem gX0_judge_X0_putNearest : GoodIn wsX0_judge (wsV RX0 77 RX0 yX0_putNearest wsX0_putNearest) := goodIn_app (goodIn_of _ (by decide +kernel)) ggX0_judge_X0_putNearest
set_option maxRecDepth 20000 in
theorem ggX0_judge_X3_copyValues : GoodIn wsX0_judge wsX3_copyValues := goodIn_r _ [22] (by decide +kernel) (by decide +kernel)
set_option maxRecDepth 20000 in
theorem gX0_judge_X3_copyValues_n80 : GoodIn wsX0_judge (wsX3_copyValues) := ggX0_judge_X3_copyValues
theorem dX0_judge_0 : decode cX0_judge 0 = .ok (.aload_n 0, 1) := by decide +kernel
theorem dX0_judge_1 : decode cX0_judge 1 = .ok (.aload_n 1, 1) := by decide +kernel
theorem dX0_judge_2 : decode cX0_judge 2 = .ok (.aload_n 2, 1) := by decide +kernel
theorem dX0_judge_3 : decode cX0_judge 3 = .ok (.invokevirtual 73, 3) := by decide +kernel
theorem dX0_judge_6 : decode cX0_judge 6 = .ok (.ifCond .eq 5, 3) := by decide +kernel
theorem dX0_judge_9 : decode cX0_judge 9 = .ok (.iconst 3, 1) := by decide +kernel
theorem dX0_judge_10 : decode cX0_judge 10 = .ok (.ireturn, 1) := by decide +kernel
theorem dX0_judge_11 : decode cX0_judge 11 = .ok (.aload_n 0, 1) := by decide +kernel
theorem dX0_judge_12 : decode cX0_judge 12 = .ok (.aload_n 1, 1) := by decide +kernel
theorem dX0_judge_13 : decode cX0_judge 13 = .ok (.aload_n 2, 1) := by decide +kernel
theorem dX0_judge_14 : decode cX0_judge 14 = .ok (.invokevirtual 77, 3) := by decide +kernel
theorem dX0_judge_17 : decode cX0_judge 17 = .ok (.ifCond .eq 5, 3) := by decide +kernel
theorem dX0_judge_20 : decode cX0_judge 20 = .ok (.iconst 2, 1) := by decide +kernel
theorem dX0_judge_21 : decode cX0_judge 21 = .ok (.ireturn, 1) := by decide +kernel
theorem dX0_judge_22 : decode cX0_judge 22 = .ok (.aload_n 1, 1) := by decide +kernel
theorem dX0_judge_23 : decode cX0_judge 23 = .ok (.aload_n 2, 1) := by decide +kernel
theorem dX0_judge_24 : decode cX0_judge 24 = .ok (.invokestatic 80, 3) := by decide +kernel
theorem dX0_judge_27 : decode cX0_judge 27 = .ok (.iconst 1, 1) := by decide +kernel
theorem dX0_judge_28 : decode cX0_judge 28 = .ok (.ireturn, 1) := by decide +kernel
theorem dX0_putRefused_0 : decode cX0_putRefused 0 = .ok (.iconst 0, 1) := by decide +kernel
theorem dX0_putRefused_1 : decode cX0_putRefused 1 = .ok (.istore_n 3, 1) := by decide +kernel
theorem dX0_putRefused_2 : decode cX0_putRefused 2 = .ok (.iconst 0, 1) := by decide +kernel
theorem dX0_putRefused_3 : decode cX0_putRefused 3 = .ok (.istore 4, 2) := by decide +kernel
theorem dX0_putRefused_5 : decode cX0_putRefused 5 = .ok (.iload 4, 2) := by decide +kernel
theorem dX0_putRefused_7 : decode cX0_putRefused 7 = .ok (.iconst 4, 1) := by decide +kernel
theorem dX0_putRefused_8 : decode cX0_putRefused 8 = .ok (.if_icmp .ge 66, 3) := by decide +kernel
theorem dX0_putRefused_11 : decode cX0_putRefused 11 = .ok (.aload_n 1, 1) := by decide +kernel
theorem dX0_putRefused_12 : decode cX0_putRefused 12 = .ok (.iload 4, 2) := by decide +kernel
theorem dX0_putRefused_14 : decode cX0_putRefused 14 = .ok (.iaload, 1) := by decide +kernel
theorem dX0_putRefused_15 : decode cX0_putRefused 15 = .ok (.iconst (-1), 1) := by decide +kernel
theorem dX0_putRefused_16 : decode cX0_putRefused 16 = .ok (.if_icmp .eq 17, 3) := by decide +kernel
theorem dX0_putRefused_19 : decode cX0_putRefused 19 = .ok (.aload_n 0, 1) := by decide +kernel
theorem dX0_putRefused_20 : decode cX0_putRefused 20 = .ok (.getfield 27, 3) := by decide +kernel
theorem dX0_putRefused_23 : decode cX0_putRefused 23 = .ok (.iload 4, 2) := by decide +kernel
theorem dX0_putRefused_25 : decode cX0_putRefused 25 = .ok (.baload, 1) := by decide +kernel
theorem dX0_putRefused_26 : decode cX0_putRefused 26 = .ok (.ifCond .eq 7, 3) := by decide +kernel
theorem dX0_putRefused_29 : decode cX0_putRefused 29 = .ok (.iconst 1, 1) := by decide +kernel
theorem dX0_putRefused_30 : decode cX0_putRefused 30 = .ok (.goto 4, 3) := by decide +kernel
theorem dX0_putRefused_33 : decode cX0_putRefused 33 = .ok (.iconst 0, 1) := by decide +kernel
theorem dX0_putRefused_34 : decode cX0_putRefused 34 = .ok (.istore 5, 2) := by decide +kernel
theorem dX0_putRefused_36 : decode cX0_putRefused 36 = .ok (.aload_n 2, 1) := by decide +kernel
theorem dX0_putRefused_37 : decode cX0_putRefused 37 = .ok (.iload 4, 2) := by decide +kernel
theorem dX0_putRefused_39 : decode cX0_putRefused 39 = .ok (.iload 5, 2) := by decide +kernel
theorem dX0_putRefused_41 : decode cX0_putRefused 41 = .ok (.ifCond .eq 10, 3) := by decide +kernel
theorem dX0_putRefused_44 : decode cX0_putRefused 44 = .ok (.aload_n 1, 1) := by decide +kernel
theorem dX0_putRefused_45 : decode cX0_putRefused 45 = .ok (.iload 4, 2) := by decide +kernel
theorem dX0_putRefused_47 : decode cX0_putRefused 47 = .ok (.iaload, 1) := by decide +kernel
theorem dX0_putRefused_48 : decode cX0_putRefused 48 = .ok (.goto 4, 3) := by decide +kernel
theorem dX0_putRefused_51 : decode cX0_putRefused 51 = .ok (.iconst (-1), 1) := by decide +kernel
theorem dX0_putRefused_52 : decode cX0_putRefused 52 = .ok (.iastore, 1) := by decide +kernel
theorem dX0_putRefused_53 : decode cX0_putRefused 53 = .ok (.iload_n 3, 1) := by decide +kernel
theorem dX0_putRefused_54 : decode cX0_putRefused 54 = .ok (.ifCond .ne 8, 3) := by decide +kernel
theorem dX0_putRefused_57 : decode cX0_putRefused 57 = .ok (.iload 5, 2) := by decide +kernel
theorem dX0_putRefused_59 : decode cX0_putRefused 59 = .ok (.ifCond .eq 7, 3) := by decide +kernel
theorem dX0_putRefused_62 : decode cX0_putRefused 62 = .ok (.iconst 1, 1) := by decide +kernel
theorem dX0_putRefused_63 : decode cX0_putRefused 63 = .ok (.goto 4, 3) := by decide +kernel
theorem dX0_putRefused_66 : decode cX0_putRefused 66 = .ok (.iconst 0, 1) := by decide +kernel
theorem dX0_putRefused_67 : decode cX0_putRefused 67 = .ok (.istore_n 3, 1) := by decide +kernel
theorem dX0_putRefused_68 : decode cX0_putRefused 68 = .ok (.iinc 4 1, 3) := by decide +kernel
theorem dX0_putRefused_71 : decode cX0_putRefused 71 = .ok (.goto (-66), 3) := by decide +kernel
theorem dX0_putRefused_74 : decode cX0_putRefused 74 = .ok (.iload_n 3, 1) := by decide +kernel
theorem dX0_putRefused_75 : decode cX0_putRefused 75 = .ok (.ireturn, 1) := by decide +kernel
theorem dX0_putNearest_0 : decode cX0_putNearest 0 = .ok (.iconst 0, 1) := by decide +kernel
theorem dX0_putNearest_1 : decode cX0_putNearest 1 = .ok (.istore_n 3, 1) := by decide +kernel
theorem dX0_putNearest_2 : decode cX0_putNearest 2 = .ok (.iconst 0, 1) := by decide +kernel
theorem dX0_putNearest_3 : decode cX0_putNearest 3 = .ok (.istore 4, 2) := by decide +kernel
theorem dX0_putNearest_5 : decode cX0_putNearest 5 = .ok (.iload 4, 2) := by decide +kernel
theorem dX0_putNearest_7 : decode cX0_putNearest 7 = .ok (.iconst 4, 1) := by decide +kernel
theorem dX0_putNearest_8 : decode cX0_putNearest 8 = .ok (.if_icmp .ge 89, 3) := by decide +kernel
theorem dX0_putNearest_11 : decode cX0_putNearest 11 = .ok (.aload_n 1, 1) := by decide +kernel
theorem dX0_putNearest_12 : decode cX0_putNearest 12 = .ok (.iload 4, 2) := by decide +kernel
theorem dX0_putNearest_14 : decode cX0_putNearest 14 = .ok (.iaload, 1) := by decide +kernel
theorem dX0_putNearest_15 : decode cX0_putNearest 15 = .ok (.istore 5, 2) := by decide +kernel
theorem dX0_putNearest_17 : decode cX0_putNearest 17 = .ok (.iload 5, 2) := by decide +kernel
theorem dX0_putNearest_19 : decode cX0_putNearest 19 = .ok (.aload_n 0, 1) := by decide +kernel
theorem dX0_putNearest_20 : decode cX0_putNearest 20 = .ok (.getfield 21, 3) := by decide +kernel
theorem dX0_putNearest_23 : decode cX0_putNearest 23 = .ok (.iload 4, 2) := by decide +kernel
theorem dX0_putNearest_25 : decode cX0_putNearest 25 = .ok (.iaload, 1) := by decide +kernel
theorem dX0_putNearest_26 : decode cX0_putNearest 26 = .ok (.invokestatic 84, 3) := by decide +kernel
theorem dX0_putNearest_29 : decode cX0_putNearest 29 = .ok (.aload_n 0, 1) := by decide +kernel
theorem dX0_putNearest_30 : decode cX0_putNearest 30 = .ok (.getfield 24, 3) := by decide +kernel
theorem dX0_putNearest_33 : decode cX0_putNearest 33 = .ok (.iload 4, 2) := by decide +kernel
theorem dX0_putNearest_35 : decode cX0_putNearest 35 = .ok (.iaload, 1) := by decide +kernel
theorem dX0_putNearest_36 : decode cX0_putNearest 36 = .ok (.invokestatic 90, 3) := by decide +kernel
theorem dX0_putNearest_39 : decode cX0_putNearest 39 = .ok (.istore 6, 2) := by decide +kernel
theorem dX0_putNearest_41 : decode cX0_putNearest 41 = .ok (.iload 5, 2) := by decide +kernel
theorem dX0_putNearest_43 : decode cX0_putNearest 43 = .ok (.iconst (-1), 1) := by decide +kernel
theorem dX0_putNearest_44 : decode cX0_putNearest 44 = .ok (.if_icmp .eq 14, 3) := by decide +kernel
theorem dX0_putNearest_47 : decode cX0_putNearest 47 = .ok (.iload 5, 2) := by decide +kernel
theorem dX0_putNearest_49 : decode cX0_putNearest 49 = .ok (.iload 6, 2) := by decide +kernel
theorem dX0_putNearest_51 : decode cX0_putNearest 51 = .ok (.if_icmp .eq 7, 3) := by decide +kernel
theorem dX0_putNearest_54 : decode cX0_putNearest 54 = .ok (.iconst 1, 1) := by decide +kernel
theorem dX0_putNearest_55 : decode cX0_putNearest 55 = .ok (.goto 4, 3) := by decide +kernel
theorem dX0_putNearest_58 : decode cX0_putNearest 58 = .ok (.iconst 0, 1) := by decide +kernel
theorem dX0_putNearest_59 : decode cX0_putNearest 59 = .ok (.istore 7, 2) := by decide +kernel
theorem dX0_putNearest_61 : decode cX0_putNearest 61 = .ok (.aload_n 2, 1) := by decide +kernel
theorem dX0_putNearest_62 : decode cX0_putNearest 62 = .ok (.iload 4, 2) := by decide +kernel
theorem dX0_putNearest_64 : decode cX0_putNearest 64 = .ok (.iload 7, 2) := by decide +kernel
theorem dX0_putNearest_66 : decode cX0_putNearest 66 = .ok (.ifCond .eq 8, 3) := by decide +kernel
theorem dX0_putNearest_69 : decode cX0_putNearest 69 = .ok (.iload 6, 2) := by decide +kernel
theorem dX0_putNearest_71 : decode cX0_putNearest 71 = .ok (.goto 4, 3) := by decide +kernel
theorem dX0_putNearest_74 : decode cX0_putNearest 74 = .ok (.iconst (-1), 1) := by decide +kernel
theorem dX0_putNearest_75 : decode cX0_putNearest 75 = .ok (.iastore, 1) := by decide +kernel
theorem dX0_putNearest_76 : decode cX0_putNearest 76 = .ok (.iload_n 3, 1) := by decide +kernel
theorem dX0_putNearest_77 : decode cX0_putNearest 77 = .ok (.ifCond .ne 8, 3) := by decide +kernel
theorem dX0_putNearest_80 : decode cX0_putNearest 80 = .ok (.iload 7, 2) := by decide +kernel
theorem dX0_putNearest_82 : decode cX0_putNearest 82 = .ok (.ifCond .eq 7, 3) := by decide +kernel
theorem dX0_putNearest_85 : decode cX0_putNearest 85 = .ok (.iconst 1, 1) := by decide +kernel
theorem dX0_putNearest_86 : decode cX0_putNearest 86 = .ok (.goto 4, 3) := by decide +kernel
theorem dX0_putNearest_89 : decode cX0_putNearest 89 = .ok (.iconst 0, 1) := by decide +kernel
theorem dX0_putNearest_90 : decode cX0_putNearest 90 = .ok (.istore_n 3, 1) := by decide +kernel
theorem dX0_putNearest_91 : decode cX0_putNearest 91 = .ok (.iinc 4 1, 3) := by decide +kernel
theorem dX0_putNearest_94 : decode cX0_putNearest 94 = .ok (.goto (-89), 3) := by decide +kernel
theorem dX0_putNearest_97 : decode cX0_putNearest 97 = .ok (.iload_n 3, 1) := by decide +kernel
theorem dX0_putNearest_98 : decode cX0_putNearest 98 = .ok (.ireturn, 1) := by decide +kernel
theorem dX1_init_0 : decode cX1_init 0 = .ok (.aload_n 0, 1) := by decide +kernel
theorem dX1_init_1 : decode cX1_init 1 = .ok (.invokespecial 3, 3) := by decide +kernel
theorem dX1_init_4 : decode cX1_init 4 = .ok (.aload_n 0, 1) := by decide +kernel
theorem dX1_init_5 : decode cX1_init 5 = .ok (.iconst 4, 1) := by decide +kernel
theorem dX1_init_6 : decode cX1_init 6 = .ok (.newarray .int, 2) := by decide +kernel
theorem dX1_init_8 : decode cX1_init 8 = .ok (.putfield 9, 3) := by decide +kernel
theorem dX1_init_11 : decode cX1_init 11 = .ok (.aload_n 0, 1) := by decide +kernel
theorem dX1_init_12 : decode cX1_init 12 = .ok (.iconst 0, 1) := by decide +kernel
theorem dX1_init_13 : decode cX1_init 13 = .ok (.putfield 15, 3) := by decide +kernel
theorem dX1_init_16 : decode cX1_init 16 = .ok (.aload_n 0, 1) := by decide +kernel
theorem dX1_init_17 : decode cX1_init 17 = .ok (.iconst 0, 1) := by decide +kernel
theorem dX1_init_18 : decode cX1_init 18 = .ok (.putfield 19, 3) := by decide +kernel
theorem dX1_init_21 : decode cX1_init 21 = .ok (.aload_n 0, 1) := by decide +kernel
theorem dX1_init_22 : decode cX1_init 22 = .ok (.iconst 0, 1) := by decide +kernel
theorem dX1_init_23 : decode cX1_init 23 = .ok (.putfield 22, 3) := by decide +kernel
theorem dX1_init_26 : decode cX1_init 26 = .ok (.return_, 1) := by decide +kernel
theorem dX2_init_0 : decode cX2_init 0 = .ok (.aload_n 0, 1) := by decide +kernel
theorem dX2_init_1 : decode cX2_init 1 = .ok (.invokespecial 3, 3) := by decide +kernel
theorem dX2_init_4 : decode cX2_init 4 = .ok (.aload_n 0, 1) := by decide +kernel
theorem dX2_init_5 : decode cX2_init 5 = .ok (.bipush 12, 2) := by decide +kernel
theorem dX2_init_7 : decode cX2_init 7 = .ok (.newarray .int, 2) := by decide +kernel
theorem dX2_init_9 : decode cX2_init 9 = .ok (.putfield 9, 3) := by decide +kernel
theorem dX2_init_12 : decode cX2_init 12 = .ok (.aload_n 0, 1) := by decide +kernel
theorem dX2_init_13 : decode cX2_init 13 = .ok (.bipush 12, 2) := by decide +kernel
theorem dX2_init_15 : decode cX2_init 15 = .ok (.newarray .int, 2) := by decide +kernel
theorem dX2_init_17 : decode cX2_init 17 = .ok (.putfield 15, 3) := by decide +kernel
theorem dX2_init_20 : decode cX2_init 20 = .ok (.aload_n 0, 1) := by decide +kernel
theorem dX2_init_21 : decode cX2_init 21 = .ok (.bipush 12, 2) := by decide +kernel
theorem dX2_init_23 : decode cX2_init 23 = .ok (.newarray .int, 2) := by decide +kernel
theorem dX2_init_25 : decode cX2_init 25 = .ok (.putfield 18, 3) := by decide +kernel
theorem dX2_init_28 : decode cX2_init 28 = .ok (.aload_n 0, 1) := by decide +kernel
theorem dX2_init_29 : decode cX2_init 29 = .ok (.bipush 48, 2) := by decide +kernel
theorem dX2_init_31 : decode cX2_init 31 = .ok (.newarray .int, 2) := by decide +kernel
theorem dX2_init_33 : decode cX2_init 33 = .ok (.putfield 21, 3) := by decide +kernel
theorem dX2_init_36 : decode cX2_init 36 = .ok (.aload_n 0, 1) := by decide +kernel
theorem dX2_init_37 : decode cX2_init 37 = .ok (.iconst 0, 1) := by decide +kernel
theorem dX2_init_38 : decode cX2_init 38 = .ok (.putfield 24, 3) := by decide +kernel
theorem dX2_init_41 : decode cX2_init 41 = .ok (.aload_n 0, 1) := by decide +kernel
theorem dX2_init_42 : decode cX2_init 42 = .ok (.iconst 0, 1) := by decide +kernel
theorem dX2_init_43 : decode cX2_init 43 = .ok (.putfield 28, 3) := by decide +kernel
theorem dX2_init_46 : decode cX2_init 46 = .ok (.return_, 1) := by decide +kernel
set_option maxRecDepth 20000 in
theorem ggX2_add_X2_slotOf : GoodIn wsX2_add wsX2_slotOf := goodIn_r _ [10, 11, 12, 13, 14, 15, 16, 17] (by decide +kernel) (by decide +kernel)
set_option maxRecDepth 20000 in
theorem gX2_add_X2_slotOf : GoodIn wsX2_add (wsV RX2 31 RX2 yX2_slotOf wsX2_slotOf) := goodIn_app (goodIn_of _ (by decide +kernel)) ggX2_add_X2_slotOf
theorem dX2_add_0 : decode cX2_add 0 = .ok (.aload_n 0, 1) := by decide +kernel
theorem dX2_add_1 : decode cX2_add 1 = .ok (.getfield 28, 3) := by decide +kernel
theorem dX2_add_4 : decode cX2_add 4 = .ok (.bipush 12, 2) := by decide +kernel
theorem dX2_add_6 : decode cX2_add 6 = .ok (.if_icmp .lt 4, 3) := by decide +kernel
theorem dX2_add_9 : decode cX2_add 9 = .ok (.return_, 1) := by decide +kernel
theorem dX2_add_10 : decode cX2_add 10 = .ok (.aload_n 0, 1) := by decide +kernel
theorem dX2_add_11 : decode cX2_add 11 = .ok (.aload_n 0, 1) := by decide +kernel
theorem dX2_add_12 : decode cX2_add 12 = .ok (.getfield 28, 3) := by decide +kernel
theorem dX2_add_15 : decode cX2_add 15 = .ok (.invokevirtual 31, 3) := by decide +kernel
theorem dX2_add_18 : decode cX2_add 18 = .ok (.istore 5, 2) := by decide +kernel
theorem dX2_add_20 : decode cX2_add 20 = .ok (.aload_n 0, 1) := by decide +kernel
theorem dX2_add_21 : decode cX2_add 21 = .ok (.getfield 9, 3) := by decide +kernel
theorem dX2_add_24 : decode cX2_add 24 = .ok (.iload 5, 2) := by decide +kernel
theorem dX2_add_26 : decode cX2_add 26 = .ok (.iload_n 1, 1) := by decide +kernel
theorem dX2_add_27 : decode cX2_add 27 = .ok (.iastore, 1) := by decide +kernel
theorem dX2_add_28 : decode cX2_add 28 = .ok (.aload_n 0, 1) := by decide +kernel
theorem dX2_add_29 : decode cX2_add 29 = .ok (.getfield 15, 3) := by decide +kernel
theorem dX2_add_32 : decode cX2_add 32 = .ok (.iload 5, 2) := by decide +kernel
theorem dX2_add_34 : decode cX2_add 34 = .ok (.iload_n 2, 1) := by decide +kernel
theorem dX2_add_35 : decode cX2_add 35 = .ok (.iastore, 1) := by decide +kernel
theorem dX2_add_36 : decode cX2_add 36 = .ok (.aload_n 0, 1) := by decide +kernel
theorem dX2_add_37 : decode cX2_add 37 = .ok (.getfield 18, 3) := by decide +kernel
theorem dX2_add_40 : decode cX2_add 40 = .ok (.iload 5, 2) := by decide +kernel
theorem dX2_add_42 : decode cX2_add 42 = .ok (.iload_n 3, 1) := by decide +kernel
theorem dX2_add_43 : decode cX2_add 43 = .ok (.iastore, 1) := by decide +kernel
theorem dX2_add_44 : decode cX2_add 44 = .ok (.iconst 0, 1) := by decide +kernel
theorem dX2_add_45 : decode cX2_add 45 = .ok (.istore 6, 2) := by decide +kernel
theorem dX2_add_47 : decode cX2_add 47 = .ok (.iload 6, 2) := by decide +kernel
theorem dX2_add_49 : decode cX2_add 49 = .ok (.iconst 4, 1) := by decide +kernel
theorem dX2_add_50 : decode cX2_add 50 = .ok (.if_icmp .ge 26, 3) := by decide +kernel
theorem dX2_add_53 : decode cX2_add 53 = .ok (.aload_n 0, 1) := by decide +kernel
theorem dX2_add_54 : decode cX2_add 54 = .ok (.getfield 21, 3) := by decide +kernel
theorem dX2_add_57 : decode cX2_add 57 = .ok (.iload 5, 2) := by decide +kernel
theorem dX2_add_59 : decode cX2_add 59 = .ok (.iconst 4, 1) := by decide +kernel
theorem dX2_add_60 : decode cX2_add 60 = .ok (.imul, 1) := by decide +kernel
theorem dX2_add_61 : decode cX2_add 61 = .ok (.iload 6, 2) := by decide +kernel
theorem dX2_add_63 : decode cX2_add 63 = .ok (.iadd, 1) := by decide +kernel
theorem dX2_add_64 : decode cX2_add 64 = .ok (.aload 4, 2) := by decide +kernel
theorem dX2_add_66 : decode cX2_add 66 = .ok (.iload 6, 2) := by decide +kernel
theorem dX2_add_68 : decode cX2_add 68 = .ok (.iaload, 1) := by decide +kernel
theorem dX2_add_69 : decode cX2_add 69 = .ok (.iastore, 1) := by decide +kernel
theorem dX2_add_70 : decode cX2_add 70 = .ok (.iinc 6 1, 3) := by decide +kernel
theorem dX2_add_73 : decode cX2_add 73 = .ok (.goto (-26), 3) := by decide +kernel
theorem dX2_add_76 : decode cX2_add 76 = .ok (.aload_n 0, 1) := by decide +kernel
theorem dX2_add_77 : decode cX2_add 77 = .ok (.dup, 1) := by decide +kernel
theorem dX2_add_78 : decode cX2_add 78 = .ok (.getfield 28, 3) := by decide +kernel
theorem dX2_add_81 : decode cX2_add 81 = .ok (.iconst 1, 1) := by decide +kernel
theorem dX2_add_82 : decode cX2_add 82 = .ok (.iadd, 1) := by decide +kernel
theorem dX2_add_83 : decode cX2_add 83 = .ok (.putfield 28, 3) := by decide +kernel
theorem dX2_add_86 : decode cX2_add 86 = .ok (.return_, 1) := by decide +kernel
set_option maxRecDepth 20000 in
theorem ggX2_takeFirst_X2_dropFirst : GoodIn wsX2_takeFirst wsX2_dropFirst := goodIn_r _ [14, 2, 15, 16, 17, 18, 13, 19, 20, 21, 22, 23, 24, 25] (by decide +kernel) (by decide +kernel)
set_option maxRecDepth 20000 in
theorem gX2_takeFirst_X2_dropFirst : GoodIn wsX2_takeFirst (wsV RX2 47 RX2 yX2_dropFirst wsX2_dropFirst) := goodIn_app (goodIn_of _ (by decide +kernel)) ggX2_takeFirst_X2_dropFirst
theorem dX2_takeFirst_0 : decode cX2_takeFirst 0 = .ok (.aload_n 1, 1) := by decide +kernel
theorem dX2_takeFirst_1 : decode cX2_takeFirst 1 = .ok (.aload_n 0, 1) := by decide +kernel
theorem dX2_takeFirst_2 : decode cX2_takeFirst 2 = .ok (.getfield 9, 3) := by decide +kernel
theorem dX2_takeFirst_5 : decode cX2_takeFirst 5 = .ok (.aload_n 0, 1) := by decide +kernel
theorem dX2_takeFirst_6 : decode cX2_takeFirst 6 = .ok (.getfield 24, 3) := by decide +kernel
theorem dX2_takeFirst_9 : decode cX2_takeFirst 9 = .ok (.iaload, 1) := by decide +kernel
theorem dX2_takeFirst_10 : decode cX2_takeFirst 10 = .ok (.putfield 35, 3) := by decide +kernel
theorem dX2_takeFirst_13 : decode cX2_takeFirst 13 = .ok (.aload_n 1, 1) := by decide +kernel
theorem dX2_takeFirst_14 : decode cX2_takeFirst 14 = .ok (.aload_n 0, 1) := by decide +kernel
theorem dX2_takeFirst_15 : decode cX2_takeFirst 15 = .ok (.getfield 15, 3) := by decide +kernel
theorem dX2_takeFirst_18 : decode cX2_takeFirst 18 = .ok (.aload_n 0, 1) := by decide +kernel
theorem dX2_takeFirst_19 : decode cX2_takeFirst 19 = .ok (.getfield 24, 3) := by decide +kernel
theorem dX2_takeFirst_22 : decode cX2_takeFirst 22 = .ok (.iaload, 1) := by decide +kernel
theorem dX2_takeFirst_23 : decode cX2_takeFirst 23 = .ok (.putfield 40, 3) := by decide +kernel
theorem dX2_takeFirst_26 : decode cX2_takeFirst 26 = .ok (.aload_n 1, 1) := by decide +kernel
theorem dX2_takeFirst_27 : decode cX2_takeFirst 27 = .ok (.aload_n 0, 1) := by decide +kernel
theorem dX2_takeFirst_28 : decode cX2_takeFirst 28 = .ok (.getfield 18, 3) := by decide +kernel
theorem dX2_takeFirst_31 : decode cX2_takeFirst 31 = .ok (.aload_n 0, 1) := by decide +kernel
theorem dX2_takeFirst_32 : decode cX2_takeFirst 32 = .ok (.getfield 24, 3) := by decide +kernel
theorem dX2_takeFirst_35 : decode cX2_takeFirst 35 = .ok (.iaload, 1) := by decide +kernel
theorem dX2_takeFirst_36 : decode cX2_takeFirst 36 = .ok (.putfield 43, 3) := by decide +kernel
theorem dX2_takeFirst_39 : decode cX2_takeFirst 39 = .ok (.iconst 0, 1) := by decide +kernel
theorem dX2_takeFirst_40 : decode cX2_takeFirst 40 = .ok (.istore_n 2, 1) := by decide +kernel
theorem dX2_takeFirst_41 : decode cX2_takeFirst 41 = .ok (.iload_n 2, 1) := by decide +kernel
theorem dX2_takeFirst_42 : decode cX2_takeFirst 42 = .ok (.iconst 4, 1) := by decide +kernel
theorem dX2_takeFirst_43 : decode cX2_takeFirst 43 = .ok (.if_icmp .ge 28, 3) := by decide +kernel
theorem dX2_takeFirst_46 : decode cX2_takeFirst 46 = .ok (.aload_n 1, 1) := by decide +kernel
theorem dX2_takeFirst_47 : decode cX2_takeFirst 47 = .ok (.getfield 46, 3) := by decide +kernel
theorem dX2_takeFirst_50 : decode cX2_takeFirst 50 = .ok (.iload_n 2, 1) := by decide +kernel
theorem dX2_takeFirst_51 : decode cX2_takeFirst 51 = .ok (.aload_n 0, 1) := by decide +kernel
theorem dX2_takeFirst_52 : decode cX2_takeFirst 52 = .ok (.getfield 21, 3) := by decide +kernel
theorem dX2_takeFirst_55 : decode cX2_takeFirst 55 = .ok (.aload_n 0, 1) := by decide +kernel
theorem dX2_takeFirst_56 : decode cX2_takeFirst 56 = .ok (.getfield 24, 3) := by decide +kernel
theorem dX2_takeFirst_59 : decode cX2_takeFirst 59 = .ok (.iconst 4, 1) := by decide +kernel
theorem dX2_takeFirst_60 : decode cX2_takeFirst 60 = .ok (.imul, 1) := by decide +kernel
theorem dX2_takeFirst_61 : decode cX2_takeFirst 61 = .ok (.iload_n 2, 1) := by decide +kernel
theorem dX2_takeFirst_62 : decode cX2_takeFirst 62 = .ok (.iadd, 1) := by decide +kernel
theorem dX2_takeFirst_63 : decode cX2_takeFirst 63 = .ok (.iaload, 1) := by decide +kernel
theorem dX2_takeFirst_64 : decode cX2_takeFirst 64 = .ok (.iastore, 1) := by decide +kernel
theorem dX2_takeFirst_65 : decode cX2_takeFirst 65 = .ok (.iinc 2 1, 3) := by decide +kernel
theorem dX2_takeFirst_68 : decode cX2_takeFirst 68 = .ok (.goto (-27), 3) := by decide +kernel
theorem dX2_takeFirst_71 : decode cX2_takeFirst 71 = .ok (.aload_n 0, 1) := by decide +kernel
theorem dX2_takeFirst_72 : decode cX2_takeFirst 72 = .ok (.invokevirtual 47, 3) := by decide +kernel
theorem dX2_takeFirst_75 : decode cX2_takeFirst 75 = .ok (.return_, 1) := by decide +kernel
set_option maxRecDepth 20000 in
theorem ggX2_dropFirst_X2_slotOf : GoodIn wsX2_dropFirst wsX2_slotOf := goodIn_r _ [7, 1, 8, 9, 10, 11, 12, 13] (by decide +kernel) (by decide +kernel)
set_option maxRecDepth 20000 in
theorem gX2_dropFirst_X2_slotOf : GoodIn wsX2_dropFirst (wsV RX2 31 RX2 yX2_slotOf wsX2_slotOf) := goodIn_app (goodIn_of _ (by decide +kernel)) ggX2_dropFirst_X2_slotOf
theorem dX2_dropFirst_0 : decode cX2_dropFirst 0 = .ok (.aload_n 0, 1) := by decide +kernel
theorem dX2_dropFirst_1 : decode cX2_dropFirst 1 = .ok (.aload_n 0, 1) := by decide +kernel
theorem dX2_dropFirst_2 : decode cX2_dropFirst 2 = .ok (.iconst 1, 1) := by decide +kernel
theorem dX2_dropFirst_3 : decode cX2_dropFirst 3 = .ok (.invokevirtual 31, 3) := by decide +kernel
theorem dX2_dropFirst_6 : decode cX2_dropFirst 6 = .ok (.putfield 24, 3) := by decide +kernel
theorem dX2_dropFirst_9 : decode cX2_dropFirst 9 = .ok (.aload_n 0, 1) := by decide +kernel
theorem dX2_dropFirst_10 : decode cX2_dropFirst 10 = .ok (.dup, 1) := by decide +kernel
theorem dX2_dropFirst_11 : decode cX2_dropFirst 11 = .ok (.getfield 28, 3) := by decide +kernel
theorem dX2_dropFirst_14 : decode cX2_dropFirst 14 = .ok (.iconst 1, 1) := by decide +kernel
theorem dX2_dropFirst_15 : decode cX2_dropFirst 15 = .ok (.isub, 1) := by decide +kernel
theorem dX2_dropFirst_16 : decode cX2_dropFirst 16 = .ok (.putfield 28, 3) := by decide +kernel
theorem dX2_dropFirst_19 : decode cX2_dropFirst 19 = .ok (.return_, 1) := by decide +kernel
set_option maxRecDepth 20000 in
theorem ggX2_kindOf_X2_slotOf : GoodIn wsX2_kindOf wsX2_slotOf := goodIn_r _ [6, 7, 8, 9, 10, 11, 12, 13] (by decide +kernel) (by decide +kernel)
set_option maxRecDepth 20000 in
theorem gX2_kindOf_X2_slotOf : GoodIn wsX2_kindOf (wsV RX2 31 RX2 yX2_slotOf wsX2_slotOf) := goodIn_app (goodIn_of _ (by decide +kernel)) ggX2_kindOf_X2_slotOf
theorem dX2_kindOf_0 : decode cX2_kindOf 0 = .ok (.aload_n 0, 1) := by decide +kernel
theorem dX2_kindOf_1 : decode cX2_kindOf 1 = .ok (.getfield 9, 3) := by decide +kernel
theorem dX2_kindOf_4 : decode cX2_kindOf 4 = .ok (.aload_n 0, 1) := by decide +kernel
theorem dX2_kindOf_5 : decode cX2_kindOf 5 = .ok (.iload_n 1, 1) := by decide +kernel
theorem dX2_kindOf_6 : decode cX2_kindOf 6 = .ok (.invokevirtual 31, 3) := by decide +kernel
theorem dX2_kindOf_9 : decode cX2_kindOf 9 = .ok (.iaload, 1) := by decide +kernel
theorem dX2_kindOf_10 : decode cX2_kindOf 10 = .ok (.ireturn, 1) := by decide +kernel
theorem dX2_slotOf_0 : decode cX2_slotOf 0 = .ok (.aload_n 0, 1) := by decide +kernel
theorem dX2_slotOf_1 : decode cX2_slotOf 1 = .ok (.getfield 24, 3) := by decide +kernel
theorem dX2_slotOf_4 : decode cX2_slotOf 4 = .ok (.iload_n 1, 1) := by decide +kernel
theorem dX2_slotOf_5 : decode cX2_slotOf 5 = .ok (.iadd, 1) := by decide +kernel
theorem dX2_slotOf_6 : decode cX2_slotOf 6 = .ok (.bipush 12, 2) := by decide +kernel
theorem dX2_slotOf_8 : decode cX2_slotOf 8 = .ok (.irem, 1) := by decide +kernel
theorem dX2_slotOf_9 : decode cX2_slotOf 9 = .ok (.ireturn, 1) := by decide +kernel
