set_option maxRecDepth 20000 in
theorem ggX3_init_X0_init : GoodIn wsX3_init wsX0_init := goodIn_r _ [24, 25, 2, 3, 16, 26, 27, 28, 29, 30, 31, 32, 33, 34, 35, 36, 37, 38, 39, 40, 41, 42, 43, 44, 45, 46, 47, 48, 49, 50, 51, 52, 53, 54, 82, 83, 84, 85, 86, 87, 88, 89, 90, 91, 92, 93, 94, 95, 96, 97, 114, 115, 116, 117, 118, 119] (by decide +kernel) (by decide +kernel)
set_option maxRecDepth 20000 in
theorem gX3_init_X0_init : GoodIn wsX3_init (wsX0_init) := ggX3_init_X0_init
set_option maxRecDepth 20000 in
theorem ggX3_init_X1_init : GoodIn wsX3_init wsX1_init := goodIn_r _ [56, 57, 2, 3, 16, 58, 59, 60, 61, 106, 107, 108, 109] (by decide +kernel) (by decide +kernel)
set_option maxRecDepth 20000 in
theorem gX3_init_X1_init_n32 : GoodIn wsX3_init (wsX1_init) := ggX3_init_X1_init
set_option maxRecDepth 20000 in
theorem ggX3_init_J4_init_da8c8 : GoodIn wsX3_init wsJ4_init_da8c8 := goodIn_r _ [64, 65, 66, 67, 68, 69, 2, 3, 70, 71, 72, 73, 74, 75, 76, 77, 78, 79, 80, 81, 110, 111, 112, 113] (by decide +kernel) (by decide +kernel)
set_option maxRecDepth 20000 in
theorem gX3_init_J4_init_da8c8 : GoodIn wsX3_init (wsJ4_init_da8c8) := ggX3_init_J4_init_da8c8
theorem dX3_init_0 : decode cX3_init 0 = .ok (.aload_n 0, 1) := by decide +kernel
theorem dX3_init_1 : decode cX3_init 1 = .ok (.invokespecial 1, 3) := by decide +kernel
theorem dX3_init_4 : decode cX3_init 4 = .ok (.aload_n 0, 1) := by decide +kernel
theorem dX3_init_5 : decode cX3_init 5 = .ok (.new 7, 3) := by decide +kernel
theorem dX3_init_8 : decode cX3_init 8 = .ok (.dup, 1) := by decide +kernel
theorem dX3_init_9 : decode cX3_init 9 = .ok (.invokespecial 9, 3) := by decide +kernel
theorem dX3_init_12 : decode cX3_init 12 = .ok (.putfield 10, 3) := by decide +kernel
theorem dX3_init_15 : decode cX3_init 15 = .ok (.aload_n 0, 1) := by decide +kernel
theorem dX3_init_16 : decode cX3_init 16 = .ok (.new 7, 3) := by decide +kernel
theorem dX3_init_19 : decode cX3_init 19 = .ok (.dup, 1) := by decide +kernel
theorem dX3_init_20 : decode cX3_init 20 = .ok (.invokespecial 9, 3) := by decide +kernel
theorem dX3_init_23 : decode cX3_init 23 = .ok (.putfield 16, 3) := by decide +kernel
theorem dX3_init_26 : decode cX3_init 26 = .ok (.aload_n 0, 1) := by decide +kernel
theorem dX3_init_27 : decode cX3_init 27 = .ok (.iconst 0, 1) := by decide +kernel
theorem dX3_init_28 : decode cX3_init 28 = .ok (.putfield 19, 3) := by decide +kernel
theorem dX3_init_31 : decode cX3_init 31 = .ok (.aload_n 0, 1) := by decide +kernel
theorem dX3_init_32 : decode cX3_init 32 = .ok (.iconst 0, 1) := by decide +kernel
theorem dX3_init_33 : decode cX3_init 33 = .ok (.putfield 23, 3) := by decide +kernel
theorem dX3_init_36 : decode cX3_init 36 = .ok (.aload_n 0, 1) := by decide +kernel
theorem dX3_init_37 : decode cX3_init 37 = .ok (.iconst 0, 1) := by decide +kernel
theorem dX3_init_38 : decode cX3_init 38 = .ok (.putfield 27, 3) := by decide +kernel
theorem dX3_init_41 : decode cX3_init 41 = .ok (.aload_n 0, 1) := by decide +kernel
theorem dX3_init_42 : decode cX3_init 42 = .ok (.new 30, 3) := by decide +kernel
theorem dX3_init_45 : decode cX3_init 45 = .ok (.dup, 1) := by decide +kernel
theorem dX3_init_46 : decode cX3_init 46 = .ok (.invokespecial 32, 3) := by decide +kernel
theorem dX3_init_49 : decode cX3_init 49 = .ok (.putfield 33, 3) := by decide +kernel
theorem dX3_init_52 : decode cX3_init 52 = .ok (.aload_n 0, 1) := by decide +kernel
theorem dX3_init_53 : decode cX3_init 53 = .ok (.iconst 4, 1) := by decide +kernel
theorem dX3_init_54 : decode cX3_init 54 = .ok (.newarray .int, 2) := by decide +kernel
theorem dX3_init_56 : decode cX3_init 56 = .ok (.putfield 37, 3) := by decide +kernel
theorem dX3_init_59 : decode cX3_init 59 = .ok (.aload_n 0, 1) := by decide +kernel
theorem dX3_init_60 : decode cX3_init 60 = .ok (.new 41, 3) := by decide +kernel
theorem dX3_init_63 : decode cX3_init 63 = .ok (.dup, 1) := by decide +kernel
theorem dX3_init_64 : decode cX3_init 64 = .ok (.invokespecial 43, 3) := by decide +kernel
theorem dX3_init_67 : decode cX3_init 67 = .ok (.putfield 44, 3) := by decide +kernel
theorem dX3_init_70 : decode cX3_init 70 = .ok (.return_, 1) := by decide +kernel
set_option maxRecDepth 20000 in
theorem ggX3_wish_X3_checkEnd : GoodIn wsX3_wish wsX3_checkEnd := goodIn_ca (goodIn_r _ [9, 1, 2] (by decide +kernel) (by decide +kernel)) (goodIn_sub (fun _ h => List.mem_cons_of_mem _ (List.mem_append_left _ (List.mem_append_right _ h))) (by decide +kernel))
set_option maxRecDepth 20000 in
theorem gX3_wish_X3_checkEnd : GoodIn wsX3_wish (va_wsS RX3 48 yX3_checkEnd wsX3_checkEnd) := goodIn_app (goodIn_of _ (by decide +kernel)) ggX3_wish_X3_checkEnd
set_option maxRecDepth 20000 in
theorem ggX3_wish_X3_checkOption : GoodIn wsX3_wish wsX3_checkOption := goodIn_ca (goodIn_r _ [12, 1, 2] (by decide +kernel) (by decide +kernel)) (goodIn_sub (fun _ h => List.mem_cons_of_mem _ (List.mem_append_left _ (List.mem_append_right _ h))) (by decide +kernel))
set_option maxRecDepth 20000 in
theorem gX3_wish_X3_checkOption : GoodIn wsX3_wish (va_wsS RX3 52 yX3_checkOption wsX3_checkOption) := goodIn_app (goodIn_of _ (by decide +kernel)) ggX3_wish_X3_checkOption
set_option maxRecDepth 20000 in
theorem ggX3_wish_X3_checkRange : GoodIn wsX3_wish wsX3_checkRange := goodIn_ca (goodIn_r _ [15, 1, 2] (by decide +kernel) (by decide +kernel)) (goodIn_sub (fun _ h => List.mem_cons_of_mem _ (List.mem_append_left _ (List.mem_append_right _ h))) (by decide +kernel))
set_option maxRecDepth 20000 in
theorem gX3_wish_X3_checkRange : GoodIn wsX3_wish (va_wsS RX3 55 yX3_checkRange wsX3_checkRange) := goodIn_app (goodIn_of _ (by decide +kernel)) ggX3_wish_X3_checkRange
set_option maxRecDepth 20000 in
theorem ggX3_wish_X3_endOf : GoodIn wsX3_wish wsX3_endOf := goodIn_r _ [19, 20, 21, 49, 50, 51, 52, 53, 54, 55, 56] (by decide +kernel) (by decide +kernel)
set_option maxRecDepth 20000 in
theorem gX3_wish_X3_endOf : GoodIn wsX3_wish (wsV RX3 66 RX3 yX3_endOf wsX3_endOf) := goodIn_app (goodIn_of _ (by decide +kernel)) ggX3_wish_X3_endOf
set_option maxRecDepth 20000 in
theorem ggX3_wish_X3_checkShut : GoodIn wsX3_wish wsX3_checkShut := goodIn_ca (goodIn_r _ [24, 25, 26, 27, 28, 29, 30, 31, 32, 33, 34, 35, 36, 37, 38, 39, 40, 41, 42, 43, 44, 45, 46, 47, 48] (by decide +kernel) (by decide +kernel)) (goodIn_sub (fun _ h => List.mem_cons_of_mem _ (List.mem_append_right _ h)) (by decide +kernel))
set_option maxRecDepth 20000 in
theorem gX3_wish_X3_checkShut : GoodIn wsX3_wish (va_wsS RX3 70 yX3_checkShut wsX3_checkShut) := goodIn_app (goodIn_of _ (by decide +kernel)) ggX3_wish_X3_checkShut
theorem dX3_wish_0 : decode cX3_wish 0 = .ok (.iload_n 1, 1) := by decide +kernel
theorem dX3_wish_1 : decode cX3_wish 1 = .ok (.invokestatic 48, 3) := by decide +kernel
theorem dX3_wish_4 : decode cX3_wish 4 = .ok (.iload_n 2, 1) := by decide +kernel
theorem dX3_wish_5 : decode cX3_wish 5 = .ok (.invokestatic 52, 3) := by decide +kernel
theorem dX3_wish_8 : decode cX3_wish 8 = .ok (.iload 4, 2) := by decide +kernel
theorem dX3_wish_10 : decode cX3_wish 10 = .ok (.iload 5, 2) := by decide +kernel
theorem dX3_wish_12 : decode cX3_wish 12 = .ok (.invokestatic 55, 3) := by decide +kernel
theorem dX3_wish_15 : decode cX3_wish 15 = .ok (.iload_n 3, 1) := by decide +kernel
theorem dX3_wish_16 : decode cX3_wish 16 = .ok (.iconst (-1), 1) := by decide +kernel
theorem dX3_wish_17 : decode cX3_wish 17 = .ok (.if_icmp .eq 25, 3) := by decide +kernel
theorem dX3_wish_20 : decode cX3_wish 20 = .ok (.iload_n 3, 1) := by decide +kernel
theorem dX3_wish_21 : decode cX3_wish 21 = .ok (.iload 4, 2) := by decide +kernel
theorem dX3_wish_23 : decode cX3_wish 23 = .ok (.if_icmp .lt 9, 3) := by decide +kernel
theorem dX3_wish_26 : decode cX3_wish 26 = .ok (.iload_n 3, 1) := by decide +kernel
theorem dX3_wish_27 : decode cX3_wish 27 = .ok (.iload 5, 2) := by decide +kernel
theorem dX3_wish_29 : decode cX3_wish 29 = .ok (.if_icmp .le 13, 3) := by decide +kernel
theorem dX3_wish_32 : decode cX3_wish 32 = .ok (.new 59, 3) := by decide +kernel
theorem dX3_wish_35 : decode cX3_wish 35 = .ok (.dup, 1) := by decide +kernel
theorem dX3_wish_36 : decode cX3_wish 36 = .ok (.ldc 61, 2) := by decide +kernel
theorem dX3_wish_38 : decode cX3_wish 38 = .ok (.invokespecial 63, 3) := by decide +kernel
theorem dX3_wish_41 : decode cX3_wish 41 = .ok (.athrow, 1) := by decide +kernel
theorem dX3_wish_42 : decode cX3_wish 42 = .ok (.aload_n 0, 1) := by decide +kernel
theorem dX3_wish_43 : decode cX3_wish 43 = .ok (.iload_n 1, 1) := by decide +kernel
theorem dX3_wish_44 : decode cX3_wish 44 = .ok (.invokevirtual 66, 3) := by decide +kernel
theorem dX3_wish_47 : decode cX3_wish 47 = .ok (.astore 6, 2) := by decide +kernel
theorem dX3_wish_49 : decode cX3_wish 49 = .ok (.aload 6, 2) := by decide +kernel
theorem dX3_wish_51 : decode cX3_wish 51 = .ok (.invokestatic 70, 3) := by decide +kernel
theorem dX3_wish_54 : decode cX3_wish 54 = .ok (.aload 6, 2) := by decide +kernel
theorem dX3_wish_56 : decode cX3_wish 56 = .ok (.getfield 74, 3) := by decide +kernel
theorem dX3_wish_59 : decode cX3_wish 59 = .ok (.iload_n 2, 1) := by decide +kernel
theorem dX3_wish_60 : decode cX3_wish 60 = .ok (.iaload, 1) := by decide +kernel
theorem dX3_wish_61 : decode cX3_wish 61 = .ok (.istore 7, 2) := by decide +kernel
theorem dX3_wish_63 : decode cX3_wish 63 = .ok (.aload 6, 2) := by decide +kernel
theorem dX3_wish_65 : decode cX3_wish 65 = .ok (.getfield 74, 3) := by decide +kernel
theorem dX3_wish_68 : decode cX3_wish 68 = .ok (.iload_n 2, 1) := by decide +kernel
theorem dX3_wish_69 : decode cX3_wish 69 = .ok (.iload_n 3, 1) := by decide +kernel
theorem dX3_wish_70 : decode cX3_wish 70 = .ok (.iastore, 1) := by decide +kernel
theorem dX3_wish_71 : decode cX3_wish 71 = .ok (.aload 6, 2) := by decide +kernel
theorem dX3_wish_73 : decode cX3_wish 73 = .ok (.getfield 77, 3) := by decide +kernel
theorem dX3_wish_76 : decode cX3_wish 76 = .ok (.iload_n 2, 1) := by decide +kernel
theorem dX3_wish_77 : decode cX3_wish 77 = .ok (.iload 4, 2) := by decide +kernel
theorem dX3_wish_79 : decode cX3_wish 79 = .ok (.iastore, 1) := by decide +kernel
theorem dX3_wish_80 : decode cX3_wish 80 = .ok (.aload 6, 2) := by decide +kernel
theorem dX3_wish_82 : decode cX3_wish 82 = .ok (.getfield 80, 3) := by decide +kernel
theorem dX3_wish_85 : decode cX3_wish 85 = .ok (.iload_n 2, 1) := by decide +kernel
theorem dX3_wish_86 : decode cX3_wish 86 = .ok (.iload 5, 2) := by decide +kernel
theorem dX3_wish_88 : decode cX3_wish 88 = .ok (.iastore, 1) := by decide +kernel
theorem dX3_wish_89 : decode cX3_wish 89 = .ok (.iload 7, 2) := by decide +kernel
theorem dX3_wish_91 : decode cX3_wish 91 = .ok (.ireturn, 1) := by decide +kernel
set_option maxRecDepth 20000 in
theorem ggX3_allow_X3_checkEnd : GoodIn wsX3_allow wsX3_checkEnd := goodIn_ca (goodIn_r _ [6, 7, 8] (by decide +kernel) (by decide +kernel)) (goodIn_sub (fun _ h => List.mem_cons_of_mem _ (List.mem_append_left _ (List.mem_append_right _ h))) (by decide +kernel))
set_option maxRecDepth 20000 in
theorem gX3_allow_X3_checkEnd : GoodIn wsX3_allow (va_wsS RX3 48 yX3_checkEnd wsX3_checkEnd) := goodIn_app (goodIn_of _ (by decide +kernel)) ggX3_allow_X3_checkEnd
set_option maxRecDepth 20000 in
theorem ggX3_allow_X3_checkOption : GoodIn wsX3_allow wsX3_checkOption := goodIn_ca (goodIn_r _ [11, 7, 8] (by decide +kernel) (by decide +kernel)) (goodIn_sub (fun _ h => List.mem_cons_of_mem _ (List.mem_append_left _ (List.mem_append_right _ h))) (by decide +kernel))
set_option maxRecDepth 20000 in
theorem gX3_allow_X3_checkOption : GoodIn wsX3_allow (va_wsS RX3 52 yX3_checkOption wsX3_checkOption) := goodIn_app (goodIn_of _ (by decide +kernel)) ggX3_allow_X3_checkOption
set_option maxRecDepth 20000 in
theorem ggX3_allow_X3_checkRange : GoodIn wsX3_allow wsX3_checkRange := goodIn_ca (goodIn_r _ [14, 7, 8] (by decide +kernel) (by decide +kernel)) (goodIn_sub (fun _ h => List.mem_cons_of_mem _ (List.mem_append_left _ (List.mem_append_right _ h))) (by decide +kernel))
set_option maxRecDepth 20000 in
theorem gX3_allow_X3_checkRange : GoodIn wsX3_allow (va_wsS RX3 55 yX3_checkRange wsX3_checkRange) := goodIn_app (goodIn_of _ (by decide +kernel)) ggX3_allow_X3_checkRange
set_option maxRecDepth 20000 in
theorem ggX3_allow_X3_endOf : GoodIn wsX3_allow wsX3_endOf := goodIn_r _ [18, 19, 20, 48, 49, 50, 51, 52, 53, 54, 55] (by decide +kernel) (by decide +kernel)
set_option maxRecDepth 20000 in
theorem gX3_allow_X3_endOf : GoodIn wsX3_allow (wsV RX3 66 RX3 yX3_endOf wsX3_endOf) := goodIn_app (goodIn_of _ (by decide +kernel)) ggX3_allow_X3_endOf
set_option maxRecDepth 20000 in
theorem ggX3_allow_X3_checkShut : GoodIn wsX3_allow wsX3_checkShut := goodIn_ca (goodIn_r _ [23, 24, 25, 26, 27, 28, 29, 30, 31, 32, 33, 34, 35, 36, 37, 38, 39, 40, 41, 42, 43, 44, 45, 46, 47] (by decide +kernel) (by decide +kernel)) (goodIn_sub (fun _ h => List.mem_cons_of_mem _ (List.mem_append_right _ h)) (by decide +kernel))
set_option maxRecDepth 20000 in
theorem gX3_allow_X3_checkShut : GoodIn wsX3_allow (va_wsS RX3 70 yX3_checkShut wsX3_checkShut) := goodIn_app (goodIn_of _ (by decide +kernel)) ggX3_allow_X3_checkShut
theorem dX3_allow_0 : decode cX3_allow 0 = .ok (.iload_n 1, 1) := by decide +kernel
theorem dX3_allow_1 : decode cX3_allow 1 = .ok (.invokestatic 48, 3) := by decide +kernel
theorem dX3_allow_4 : decode cX3_allow 4 = .ok (.iload_n 2, 1) := by decide +kernel
theorem dX3_allow_5 : decode cX3_allow 5 = .ok (.invokestatic 52, 3) := by decide +kernel
theorem dX3_allow_8 : decode cX3_allow 8 = .ok (.iload_n 3, 1) := by decide +kernel
theorem dX3_allow_9 : decode cX3_allow 9 = .ok (.iload 4, 2) := by decide +kernel
theorem dX3_allow_11 : decode cX3_allow 11 = .ok (.invokestatic 55, 3) := by decide +kernel
theorem dX3_allow_14 : decode cX3_allow 14 = .ok (.aload_n 0, 1) := by decide +kernel
theorem dX3_allow_15 : decode cX3_allow 15 = .ok (.iload_n 1, 1) := by decide +kernel
theorem dX3_allow_16 : decode cX3_allow 16 = .ok (.invokevirtual 66, 3) := by decide +kernel
theorem dX3_allow_19 : decode cX3_allow 19 = .ok (.astore 5, 2) := by decide +kernel
theorem dX3_allow_21 : decode cX3_allow 21 = .ok (.aload 5, 2) := by decide +kernel
theorem dX3_allow_23 : decode cX3_allow 23 = .ok (.invokestatic 70, 3) := by decide +kernel
theorem dX3_allow_26 : decode cX3_allow 26 = .ok (.aload 5, 2) := by decide +kernel
theorem dX3_allow_28 : decode cX3_allow 28 = .ok (.getfield 83, 3) := by decide +kernel
theorem dX3_allow_31 : decode cX3_allow 31 = .ok (.iload_n 2, 1) := by decide +kernel
theorem dX3_allow_32 : decode cX3_allow 32 = .ok (.iload_n 3, 1) := by decide +kernel
theorem dX3_allow_33 : decode cX3_allow 33 = .ok (.iastore, 1) := by decide +kernel
theorem dX3_allow_34 : decode cX3_allow 34 = .ok (.aload 5, 2) := by decide +kernel
theorem dX3_allow_36 : decode cX3_allow 36 = .ok (.getfield 86, 3) := by decide +kernel
theorem dX3_allow_39 : decode cX3_allow 39 = .ok (.iload_n 2, 1) := by decide +kernel
theorem dX3_allow_40 : decode cX3_allow 40 = .ok (.iload 4, 2) := by decide +kernel
theorem dX3_allow_42 : decode cX3_allow 42 = .ok (.iastore, 1) := by decide +kernel
theorem dX3_allow_43 : decode cX3_allow 43 = .ok (.return_, 1) := by decide +kernel
set_option maxRecDepth 20000 in
theorem ggX3_refuse_X3_checkEnd : GoodIn wsX3_refuse wsX3_checkEnd := goodIn_ca (goodIn_r _ [5, 6, 7] (by decide +kernel) (by decide +kernel)) (goodIn_sub (fun _ h => List.mem_cons_of_mem _ (List.mem_append_left _ (List.mem_append_right _ h))) (by decide +kernel))
set_option maxRecDepth 20000 in
theorem gX3_refuse_X3_checkEnd : GoodIn wsX3_refuse (va_wsS RX3 48 yX3_checkEnd wsX3_checkEnd) := goodIn_app (goodIn_of _ (by decide +kernel)) ggX3_refuse_X3_checkEnd
set_option maxRecDepth 20000 in
theorem ggX3_refuse_X3_checkOption : GoodIn wsX3_refuse wsX3_checkOption := goodIn_ca (goodIn_r _ [10, 6, 7] (by decide +kernel) (by decide +kernel)) (goodIn_sub (fun _ h => List.mem_cons_of_mem _ (List.mem_append_left _ (List.mem_append_right _ h))) (by decide +kernel))
set_option maxRecDepth 20000 in
theorem gX3_refuse_X3_checkOption : GoodIn wsX3_refuse (va_wsS RX3 52 yX3_checkOption wsX3_checkOption) := goodIn_app (goodIn_of _ (by decide +kernel)) ggX3_refuse_X3_checkOption
set_option maxRecDepth 20000 in
theorem ggX3_refuse_X3_endOf : GoodIn wsX3_refuse wsX3_endOf := goodIn_r _ [14, 15, 16, 44, 45, 46, 47, 48, 49, 50, 51] (by decide +kernel) (by decide +kernel)
set_option maxRecDepth 20000 in
theorem gX3_refuse_X3_endOf : GoodIn wsX3_refuse (wsV RX3 66 RX3 yX3_endOf wsX3_endOf) := goodIn_app (goodIn_of _ (by decide +kernel)) ggX3_refuse_X3_endOf
set_option maxRecDepth 20000 in
theorem ggX3_refuse_X3_checkShut : GoodIn wsX3_refuse wsX3_checkShut := goodIn_ca (goodIn_r _ [19, 20, 21, 22, 23, 24, 25, 26, 27, 28, 29, 30, 31, 32, 33, 34, 35, 36, 37, 38, 39, 40, 41, 42, 43] (by decide +kernel) (by decide +kernel)) (goodIn_sub (fun _ h => List.mem_cons_of_mem _ (List.mem_append_right _ h)) (by decide +kernel))
set_option maxRecDepth 20000 in
theorem gX3_refuse_X3_checkShut : GoodIn wsX3_refuse (va_wsS RX3 70 yX3_checkShut wsX3_checkShut) := goodIn_app (goodIn_of _ (by decide +kernel)) ggX3_refuse_X3_checkShut
theorem dX3_refuse_0 : decode cX3_refuse 0 = .ok (.iload_n 1, 1) := by decide +kernel
theorem dX3_refuse_1 : decode cX3_refuse 1 = .ok (.invokestatic 48, 3) := by decide +kernel
theorem dX3_refuse_4 : decode cX3_refuse 4 = .ok (.iload_n 2, 1) := by decide +kernel
theorem dX3_refuse_5 : decode cX3_refuse 5 = .ok (.invokestatic 52, 3) := by decide +kernel
theorem dX3_refuse_8 : decode cX3_refuse 8 = .ok (.aload_n 0, 1) := by decide +kernel
theorem dX3_refuse_9 : decode cX3_refuse 9 = .ok (.iload_n 1, 1) := by decide +kernel
theorem dX3_refuse_10 : decode cX3_refuse 10 = .ok (.invokevirtual 66, 3) := by decide +kernel
theorem dX3_refuse_13 : decode cX3_refuse 13 = .ok (.astore 4, 2) := by decide +kernel
theorem dX3_refuse_15 : decode cX3_refuse 15 = .ok (.aload 4, 2) := by decide +kernel
theorem dX3_refuse_17 : decode cX3_refuse 17 = .ok (.invokestatic 70, 3) := by decide +kernel
theorem dX3_refuse_20 : decode cX3_refuse 20 = .ok (.aload 4, 2) := by decide +kernel
theorem dX3_refuse_22 : decode cX3_refuse 22 = .ok (.getfield 89, 3) := by decide +kernel
theorem dX3_refuse_25 : decode cX3_refuse 25 = .ok (.iload_n 2, 1) := by decide +kernel
theorem dX3_refuse_26 : decode cX3_refuse 26 = .ok (.baload, 1) := by decide +kernel
theorem dX3_refuse_27 : decode cX3_refuse 27 = .ok (.istore 5, 2) := by decide +kernel
theorem dX3_refuse_29 : decode cX3_refuse 29 = .ok (.aload 4, 2) := by decide +kernel
theorem dX3_refuse_31 : decode cX3_refuse 31 = .ok (.getfield 89, 3) := by decide +kernel
theorem dX3_refuse_34 : decode cX3_refuse 34 = .ok (.iload_n 2, 1) := by decide +kernel
theorem dX3_refuse_35 : decode cX3_refuse 35 = .ok (.iload_n 3, 1) := by decide +kernel
theorem dX3_refuse_36 : decode cX3_refuse 36 = .ok (.bastore, 1) := by decide +kernel
theorem dX3_refuse_37 : decode cX3_refuse 37 = .ok (.iload 5, 2) := by decide +kernel
theorem dX3_refuse_39 : decode cX3_refuse 39 = .ok (.ireturn, 1) := by decide +kernel
theorem dX3_loop_0 : decode cX3_loop 0 = .ok (.aload_n 0, 1) := by decide +kernel
theorem dX3_loop_1 : decode cX3_loop 1 = .ok (.getfield 19, 3) := by decide +kernel
theorem dX3_loop_4 : decode cX3_loop 4 = .ok (.istore_n 2, 1) := by decide +kernel
theorem dX3_loop_5 : decode cX3_loop 5 = .ok (.aload_n 0, 1) := by decide +kernel
theorem dX3_loop_6 : decode cX3_loop 6 = .ok (.iload_n 1, 1) := by decide +kernel
theorem dX3_loop_7 : decode cX3_loop 7 = .ok (.putfield 19, 3) := by decide +kernel
theorem dX3_loop_10 : decode cX3_loop 10 = .ok (.iload_n 2, 1) := by decide +kernel
theorem dX3_loop_11 : decode cX3_loop 11 = .ok (.ireturn, 1) := by decide +kernel
set_option maxRecDepth 20000 in
theorem ggX3_open_X3_checkEnd : GoodIn wsX3_open wsX3_checkEnd := goodIn_ca (goodIn_r _ [12, 1, 2] (by decide +kernel) (by decide +kernel)) (goodIn_sub (fun _ h => List.mem_cons_of_mem _ (List.mem_append_left _ (List.mem_append_right _ h))) (by decide +kernel))
set_option maxRecDepth 20000 in
theorem gX3_open_X3_checkEnd : GoodIn wsX3_open (va_wsS RX3 48 yX3_checkEnd wsX3_checkEnd) := goodIn_app (goodIn_of _ (by decide +kernel)) ggX3_open_X3_checkEnd
set_option maxRecDepth 20000 in
theorem ggX3_open_X3_endOf : GoodIn wsX3_open wsX3_endOf := goodIn_r _ [16, 17, 18, 77, 78, 79, 80, 81, 82, 83, 84] (by decide +kernel) (by decide +kernel)
set_option maxRecDepth 20000 in
theorem gX3_open_X3_endOf : GoodIn wsX3_open (wsV RX3 66 RX3 yX3_endOf wsX3_endOf) := goodIn_app (goodIn_of _ (by decide +kernel)) ggX3_open_X3_endOf
set_option maxRecDepth 20000 in
theorem ggX3_open_X3_checkShut : GoodIn wsX3_open wsX3_checkShut := goodIn_ca (goodIn_r _ [21, 22, 23, 24, 25, 26, 27, 28, 29, 61, 62, 63, 64, 65, 66, 67, 68, 69, 70, 71, 72, 73, 74, 75, 76] (by decide +kernel) (by decide +kernel)) (goodIn_sub (fun _ h => List.mem_cons_of_mem _ (List.mem_append_right _ h)) (by decide +kernel))
set_option maxRecDepth 20000 in
theorem gX3_open_X3_checkShut : GoodIn wsX3_open (va_wsS RX3 70 yX3_checkShut wsX3_checkShut) := goodIn_app (goodIn_of _ (by decide +kernel)) ggX3_open_X3_checkShut
set_option maxRecDepth 20000 in
theorem ggX3_open_X3_copyValues : GoodIn wsX3_open wsX3_copyValues := goodIn_r _ [32] (by decide +kernel) (by decide +kernel)
set_option maxRecDepth 20000 in
theorem gX3_open_X3_copyValues : GoodIn wsX3_open (va_wsS RX3 110 yX3_copyValues wsX3_copyValues) := goodIn_app (goodIn_of _ (by decide +kernel)) ggX3_open_X3_copyValues
set_option maxRecDepth 20000 in
theorem ggX3_open_X3_sendRequest : GoodIn wsX3_open wsX3_sendRequest := goodIn_r _ [36, 4, 3, 37, 38, 5, 8, 13, 14, 15, 11, 16, 17, 18, 39, 40, 41, 42, 43, 44, 45, 46, 47, 48, 49, 50, 51, 52, 53, 54, 55, 56, 57, 58, 59, 60, 61, 62, 63, 64, 65, 66, 67, 68, 69, 70, 71, 72, 73, 74, 75, 76, 77, 78, 79, 80, 81, 82, 83, 84, 85, 86, 87, 88, 89, 90] (by decide +kernel) (by decide +kernel)
set_option maxRecDepth 20000 in
theorem gX3_open_X3_sendRequest : GoodIn wsX3_open (wsV RX3 114 RX3 yX3_sendRequest wsX3_sendRequest) := goodIn_app (goodIn_of _ (by decide +kernel)) ggX3_open_X3_sendRequest
theorem dX3_open_0 : decode cX3_open 0 = .ok (.iload_n 1, 1) := by decide +kernel
theorem dX3_open_1 : decode cX3_open 1 = .ok (.invokestatic 48, 3) := by decide +kernel
theorem dX3_open_4 : decode cX3_open 4 = .ok (.iload_n 2, 1) := by decide +kernel
theorem dX3_open_5 : decode cX3_open 5 = .ok (.iconst 1, 1) := by decide +kernel
theorem dX3_open_6 : decode cX3_open 6 = .ok (.if_icmp .lt 10, 3) := by decide +kernel
theorem dX3_open_9 : decode cX3_open 9 = .ok (.iload_n 2, 1) := by decide +kernel
theorem dX3_open_10 : decode cX3_open 10 = .ok (.sipush 999, 3) := by decide +kernel
theorem dX3_open_13 : decode cX3_open 13 = .ok (.if_icmp .le 13, 3) := by decide +kernel
theorem dX3_open_16 : decode cX3_open 16 = .ok (.new 59, 3) := by decide +kernel
theorem dX3_open_19 : decode cX3_open 19 = .ok (.dup, 1) := by decide +kernel
theorem dX3_open_20 : decode cX3_open 20 = .ok (.ldc 93, 2) := by decide +kernel
theorem dX3_open_22 : decode cX3_open 22 = .ok (.invokespecial 63, 3) := by decide +kernel
theorem dX3_open_25 : decode cX3_open 25 = .ok (.athrow, 1) := by decide +kernel
theorem dX3_open_26 : decode cX3_open 26 = .ok (.aload_n 0, 1) := by decide +kernel
theorem dX3_open_27 : decode cX3_open 27 = .ok (.iload_n 1, 1) := by decide +kernel
theorem dX3_open_28 : decode cX3_open 28 = .ok (.invokevirtual 66, 3) := by decide +kernel
theorem dX3_open_31 : decode cX3_open 31 = .ok (.astore_n 3, 1) := by decide +kernel
theorem dX3_open_32 : decode cX3_open 32 = .ok (.aload_n 3, 1) := by decide +kernel
theorem dX3_open_33 : decode cX3_open 33 = .ok (.invokestatic 70, 3) := by decide +kernel
theorem dX3_open_36 : decode cX3_open 36 = .ok (.aload_n 3, 1) := by decide +kernel
theorem dX3_open_37 : decode cX3_open 37 = .ok (.iconst 1, 1) := by decide +kernel
theorem dX3_open_38 : decode cX3_open 38 = .ok (.putfield 95, 3) := by decide +kernel
theorem dX3_open_41 : decode cX3_open 41 = .ok (.aload_n 3, 1) := by decide +kernel
theorem dX3_open_42 : decode cX3_open 42 = .ok (.bipush 10, 2) := by decide +kernel
theorem dX3_open_44 : decode cX3_open 44 = .ok (.putfield 98, 3) := by decide +kernel
theorem dX3_open_47 : decode cX3_open 47 = .ok (.aload_n 3, 1) := by decide +kernel
theorem dX3_open_48 : decode cX3_open 48 = .ok (.iload_n 2, 1) := by decide +kernel
theorem dX3_open_49 : decode cX3_open 49 = .ok (.putfield 101, 3) := by decide +kernel
theorem dX3_open_52 : decode cX3_open 52 = .ok (.aload_n 3, 1) := by decide +kernel
theorem dX3_open_53 : decode cX3_open 53 = .ok (.iconst 0, 1) := by decide +kernel
theorem dX3_open_54 : decode cX3_open 54 = .ok (.putfield 104, 3) := by decide +kernel
theorem dX3_open_57 : decode cX3_open 57 = .ok (.aload_n 3, 1) := by decide +kernel
theorem dX3_open_58 : decode cX3_open 58 = .ok (.getfield 74, 3) := by decide +kernel
theorem dX3_open_61 : decode cX3_open 61 = .ok (.aload_n 3, 1) := by decide +kernel
theorem dX3_open_62 : decode cX3_open 62 = .ok (.getfield 107, 3) := by decide +kernel
theorem dX3_open_65 : decode cX3_open 65 = .ok (.invokestatic 110, 3) := by decide +kernel
theorem dX3_open_68 : decode cX3_open 68 = .ok (.aload_n 0, 1) := by decide +kernel
theorem dX3_open_69 : decode cX3_open 69 = .ok (.iload_n 1, 1) := by decide +kernel
theorem dX3_open_70 : decode cX3_open 70 = .ok (.invokevirtual 114, 3) := by decide +kernel
theorem dX3_open_73 : decode cX3_open 73 = .ok (.return_, 1) := by decide +kernel
set_option maxRecDepth 20000 in
theorem ggX3_close_X3_checkEnd : GoodIn wsX3_close wsX3_checkEnd := goodIn_ca (goodIn_r _ [8, 9, 10] (by decide +kernel) (by decide +kernel)) (goodIn_sub (fun _ h => List.mem_cons_of_mem _ (List.mem_append_right _ h)) (by decide +kernel))
set_option maxRecDepth 20000 in
theorem gX3_close_X3_checkEnd : GoodIn wsX3_close (va_wsS RX3 48 yX3_checkEnd wsX3_checkEnd) := goodIn_app (goodIn_of _ (by decide +kernel)) ggX3_close_X3_checkEnd
set_option maxRecDepth 20000 in
theorem ggX3_close_X3_endOf : GoodIn wsX3_close wsX3_endOf := goodIn_r _ [14, 15, 16, 71, 72, 73, 74, 75, 76, 77, 78] (by decide +kernel) (by decide +kernel)
set_option maxRecDepth 20000 in
theorem gX3_close_X3_endOf : GoodIn wsX3_close (wsV RX3 66 RX3 yX3_endOf wsX3_endOf) := goodIn_app (goodIn_of _ (by decide +kernel)) ggX3_close_X3_endOf
set_option maxRecDepth 20000 in
theorem ggX3_close_X0_isUp : GoodIn wsX3_close wsX0_isUp := goodIn_r _ [21, 22, 23, 24, 25, 20, 26, 55, 56, 57, 58, 59, 60, 61, 62, 63, 64, 65, 66, 67, 68, 69, 70] (by decide +kernel) (by decide +kernel)
set_option maxRecDepth 20000 in
theorem gX3_close_X0_isUp : GoodIn wsX3_close (wsV RX3 117 RX0 yX0_isUp wsX0_isUp) := goodIn_app (goodIn_of _ (by decide +kernel)) ggX3_close_X0_isUp
set_option maxRecDepth 20000 in
theorem ggX3_close_X3_sendBye : GoodIn wsX3_close wsX3_sendBye := goodIn_r _ [30, 4, 31, 32, 11, 12, 13, 7, 14, 15, 16, 33, 34, 35, 36, 37, 38, 39, 40, 41, 42, 43, 44, 45, 46, 47, 48, 49, 50, 51, 52, 53, 54, 55, 56, 57, 58, 59, 60, 61, 62, 63, 64, 65, 66, 67, 68, 69, 70, 71, 72, 73, 74, 75, 76, 77, 78, 79, 80, 81, 82, 83, 84] (by decide +kernel) (by decide +kernel)
set_option maxRecDepth 20000 in
theorem gX3_close_X3_sendBye : GoodIn wsX3_close (wsV RX3 129 RX3 yX3_sendBye wsX3_sendBye) := goodIn_app (goodIn_of _ (by decide +kernel)) ggX3_close_X3_sendBye
theorem dX3_close_0 : decode cX3_close 0 = .ok (.iload_n 1, 1) := by decide +kernel
theorem dX3_close_1 : decode cX3_close 1 = .ok (.invokestatic 48, 3) := by decide +kernel
theorem dX3_close_4 : decode cX3_close 4 = .ok (.aload_n 0, 1) := by decide +kernel
theorem dX3_close_5 : decode cX3_close 5 = .ok (.iload_n 1, 1) := by decide +kernel
theorem dX3_close_6 : decode cX3_close 6 = .ok (.invokevirtual 66, 3) := by decide +kernel
theorem dX3_close_9 : decode cX3_close 9 = .ok (.astore_n 2, 1) := by decide +kernel
theorem dX3_close_10 : decode cX3_close 10 = .ok (.aload_n 2, 1) := by decide +kernel
theorem dX3_close_11 : decode cX3_close 11 = .ok (.invokevirtual 117, 3) := by decide +kernel
theorem dX3_close_14 : decode cX3_close 14 = .ok (.ifCond .ne 13, 3) := by decide +kernel
theorem dX3_close_17 : decode cX3_close 17 = .ok (.new 121, 3) := by decide +kernel
theorem dX3_close_20 : decode cX3_close 20 = .ok (.dup, 1) := by decide +kernel
theorem dX3_close_21 : decode cX3_close 21 = .ok (.ldc 123, 2) := by decide +kernel
theorem dX3_close_23 : decode cX3_close 23 = .ok (.invokespecial 125, 3) := by decide +kernel
theorem dX3_close_26 : decode cX3_close 26 = .ok (.athrow, 1) := by decide +kernel
theorem dX3_close_27 : decode cX3_close 27 = .ok (.aload_n 2, 1) := by decide +kernel
theorem dX3_close_28 : decode cX3_close 28 = .ok (.iconst 5, 1) := by decide +kernel
theorem dX3_close_29 : decode cX3_close 29 = .ok (.putfield 95, 3) := by decide +kernel
theorem dX3_close_32 : decode cX3_close 32 = .ok (.aload_n 2, 1) := by decide +kernel
theorem dX3_close_33 : decode cX3_close 33 = .ok (.iconst 0, 1) := by decide +kernel
theorem dX3_close_34 : decode cX3_close 34 = .ok (.putfield 126, 3) := by decide +kernel
theorem dX3_close_37 : decode cX3_close 37 = .ok (.aload_n 0, 1) := by decide +kernel
theorem dX3_close_38 : decode cX3_close 38 = .ok (.iload_n 1, 1) := by decide +kernel
theorem dX3_close_39 : decode cX3_close 39 = .ok (.invokevirtual 129, 3) := by decide +kernel
theorem dX3_close_42 : decode cX3_close 42 = .ok (.return_, 1) := by decide +kernel
set_option maxRecDepth 20000 in
theorem ggX3_deliver_X3_checkEnd : GoodIn wsX3_deliver wsX3_checkEnd := goodIn_ca (goodIn_r _ [7, 8, 9] (by decide +kernel) (by decide +kernel)) (goodIn_sub (fun _ h => List.mem_cons_of_mem _ (List.mem_append_left _ (List.mem_append_right _ h))) (by decide +kernel))
set_option maxRecDepth 20000 in
theorem gX3_deliver_X3_checkEnd : GoodIn wsX3_deliver (va_wsS RX3 48 yX3_checkEnd wsX3_checkEnd) := goodIn_app (goodIn_of _ (by decide +kernel)) ggX3_deliver_X3_checkEnd
set_option maxRecDepth 20000 in
theorem ggX3_deliver_X3_endOf : GoodIn wsX3_deliver wsX3_endOf := goodIn_r _ [13, 14, 15, 175, 176, 177, 178, 179, 180, 181, 182] (by decide +kernel) (by decide +kernel)
set_option maxRecDepth 20000 in
theorem gX3_deliver_X3_endOf : GoodIn wsX3_deliver (wsV RX3 66 RX3 yX3_endOf wsX3_endOf) := goodIn_app (goodIn_of _ (by decide +kernel)) ggX3_deliver_X3_endOf
set_option maxRecDepth 20000 in
theorem ggX3_deliver_X3_checkPlace : GoodIn wsX3_deliver wsX3_checkPlace := goodIn_ca (goodIn_r _ [18, 19, 20, 21, 187, 188, 189, 190, 191, 192] (by decide +kernel) (by decide +kernel)) (goodIn_sub (fun _ h => List.mem_cons_of_mem _ (List.mem_append_right _ h)) (by decide +kernel))
set_option maxRecDepth 20000 in
theorem gX3_deliver_X3_checkPlace : GoodIn wsX3_deliver (va_wsS RX3 136 yX3_checkPlace wsX3_checkPlace) := goodIn_app (goodIn_of _ (by decide +kernel)) ggX3_deliver_X3_checkPlace
set_option maxRecDepth 20000 in
theorem ggX3_deliver_X2_takeFirst : GoodIn wsX3_deliver wsX2_takeFirst := goodIn_r _ [26, 27, 28, 29, 30, 31, 32, 33, 34, 35, 36, 37, 38, 25, 39, 40, 41, 42, 43, 44, 187, 188, 189, 190, 191, 192, 183, 184, 185, 186] (by decide +kernel) (by decide +kernel)
set_option maxRecDepth 20000 in
theorem gX3_deliver_X2_takeFirst : GoodIn wsX3_deliver (wsV RX3 140 RX2 yX2_takeFirst wsX2_takeFirst) := goodIn_app (goodIn_of _ (by decide +kernel)) ggX3_deliver_X2_takeFirst
set_option maxRecDepth 20000 in
theorem ggX3_deliver_X3_hear : GoodIn wsX3_deliver wsX3_hear := goodIn_r _ [48, 2, 3, 49, 50, 10, 11, 12, 6, 13, 14, 15, 51, 52, 53, 54, 55, 56, 57, 58, 59, 60, 61, 62, 1, 63, 64, 65, 25, 66, 40, 27, 30, 32, 35, 41, 42, 43, 44, 28, 67, 68, 69, 70, 71, 72, 73, 74, 75, 76, 77, 78, 79, 80, 81, 82, 83, 84, 85, 86, 87, 88, 89, 90, 91, 92, 93, 94, 95, 96, 97, 98, 99, 100, 101, 102, 103, 104, 105, 106, 107, 108, 109, 110, 111, 112, 113, 114, 115, 116, 117, 118, 119, 120, 121, 122, 123, 124, 125, 126, 127, 128, 129, 130, 131, 132, 133, 134, 135, 136, 137, 138, 139, 140, 141, 142, 143, 144, 145, 146, 147, 148, 149, 150, 151, 152, 153, 154, 155, 156, 157, 158, 175, 176, 177, 178, 179, 180, 181, 182, 183, 184, 185, 186, 159, 160, 161, 162, 163, 164, 165, 166, 167, 168, 169, 170, 171, 172, 173, 174, 187, 188, 189, 190, 191, 192] (by decide +kernel) (by decide +kernel)
set_option maxRecDepth 20000 in
theorem gX3_deliver_X3_hear : GoodIn wsX3_deliver (wsV RX3 146 RX3 yX3_hear wsX3_hear) := goodIn_app (goodIn_of _ (by decide +kernel)) ggX3_deliver_X3_hear
theorem dX3_deliver_0 : decode cX3_deliver 0 = .ok (.iload_n 1, 1) := by decide +kernel
theorem dX3_deliver_1 : decode cX3_deliver 1 = .ok (.invokestatic 48, 3) := by decide +kernel
theorem dX3_deliver_4 : decode cX3_deliver 4 = .ok (.aload_n 0, 1) := by decide +kernel
theorem dX3_deliver_5 : decode cX3_deliver 5 = .ok (.iload_n 1, 1) := by decide +kernel
theorem dX3_deliver_6 : decode cX3_deliver 6 = .ok (.invokevirtual 66, 3) := by decide +kernel
theorem dX3_deliver_9 : decode cX3_deliver 9 = .ok (.getfield 132, 3) := by decide +kernel
theorem dX3_deliver_12 : decode cX3_deliver 12 = .ok (.astore_n 2, 1) := by decide +kernel
theorem dX3_deliver_13 : decode cX3_deliver 13 = .ok (.aload_n 2, 1) := by decide +kernel
theorem dX3_deliver_14 : decode cX3_deliver 14 = .ok (.iconst 0, 1) := by decide +kernel
theorem dX3_deliver_15 : decode cX3_deliver 15 = .ok (.invokestatic 136, 3) := by decide +kernel
theorem dX3_deliver_18 : decode cX3_deliver 18 = .ok (.aload_n 2, 1) := by decide +kernel
theorem dX3_deliver_19 : decode cX3_deliver 19 = .ok (.aload_n 0, 1) := by decide +kernel
theorem dX3_deliver_20 : decode cX3_deliver 20 = .ok (.getfield 33, 3) := by decide +kernel
theorem dX3_deliver_23 : decode cX3_deliver 23 = .ok (.invokevirtual 140, 3) := by decide +kernel
theorem dX3_deliver_26 : decode cX3_deliver 26 = .ok (.aload_n 0, 1) := by decide +kernel
theorem dX3_deliver_27 : decode cX3_deliver 27 = .ok (.iload_n 1, 1) := by decide +kernel
theorem dX3_deliver_28 : decode cX3_deliver 28 = .ok (.invokevirtual 146, 3) := by decide +kernel
theorem dX3_deliver_31 : decode cX3_deliver 31 = .ok (.aload_n 0, 1) := by decide +kernel
theorem dX3_deliver_32 : decode cX3_deliver 32 = .ok (.getfield 33, 3) := by decide +kernel
theorem dX3_deliver_35 : decode cX3_deliver 35 = .ok (.getfield 149, 3) := by decide +kernel
theorem dX3_deliver_38 : decode cX3_deliver 38 = .ok (.ireturn, 1) := by decide +kernel
set_option maxRecDepth 20000 in
theorem ggX3_lose_X3_checkEnd : GoodIn wsX3_lose wsX3_checkEnd := goodIn_ca (goodIn_r _ [5, 6, 7] (by decide +kernel) (by decide +kernel)) (goodIn_sub (fun _ h => List.mem_cons_of_mem _ (List.mem_append_left _ (List.mem_append_right _ h))) (by decide +kernel))
set_option maxRecDepth 20000 in
theorem gX3_lose_X3_checkEnd : GoodIn wsX3_lose (va_wsS RX3 48 yX3_checkEnd wsX3_checkEnd) := goodIn_app (goodIn_of _ (by decide +kernel)) ggX3_lose_X3_checkEnd
set_option maxRecDepth 20000 in
theorem ggX3_lose_X3_endOf : GoodIn wsX3_lose wsX3_endOf := goodIn_r _ [11, 12, 13, 52, 53, 54, 55, 56, 57, 58, 59] (by decide +kernel) (by decide +kernel)
set_option maxRecDepth 20000 in
theorem gX3_lose_X3_endOf : GoodIn wsX3_lose (wsV RX3 66 RX3 yX3_endOf wsX3_endOf) := goodIn_app (goodIn_of _ (by decide +kernel)) ggX3_lose_X3_endOf
set_option maxRecDepth 20000 in
theorem ggX3_lose_X3_checkPlace : GoodIn wsX3_lose wsX3_checkPlace := goodIn_ca (goodIn_r _ [16, 17, 18, 19, 60, 61, 62, 63, 64, 65] (by decide +kernel) (by decide +kernel)) (goodIn_sub (fun _ h => List.mem_cons_of_mem _ (List.mem_append_right _ h)) (by decide +kernel))
set_option maxRecDepth 20000 in
theorem gX3_lose_X3_checkPlace : GoodIn wsX3_lose (va_wsS RX3 136 yX3_checkPlace wsX3_checkPlace) := goodIn_app (goodIn_of _ (by decide +kernel)) ggX3_lose_X3_checkPlace
set_option maxRecDepth 20000 in
theorem ggX3_lose_X2_kindOf : GoodIn wsX3_lose wsX2_kindOf := goodIn_r _ [24, 25, 26, 27, 28, 23, 29, 30, 60, 61, 62, 63, 64, 65] (by decide +kernel) (by decide +kernel)
set_option maxRecDepth 20000 in
theorem gX3_lose_X2_kindOf : GoodIn wsX3_lose (wsV RX3 152 RX2 yX2_kindOf wsX2_kindOf) := goodIn_app (goodIn_of _ (by decide +kernel)) ggX3_lose_X2_kindOf
set_option maxRecDepth 20000 in
theorem ggX3_lose_X2_dropFirst : GoodIn wsX3_lose wsX2_dropFirst := goodIn_r _ [34, 30, 35, 26, 27, 28, 23, 29, 60, 61, 62, 63, 64, 65] (by decide +kernel) (by decide +kernel)
set_option maxRecDepth 20000 in
theorem gX3_lose_X2_dropFirst : GoodIn wsX3_lose (wsV RX3 156 RX2 yX2_dropFirst wsX2_dropFirst) := goodIn_app (goodIn_of _ (by decide +kernel)) ggX3_lose_X2_dropFirst
theorem dX3_lose_0 : decode cX3_lose 0 = .ok (.iload_n 1, 1) := by decide +kernel
theorem dX3_lose_1 : decode cX3_lose 1 = .ok (.invokestatic 48, 3) := by decide +kernel
theorem dX3_lose_4 : decode cX3_lose 4 = .ok (.aload_n 0, 1) := by decide +kernel
theorem dX3_lose_5 : decode cX3_lose 5 = .ok (.iload_n 1, 1) := by decide +kernel
theorem dX3_lose_6 : decode cX3_lose 6 = .ok (.invokevirtual 66, 3) := by decide +kernel
theorem dX3_lose_9 : decode cX3_lose 9 = .ok (.getfield 132, 3) := by decide +kernel
theorem dX3_lose_12 : decode cX3_lose 12 = .ok (.astore_n 2, 1) := by decide +kernel
theorem dX3_lose_13 : decode cX3_lose 13 = .ok (.aload_n 2, 1) := by decide +kernel
theorem dX3_lose_14 : decode cX3_lose 14 = .ok (.iconst 0, 1) := by decide +kernel
theorem dX3_lose_15 : decode cX3_lose 15 = .ok (.invokestatic 136, 3) := by decide +kernel
theorem dX3_lose_18 : decode cX3_lose 18 = .ok (.aload_n 2, 1) := by decide +kernel
theorem dX3_lose_19 : decode cX3_lose 19 = .ok (.iconst 0, 1) := by decide +kernel
theorem dX3_lose_20 : decode cX3_lose 20 = .ok (.invokevirtual 152, 3) := by decide +kernel
theorem dX3_lose_23 : decode cX3_lose 23 = .ok (.istore_n 3, 1) := by decide +kernel
theorem dX3_lose_24 : decode cX3_lose 24 = .ok (.aload_n 2, 1) := by decide +kernel
theorem dX3_lose_25 : decode cX3_lose 25 = .ok (.invokevirtual 156, 3) := by decide +kernel
theorem dX3_lose_28 : decode cX3_lose 28 = .ok (.iload_n 3, 1) := by decide +kernel
theorem dX3_lose_29 : decode cX3_lose 29 = .ok (.ireturn, 1) := by decide +kernel
set_option maxRecDepth 20000 in
theorem ggX3_tick_X3_waitOneTickLess : GoodIn wsX3_tick wsX3_waitOneTickLess := goodIn_r _ [7, 8, 9, 10, 11, 6, 12, 13, 14, 15, 16, 17, 18, 19, 20, 21, 22, 23, 24, 25, 26, 27, 28, 29, 30, 31, 32, 33, 34, 35, 36, 37, 38, 39, 40, 41, 42, 43, 1, 44, 45, 46, 47, 48, 49, 50, 51, 52, 53, 54, 55, 56, 57, 58, 59, 60, 61, 62, 63, 64, 73, 74, 75, 76, 77, 78, 79, 80, 81, 82, 83, 84, 85, 86, 87, 88, 65, 66, 67, 68, 69, 70, 71, 72, 89, 90, 91, 92, 93, 94] (by decide +kernel) (by decide +kernel)
set_option maxRecDepth 20000 in
theorem gX3_tick_X3_waitOneTickLess : GoodIn wsX3_tick (wsV RX3 159 RX3 yX3_waitOneTickLess wsX3_waitOneTickLess) := goodIn_app (goodIn_of _ (by decide +kernel)) ggX3_tick_X3_waitOneTickLess
theorem dX3_tick_0 : decode cX3_tick 0 = .ok (.aload_n 0, 1) := by decide +kernel
theorem dX3_tick_1 : decode cX3_tick 1 = .ok (.getfield 27, 3) := by decide +kernel
theorem dX3_tick_4 : decode cX3_tick 4 = .ok (.istore_n 1, 1) := by decide +kernel
theorem dX3_tick_5 : decode cX3_tick 5 = .ok (.aload_n 0, 1) := by decide +kernel
theorem dX3_tick_6 : decode cX3_tick 6 = .ok (.dup, 1) := by decide +kernel
theorem dX3_tick_7 : decode cX3_tick 7 = .ok (.getfield 23, 3) := by decide +kernel
theorem dX3_tick_10 : decode cX3_tick 10 = .ok (.iconst 1, 1) := by decide +kernel
theorem dX3_tick_11 : decode cX3_tick 11 = .ok (.iadd, 1) := by decide +kernel
theorem dX3_tick_12 : decode cX3_tick 12 = .ok (.putfield 23, 3) := by decide +kernel
theorem dX3_tick_15 : decode cX3_tick 15 = .ok (.aload_n 0, 1) := by decide +kernel
theorem dX3_tick_16 : decode cX3_tick 16 = .ok (.iconst 0, 1) := by decide +kernel
theorem dX3_tick_17 : decode cX3_tick 17 = .ok (.invokevirtual 159, 3) := by decide +kernel
theorem dX3_tick_20 : decode cX3_tick 20 = .ok (.aload_n 0, 1) := by decide +kernel
theorem dX3_tick_21 : decode cX3_tick 21 = .ok (.iconst 1, 1) := by decide +kernel
theorem dX3_tick_22 : decode cX3_tick 22 = .ok (.invokevirtual 159, 3) := by decide +kernel
theorem dX3_tick_25 : decode cX3_tick 25 = .ok (.aload_n 0, 1) := by decide +kernel
theorem dX3_tick_26 : decode cX3_tick 26 = .ok (.getfield 27, 3) := by decide +kernel
theorem dX3_tick_29 : decode cX3_tick 29 = .ok (.iload_n 1, 1) := by decide +kernel
theorem dX3_tick_30 : decode cX3_tick 30 = .ok (.isub, 1) := by decide +kernel
theorem dX3_tick_31 : decode cX3_tick 31 = .ok (.ireturn, 1) := by decide +kernel
theorem dX3_time_0 : decode cX3_time 0 = .ok (.aload_n 0, 1) := by decide +kernel
theorem dX3_time_1 : decode cX3_time 1 = .ok (.getfield 23, 3) := by decide +kernel
theorem dX3_time_4 : decode cX3_time 4 = .ok (.ireturn, 1) := by decide +kernel
set_option maxRecDepth 20000 in
theorem ggX3_state_X3_checkEnd : GoodIn wsX3_state wsX3_checkEnd := goodIn_ca (goodIn_r _ [5, 6, 7] (by decide +kernel) (by decide +kernel)) (goodIn_sub (fun _ h => List.mem_cons_of_mem _ (List.mem_append_right _ h)) (by decide +kernel))
set_option maxRecDepth 20000 in
theorem gX3_state_X3_checkEnd : GoodIn wsX3_state (va_wsS RX3 48 yX3_checkEnd wsX3_checkEnd) := goodIn_app (goodIn_of _ (by decide +kernel)) ggX3_state_X3_checkEnd
set_option maxRecDepth 20000 in
theorem ggX3_state_X3_endOf : GoodIn wsX3_state wsX3_endOf := goodIn_r _ [11, 12, 13, 30, 31, 32, 33, 34, 35, 36, 37] (by decide +kernel) (by decide +kernel)
set_option maxRecDepth 20000 in
theorem gX3_state_X3_endOf : GoodIn wsX3_state (wsV RX3 66 RX3 yX3_endOf wsX3_endOf) := goodIn_app (goodIn_of _ (by decide +kernel)) ggX3_state_X3_endOf
theorem dX3_state_0 : decode cX3_state 0 = .ok (.iload_n 1, 1) := by decide +kernel
theorem dX3_state_1 : decode cX3_state 1 = .ok (.invokestatic 48, 3) := by decide +kernel
theorem dX3_state_4 : decode cX3_state 4 = .ok (.aload_n 0, 1) := by decide +kernel
theorem dX3_state_5 : decode cX3_state 5 = .ok (.iload_n 1, 1) := by decide +kernel
theorem dX3_state_6 : decode cX3_state 6 = .ok (.invokevirtual 66, 3) := by decide +kernel
theorem dX3_state_9 : decode cX3_state 9 = .ok (.getfield 95, 3) := by decide +kernel
theorem dX3_state_12 : decode cX3_state 12 = .ok (.ireturn, 1) := by decide +kernel
set_option maxRecDepth 20000 in
theorem ggX3_tries_X3_checkEnd : GoodIn wsX3_tries wsX3_checkEnd := goodIn_ca (goodIn_r _ [5, 6, 7] (by decide +kernel) (by decide +kernel)) (goodIn_sub (fun _ h => List.mem_cons_of_mem _ (List.mem_append_right _ h)) (by decide +kernel))
set_option maxRecDepth 20000 in
theorem gX3_tries_X3_checkEnd : GoodIn wsX3_tries (va_wsS RX3 48 yX3_checkEnd wsX3_checkEnd) := goodIn_app (goodIn_of _ (by decide +kernel)) ggX3_tries_X3_checkEnd
set_option maxRecDepth 20000 in
theorem ggX3_tries_X3_endOf : GoodIn wsX3_tries wsX3_endOf := goodIn_r _ [11, 12, 13, 30, 31, 32, 33, 34, 35, 36, 37] (by decide +kernel) (by decide +kernel)
set_option maxRecDepth 20000 in
theorem gX3_tries_X3_endOf : GoodIn wsX3_tries (wsV RX3 66 RX3 yX3_endOf wsX3_endOf) := goodIn_app (goodIn_of _ (by decide +kernel)) ggX3_tries_X3_endOf
theorem dX3_tries_0 : decode cX3_tries 0 = .ok (.iload_n 1, 1) := by decide +kernel
theorem dX3_tries_1 : decode cX3_tries 1 = .ok (.invokestatic 48, 3) := by decide +kernel
theorem dX3_tries_4 : decode cX3_tries 4 = .ok (.aload_n 0, 1) := by decide +kernel
theorem dX3_tries_5 : decode cX3_tries 5 = .ok (.iload_n 1, 1) := by decide +kernel
theorem dX3_tries_6 : decode cX3_tries 6 = .ok (.invokevirtual 66, 3) := by decide +kernel
theorem dX3_tries_9 : decode cX3_tries 9 = .ok (.getfield 98, 3) := by decide +kernel
theorem dX3_tries_12 : decode cX3_tries 12 = .ok (.ireturn, 1) := by decide +kernel
set_option maxRecDepth 20000 in
theorem ggX3_asked_X3_checkEnd : GoodIn wsX3_asked wsX3_checkEnd := goodIn_ca (goodIn_r _ [5, 6, 7] (by decide +kernel) (by decide +kernel)) (goodIn_sub (fun _ h => List.mem_cons_of_mem _ (List.mem_append_right _ h)) (by decide +kernel))
set_option maxRecDepth 20000 in
theorem gX3_asked_X3_checkEnd : GoodIn wsX3_asked (va_wsS RX3 48 yX3_checkEnd wsX3_checkEnd) := goodIn_app (goodIn_of _ (by decide +kernel)) ggX3_asked_X3_checkEnd
set_option maxRecDepth 20000 in
theorem ggX3_asked_X3_checkOption : GoodIn wsX3_asked wsX3_checkOption := goodIn_ca (goodIn_r _ [10, 6, 7] (by decide +kernel) (by decide +kernel)) (goodIn_sub (fun _ h => List.mem_cons_of_mem _ (List.mem_append_right _ h)) (by decide +kernel))
set_option maxRecDepth 20000 in
theorem gX3_asked_X3_checkOption : GoodIn wsX3_asked (va_wsS RX3 52 yX3_checkOption wsX3_checkOption) := goodIn_app (goodIn_of _ (by decide +kernel)) ggX3_asked_X3_checkOption
set_option maxRecDepth 20000 in
theorem ggX3_asked_X3_endOf : GoodIn wsX3_asked wsX3_endOf := goodIn_r _ [14, 15, 16, 33, 34, 35, 36, 37, 38, 39, 40] (by decide +kernel) (by decide +kernel)
set_option maxRecDepth 20000 in
theorem gX3_asked_X3_endOf : GoodIn wsX3_asked (wsV RX3 66 RX3 yX3_endOf wsX3_endOf) := goodIn_app (goodIn_of _ (by decide +kernel)) ggX3_asked_X3_endOf
theorem dX3_asked_0 : decode cX3_asked 0 = .ok (.iload_n 1, 1) := by decide +kernel
theorem dX3_asked_1 : decode cX3_asked 1 = .ok (.invokestatic 48, 3) := by decide +kernel
theorem dX3_asked_4 : decode cX3_asked 4 = .ok (.iload_n 2, 1) := by decide +kernel
theorem dX3_asked_5 : decode cX3_asked 5 = .ok (.invokestatic 52, 3) := by decide +kernel
theorem dX3_asked_8 : decode cX3_asked 8 = .ok (.aload_n 0, 1) := by decide +kernel
theorem dX3_asked_9 : decode cX3_asked 9 = .ok (.iload_n 1, 1) := by decide +kernel
theorem dX3_asked_10 : decode cX3_asked 10 = .ok (.invokevirtual 66, 3) := by decide +kernel
theorem dX3_asked_13 : decode cX3_asked 13 = .ok (.getfield 107, 3) := by decide +kernel
theorem dX3_asked_16 : decode cX3_asked 16 = .ok (.iload_n 2, 1) := by decide +kernel
theorem dX3_asked_17 : decode cX3_asked 17 = .ok (.iaload, 1) := by decide +kernel
theorem dX3_asked_18 : decode cX3_asked 18 = .ok (.ireturn, 1) := by decide +kernel
set_option maxRecDepth 20000 in
theorem ggX3_granted_X3_checkEnd : GoodIn wsX3_granted wsX3_checkEnd := goodIn_ca (goodIn_r _ [6, 7, 8] (by decide +kernel) (by decide +kernel)) (goodIn_sub (fun _ h => List.mem_cons_of_mem _ (List.mem_append_right _ h)) (by decide +kernel))
set_option maxRecDepth 20000 in
theorem gX3_granted_X3_checkEnd : GoodIn wsX3_granted (va_wsS RX3 48 yX3_checkEnd wsX3_checkEnd) := goodIn_app (goodIn_of _ (by decide +kernel)) ggX3_granted_X3_checkEnd
set_option maxRecDepth 20000 in
theorem ggX3_granted_X3_checkOption : GoodIn wsX3_granted wsX3_checkOption := goodIn_ca (goodIn_r _ [11, 7, 8] (by decide +kernel) (by decide +kernel)) (goodIn_sub (fun _ h => List.mem_cons_of_mem _ (List.mem_append_right _ h)) (by decide +kernel))
set_option maxRecDepth 20000 in
theorem gX3_granted_X3_checkOption : GoodIn wsX3_granted (va_wsS RX3 52 yX3_checkOption wsX3_checkOption) := goodIn_app (goodIn_of _ (by decide +kernel)) ggX3_granted_X3_checkOption
set_option maxRecDepth 20000 in
theorem ggX3_granted_X3_endOf : GoodIn wsX3_granted wsX3_endOf := goodIn_r _ [15, 16, 17, 34, 35, 36, 37, 38, 39, 40, 41] (by decide +kernel) (by decide +kernel)
set_option maxRecDepth 20000 in
theorem gX3_granted_X3_endOf : GoodIn wsX3_granted (wsV RX3 66 RX3 yX3_endOf wsX3_endOf) := goodIn_app (goodIn_of _ (by decide +kernel)) ggX3_granted_X3_endOf
theorem dX3_granted_0 : decode cX3_granted 0 = .ok (.iload_n 1, 1) := by decide +kernel
theorem dX3_granted_1 : decode cX3_granted 1 = .ok (.invokestatic 48, 3) := by decide +kernel
theorem dX3_granted_4 : decode cX3_granted 4 = .ok (.iload_n 2, 1) := by decide +kernel
theorem dX3_granted_5 : decode cX3_granted 5 = .ok (.invokestatic 52, 3) := by decide +kernel
theorem dX3_granted_8 : decode cX3_granted 8 = .ok (.aload_n 0, 1) := by decide +kernel
theorem dX3_granted_9 : decode cX3_granted 9 = .ok (.iload_n 1, 1) := by decide +kernel
theorem dX3_granted_10 : decode cX3_granted 10 = .ok (.invokevirtual 66, 3) := by decide +kernel
theorem dX3_granted_13 : decode cX3_granted 13 = .ok (.astore_n 3, 1) := by decide +kernel
theorem dX3_granted_14 : decode cX3_granted 14 = .ok (.aload_n 3, 1) := by decide +kernel
theorem dX3_granted_15 : decode cX3_granted 15 = .ok (.getfield 95, 3) := by decide +kernel
theorem dX3_granted_18 : decode cX3_granted 18 = .ok (.iconst 2, 1) := by decide +kernel
theorem dX3_granted_19 : decode cX3_granted 19 = .ok (.if_icmp .eq 11, 3) := by decide +kernel
theorem dX3_granted_22 : decode cX3_granted 22 = .ok (.aload_n 3, 1) := by decide +kernel
theorem dX3_granted_23 : decode cX3_granted 23 = .ok (.getfield 95, 3) := by decide +kernel
theorem dX3_granted_26 : decode cX3_granted 26 = .ok (.iconst 4, 1) := by decide +kernel
theorem dX3_granted_27 : decode cX3_granted 27 = .ok (.if_icmp .ne 7, 3) := by decide +kernel
theorem dX3_granted_30 : decode cX3_granted 30 = .ok (.iconst 1, 1) := by decide +kernel
theorem dX3_granted_31 : decode cX3_granted 31 = .ok (.goto 4, 3) := by decide +kernel
theorem dX3_granted_34 : decode cX3_granted 34 = .ok (.iconst 0, 1) := by decide +kernel
theorem dX3_granted_35 : decode cX3_granted 35 = .ok (.istore 4, 2) := by decide +kernel
theorem dX3_granted_37 : decode cX3_granted 37 = .ok (.iload 4, 2) := by decide +kernel
theorem dX3_granted_39 : decode cX3_granted 39 = .ok (.ifCond .eq 12, 3) := by decide +kernel
theorem dX3_granted_42 : decode cX3_granted 42 = .ok (.aload_n 3, 1) := by decide +kernel
theorem dX3_granted_43 : decode cX3_granted 43 = .ok (.getfield 107, 3) := by decide +kernel
theorem dX3_granted_46 : decode cX3_granted 46 = .ok (.iload_n 2, 1) := by decide +kernel
theorem dX3_granted_47 : decode cX3_granted 47 = .ok (.iaload, 1) := by decide +kernel
theorem dX3_granted_48 : decode cX3_granted 48 = .ok (.goto 4, 3) := by decide +kernel
theorem dX3_granted_51 : decode cX3_granted 51 = .ok (.iconst (-1), 1) := by decide +kernel
theorem dX3_granted_52 : decode cX3_granted 52 = .ok (.ireturn, 1) := by decide +kernel
set_option maxRecDepth 20000 in
theorem ggX3_allowed_X3_checkEnd : GoodIn wsX3_allowed wsX3_checkEnd := goodIn_ca (goodIn_r _ [6, 7, 8] (by decide +kernel) (by decide +kernel)) (goodIn_sub (fun _ h => List.mem_cons_of_mem _ (List.mem_append_right _ h)) (by decide +kernel))
set_option maxRecDepth 20000 in
theorem gX3_allowed_X3_checkEnd : GoodIn wsX3_allowed (va_wsS RX3 48 yX3_checkEnd wsX3_checkEnd) := goodIn_app (goodIn_of _ (by decide +kernel)) ggX3_allowed_X3_checkEnd
set_option maxRecDepth 20000 in
theorem ggX3_allowed_X3_checkOption : GoodIn wsX3_allowed wsX3_checkOption := goodIn_ca (goodIn_r _ [11, 7, 8] (by decide +kernel) (by decide +kernel)) (goodIn_sub (fun _ h => List.mem_cons_of_mem _ (List.mem_append_right _ h)) (by decide +kernel))
set_option maxRecDepth 20000 in
theorem gX3_allowed_X3_checkOption : GoodIn wsX3_allowed (va_wsS RX3 52 yX3_checkOption wsX3_checkOption) := goodIn_app (goodIn_of _ (by decide +kernel)) ggX3_allowed_X3_checkOption
set_option maxRecDepth 20000 in
theorem ggX3_allowed_X3_endOf : GoodIn wsX3_allowed wsX3_endOf := goodIn_r _ [15, 16, 17, 34, 35, 36, 37, 38, 39, 40, 41] (by decide +kernel) (by decide +kernel)
set_option maxRecDepth 20000 in
theorem gX3_allowed_X3_endOf : GoodIn wsX3_allowed (wsV RX3 66 RX3 yX3_endOf wsX3_endOf) := goodIn_app (goodIn_of _ (by decide +kernel)) ggX3_allowed_X3_endOf
theorem dX3_allowed_0 : decode cX3_allowed 0 = .ok (.iload_n 1, 1) := by decide +kernel
theorem dX3_allowed_1 : decode cX3_allowed 1 = .ok (.invokestatic 48, 3) := by decide +kernel
theorem dX3_allowed_4 : decode cX3_allowed 4 = .ok (.iload_n 2, 1) := by decide +kernel
theorem dX3_allowed_5 : decode cX3_allowed 5 = .ok (.invokestatic 52, 3) := by decide +kernel
theorem dX3_allowed_8 : decode cX3_allowed 8 = .ok (.aload_n 0, 1) := by decide +kernel
theorem dX3_allowed_9 : decode cX3_allowed 9 = .ok (.iload_n 1, 1) := by decide +kernel
theorem dX3_allowed_10 : decode cX3_allowed 10 = .ok (.invokevirtual 66, 3) := by decide +kernel
theorem dX3_allowed_13 : decode cX3_allowed 13 = .ok (.astore_n 3, 1) := by decide +kernel
theorem dX3_allowed_14 : decode cX3_allowed 14 = .ok (.aload_n 3, 1) := by decide +kernel
theorem dX3_allowed_15 : decode cX3_allowed 15 = .ok (.getfield 95, 3) := by decide +kernel
theorem dX3_allowed_18 : decode cX3_allowed 18 = .ok (.iconst 3, 1) := by decide +kernel
theorem dX3_allowed_19 : decode cX3_allowed 19 = .ok (.if_icmp .eq 11, 3) := by decide +kernel
theorem dX3_allowed_22 : decode cX3_allowed 22 = .ok (.aload_n 3, 1) := by decide +kernel
theorem dX3_allowed_23 : decode cX3_allowed 23 = .ok (.getfield 95, 3) := by decide +kernel
theorem dX3_allowed_26 : decode cX3_allowed 26 = .ok (.iconst 4, 1) := by decide +kernel
theorem dX3_allowed_27 : decode cX3_allowed 27 = .ok (.if_icmp .ne 7, 3) := by decide +kernel
theorem dX3_allowed_30 : decode cX3_allowed 30 = .ok (.iconst 1, 1) := by decide +kernel
theorem dX3_allowed_31 : decode cX3_allowed 31 = .ok (.goto 4, 3) := by decide +kernel
theorem dX3_allowed_34 : decode cX3_allowed 34 = .ok (.iconst 0, 1) := by decide +kernel
theorem dX3_allowed_35 : decode cX3_allowed 35 = .ok (.istore 4, 2) := by decide +kernel
theorem dX3_allowed_37 : decode cX3_allowed 37 = .ok (.iload 4, 2) := by decide +kernel
theorem dX3_allowed_39 : decode cX3_allowed 39 = .ok (.ifCond .eq 12, 3) := by decide +kernel
theorem dX3_allowed_42 : decode cX3_allowed 42 = .ok (.aload_n 3, 1) := by decide +kernel
theorem dX3_allowed_43 : decode cX3_allowed 43 = .ok (.getfield 162, 3) := by decide +kernel
theorem dX3_allowed_46 : decode cX3_allowed 46 = .ok (.iload_n 2, 1) := by decide +kernel
theorem dX3_allowed_47 : decode cX3_allowed 47 = .ok (.iaload, 1) := by decide +kernel
theorem dX3_allowed_48 : decode cX3_allowed 48 = .ok (.goto 4, 3) := by decide +kernel
theorem dX3_allowed_51 : decode cX3_allowed 51 = .ok (.iconst (-1), 1) := by decide +kernel
theorem dX3_allowed_52 : decode cX3_allowed 52 = .ok (.ireturn, 1) := by decide +kernel
set_option maxRecDepth 20000 in
theorem ggX3_waiting_X3_checkEnd : GoodIn wsX3_waiting wsX3_checkEnd := goodIn_ca (goodIn_r _ [6, 7, 8] (by decide +kernel) (by decide +kernel)) (goodIn_sub (fun _ h => List.mem_cons_of_mem _ (List.mem_append_right _ h)) (by decide +kernel))
set_option maxRecDepth 20000 in
theorem gX3_waiting_X3_checkEnd : GoodIn wsX3_waiting (va_wsS RX3 48 yX3_checkEnd wsX3_checkEnd) := goodIn_app (goodIn_of _ (by decide +kernel)) ggX3_waiting_X3_checkEnd
set_option maxRecDepth 20000 in
theorem ggX3_waiting_X3_endOf : GoodIn wsX3_waiting wsX3_endOf := goodIn_r _ [12, 13, 14, 37, 38, 39, 40, 41, 42, 43, 44] (by decide +kernel) (by decide +kernel)
set_option maxRecDepth 20000 in
theorem gX3_waiting_X3_endOf : GoodIn wsX3_waiting (wsV RX3 66 RX3 yX3_endOf wsX3_endOf) := goodIn_app (goodIn_of _ (by decide +kernel)) ggX3_waiting_X3_endOf
theorem dX3_waiting_0 : decode cX3_waiting 0 = .ok (.iload_n 1, 1) := by decide +kernel
theorem dX3_waiting_1 : decode cX3_waiting 1 = .ok (.invokestatic 48, 3) := by decide +kernel
theorem dX3_waiting_4 : decode cX3_waiting 4 = .ok (.aload_n 0, 1) := by decide +kernel
theorem dX3_waiting_5 : decode cX3_waiting 5 = .ok (.iload_n 1, 1) := by decide +kernel
theorem dX3_waiting_6 : decode cX3_waiting 6 = .ok (.invokevirtual 66, 3) := by decide +kernel
theorem dX3_waiting_9 : decode cX3_waiting 9 = .ok (.getfield 132, 3) := by decide +kernel
theorem dX3_waiting_12 : decode cX3_waiting 12 = .ok (.getfield 165, 3) := by decide +kernel
theorem dX3_waiting_15 : decode cX3_waiting 15 = .ok (.ireturn, 1) := by decide +kernel
set_option maxRecDepth 20000 in
theorem ggX3_kindAt_X3_checkEnd : GoodIn wsX3_kindAt wsX3_checkEnd := goodIn_ca (goodIn_r _ [5, 6, 7] (by decide +kernel) (by decide +kernel)) (goodIn_sub (fun _ h => List.mem_cons_of_mem _ (List.mem_append_left _ (List.mem_append_right _ h))) (by decide +kernel))
set_option maxRecDepth 20000 in
theorem gX3_kindAt_X3_checkEnd : GoodIn wsX3_kindAt (va_wsS RX3 48 yX3_checkEnd wsX3_checkEnd) := goodIn_app (goodIn_of _ (by decide +kernel)) ggX3_kindAt_X3_checkEnd
set_option maxRecDepth 20000 in
theorem ggX3_kindAt_X3_endOf : GoodIn wsX3_kindAt wsX3_endOf := goodIn_r _ [11, 12, 13, 47, 48, 49, 50, 51, 52, 53, 54] (by decide +kernel) (by decide +kernel)
set_option maxRecDepth 20000 in
theorem gX3_kindAt_X3_endOf : GoodIn wsX3_kindAt (wsV RX3 66 RX3 yX3_endOf wsX3_endOf) := goodIn_app (goodIn_of _ (by decide +kernel)) ggX3_kindAt_X3_endOf
set_option maxRecDepth 20000 in
theorem ggX3_kindAt_X3_checkPlace : GoodIn wsX3_kindAt wsX3_checkPlace := goodIn_ca (goodIn_r _ [16, 17, 18, 19, 55, 56, 57, 58, 59, 60] (by decide +kernel) (by decide +kernel)) (goodIn_sub (fun _ h => List.mem_cons_of_mem _ (List.mem_append_right _ h)) (by decide +kernel))
set_option maxRecDepth 20000 in
theorem gX3_kindAt_X3_checkPlace : GoodIn wsX3_kindAt (va_wsS RX3 136 yX3_checkPlace wsX3_checkPlace) := goodIn_app (goodIn_of _ (by decide +kernel)) ggX3_kindAt_X3_checkPlace
set_option maxRecDepth 20000 in
theorem ggX3_kindAt_X2_kindOf : GoodIn wsX3_kindAt wsX2_kindOf := goodIn_r _ [24, 25, 26, 27, 28, 23, 29, 30, 55, 56, 57, 58, 59, 60] (by decide +kernel) (by decide +kernel)
set_option maxRecDepth 20000 in
theorem gX3_kindAt_X2_kindOf : GoodIn wsX3_kindAt (wsV RX3 152 RX2 yX2_kindOf wsX2_kindOf) := goodIn_app (goodIn_of _ (by decide +kernel)) ggX3_kindAt_X2_kindOf
theorem dX3_kindAt_0 : decode cX3_kindAt 0 = .ok (.iload_n 1, 1) := by decide +kernel
theorem dX3_kindAt_1 : decode cX3_kindAt 1 = .ok (.invokestatic 48, 3) := by decide +kernel
theorem dX3_kindAt_4 : decode cX3_kindAt 4 = .ok (.aload_n 0, 1) := by decide +kernel
theorem dX3_kindAt_5 : decode cX3_kindAt 5 = .ok (.iload_n 1, 1) := by decide +kernel
theorem dX3_kindAt_6 : decode cX3_kindAt 6 = .ok (.invokevirtual 66, 3) := by decide +kernel
theorem dX3_kindAt_9 : decode cX3_kindAt 9 = .ok (.getfield 132, 3) := by decide +kernel
theorem dX3_kindAt_12 : decode cX3_kindAt 12 = .ok (.astore_n 3, 1) := by decide +kernel
theorem dX3_kindAt_13 : decode cX3_kindAt 13 = .ok (.aload_n 3, 1) := by decide +kernel
theorem dX3_kindAt_14 : decode cX3_kindAt 14 = .ok (.iload_n 2, 1) := by decide +kernel
theorem dX3_kindAt_15 : decode cX3_kindAt 15 = .ok (.invokestatic 136, 3) := by decide +kernel
theorem dX3_kindAt_18 : decode cX3_kindAt 18 = .ok (.aload_n 3, 1) := by decide +kernel
theorem dX3_kindAt_19 : decode cX3_kindAt 19 = .ok (.iload_n 2, 1) := by decide +kernel
theorem dX3_kindAt_20 : decode cX3_kindAt 20 = .ok (.invokevirtual 152, 3) := by decide +kernel
theorem dX3_kindAt_23 : decode cX3_kindAt 23 = .ok (.ireturn, 1) := by decide +kernel
set_option maxRecDepth 20000 in
theorem ggX3_lineLength_X3_checkEnd : GoodIn wsX3_lineLength wsX3_checkEnd := goodIn_ca (goodIn_r _ [5, 6, 7] (by decide +kernel) (by decide +kernel)) (goodIn_sub (fun _ h => List.mem_cons_of_mem _ (List.mem_append_right _ h)) (by decide +kernel))
set_option maxRecDepth 20000 in
theorem gX3_lineLength_X3_checkEnd : GoodIn wsX3_lineLength (va_wsS RX3 48 yX3_checkEnd wsX3_checkEnd) := goodIn_app (goodIn_of _ (by decide +kernel)) ggX3_lineLength_X3_checkEnd
set_option maxRecDepth 20000 in
theorem ggX3_lineLength_X3_endOf : GoodIn wsX3_lineLength wsX3_endOf := goodIn_r _ [11, 12, 13, 248, 249, 250, 251, 252, 253, 254, 255] (by decide +kernel) (by decide +kernel)
set_option maxRecDepth 20000 in
theorem gX3_lineLength_X3_endOf : GoodIn wsX3_lineLength (wsV RX3 66 RX3 yX3_endOf wsX3_endOf) := goodIn_app (goodIn_of _ (by decide +kernel)) ggX3_lineLength_X3_endOf
set_option maxRecDepth 20000 in
theorem ggX3_lineLength_X3_writeLine : GoodIn wsX3_lineLength wsX3_writeLine := goodIn_r _ [17, 1, 18, 19, 20, 21, 22, 23, 24, 25, 26, 27, 28, 29, 30, 31, 32, 33, 34, 35, 36, 37, 38, 39, 40, 41, 42, 43, 44, 45, 46, 47, 48, 49, 50, 51, 52, 53, 54, 55, 56, 57, 58, 59, 60, 61, 62, 63, 64, 65, 66, 67, 68, 69, 70, 71, 72, 73, 74, 75, 76, 77, 78, 79, 80, 81, 82, 83, 84, 85, 86, 87, 88, 89, 90, 91, 92, 93, 94, 95, 96, 97, 98, 4, 99, 100, 101, 102, 103, 104, 105, 106, 107, 108, 109, 110, 111, 112, 113, 114, 115, 116, 117, 118, 119, 120, 121, 122, 123, 124, 125, 126, 127, 128, 129, 130, 131, 132, 133, 134, 135, 136, 137, 138, 139, 140, 141, 142, 143, 144, 145, 146, 147, 148, 149, 150, 151, 152, 153, 154, 155, 156, 157, 158, 159, 160, 161, 162, 163, 164, 165, 166, 167, 168, 169, 170, 171, 172, 173, 174, 175, 176, 177, 178, 179, 180, 181, 182, 183, 184, 185, 186, 187, 188, 189, 190, 191, 192, 193, 194, 195, 196, 197, 198, 199, 200, 201, 202, 203, 204, 205, 206, 207, 208, 209, 210, 211, 212, 213, 214, 215, 216, 217, 218, 219, 220, 221, 222, 223, 224, 225, 226, 227, 228, 229, 230, 231, 232, 233, 234, 235, 236, 237, 238, 239, 248, 249, 250, 251, 252, 253, 254, 255, 256, 257, 258, 259, 260, 261, 262, 263, 264, 265, 266, 267, 268, 269, 270, 271, 272, 273, 274, 275] (by decide +kernel) (by decide +kernel)
set_option maxRecDepth 20000 in
theorem gX3_lineLength_X3_writeLine : GoodIn wsX3_lineLength (wsV RX3 168 RX3 yX3_writeLine wsX3_writeLine) := goodIn_app (goodIn_of _ (by decide +kernel)) ggX3_lineLength_X3_writeLine
set_option maxRecDepth 20000 in
theorem ggX3_lineLength_J4_length_8abf5 : GoodIn wsX3_lineLength wsJ4_length_8abf5 := goodIn_r _ [243, 244, 245, 27, 246, 29, 247, 31, 272, 273, 274, 275] (by decide +kernel) (by decide +kernel)
set_option maxRecDepth 20000 in
theorem gX3_lineLength_J4_length_8abf5 : GoodIn wsX3_lineLength (wsV RX3 171 RJ4 yJ4_length_8abf5 wsJ4_length_8abf5) := goodIn_app (goodIn_of _ (by decide +kernel)) ggX3_lineLength_J4_length_8abf5
theorem dX3_lineLength_0 : decode cX3_lineLength 0 = .ok (.iload_n 1, 1) := by decide +kernel
theorem dX3_lineLength_1 : decode cX3_lineLength 1 = .ok (.invokestatic 48, 3) := by decide +kernel
theorem dX3_lineLength_4 : decode cX3_lineLength 4 = .ok (.aload_n 0, 1) := by decide +kernel
theorem dX3_lineLength_5 : decode cX3_lineLength 5 = .ok (.aload_n 0, 1) := by decide +kernel
theorem dX3_lineLength_6 : decode cX3_lineLength 6 = .ok (.iload_n 1, 1) := by decide +kernel
theorem dX3_lineLength_7 : decode cX3_lineLength 7 = .ok (.invokevirtual 66, 3) := by decide +kernel
theorem dX3_lineLength_10 : decode cX3_lineLength 10 = .ok (.invokevirtual 168, 3) := by decide +kernel
theorem dX3_lineLength_13 : decode cX3_lineLength 13 = .ok (.aload_n 0, 1) := by decide +kernel
theorem dX3_lineLength_14 : decode cX3_lineLength 14 = .ok (.getfield 44, 3) := by decide +kernel
theorem dX3_lineLength_17 : decode cX3_lineLength 17 = .ok (.invokevirtual 171, 3) := by decide +kernel
theorem dX3_lineLength_20 : decode cX3_lineLength 20 = .ok (.ireturn, 1) := by decide +kernel
set_option maxRecDepth 20000 in
theorem ggX3_lineChar_X3_checkEnd : GoodIn wsX3_lineChar wsX3_checkEnd := goodIn_ca (goodIn_r _ [7, 8, 9] (by decide +kernel) (by decide +kernel)) (goodIn_sub (fun _ h => List.mem_cons_of_mem _ (List.mem_append_right _ h)) (by decide +kernel))
set_option maxRecDepth 20000 in
theorem gX3_lineChar_X3_checkEnd : GoodIn wsX3_lineChar (va_wsS RX3 48 yX3_checkEnd wsX3_checkEnd) := goodIn_app (goodIn_of _ (by decide +kernel)) ggX3_lineChar_X3_checkEnd
set_option maxRecDepth 20000 in
theorem ggX3_lineChar_X3_endOf : GoodIn wsX3_lineChar wsX3_endOf := goodIn_r _ [13, 14, 15, 263, 264, 265, 266, 267, 268, 269, 270] (by decide +kernel) (by decide +kernel)
set_option maxRecDepth 20000 in
theorem gX3_lineChar_X3_endOf : GoodIn wsX3_lineChar (wsV RX3 66 RX3 yX3_endOf wsX3_endOf) := goodIn_app (goodIn_of _ (by decide +kernel)) ggX3_lineChar_X3_endOf
set_option maxRecDepth 20000 in
theorem ggX3_lineChar_X3_writeLine : GoodIn wsX3_lineChar wsX3_writeLine := goodIn_r _ [19, 3, 20, 21, 22, 23, 24, 25, 26, 27, 28, 29, 30, 31, 32, 33, 34, 35, 36, 37, 38, 39, 40, 41, 42, 43, 44, 45, 46, 47, 48, 49, 50, 51, 52, 53, 54, 55, 56, 57, 58, 59, 60, 61, 62, 63, 64, 65, 66, 67, 68, 69, 70, 71, 72, 73, 74, 75, 76, 77, 78, 79, 80, 81, 82, 83, 84, 85, 86, 87, 88, 89, 90, 91, 92, 93, 94, 95, 96, 97, 98, 99, 100, 6, 101, 102, 103, 104, 105, 106, 107, 108, 109, 110, 111, 112, 113, 114, 115, 116, 117, 118, 119, 120, 121, 122, 123, 124, 125, 126, 127, 128, 129, 130, 131, 132, 133, 134, 135, 136, 137, 138, 139, 140, 141, 142, 143, 144, 145, 146, 147, 148, 149, 150, 151, 152, 153, 154, 155, 156, 157, 158, 159, 160, 161, 162, 163, 164, 165, 166, 167, 168, 169, 170, 171, 172, 173, 174, 175, 176, 177, 178, 179, 180, 181, 182, 183, 184, 185, 186, 187, 188, 189, 190, 191, 192, 193, 194, 195, 196, 197, 198, 199, 200, 201, 202, 203, 204, 205, 206, 207, 208, 209, 210, 211, 212, 213, 214, 215, 216, 217, 218, 219, 220, 221, 222, 223, 224, 225, 226, 227, 228, 229, 230, 231, 232, 233, 234, 235, 236, 237, 238, 239, 240, 241, 263, 264, 265, 266, 267, 268, 269, 270, 271, 272, 273, 274, 275, 276, 277, 278, 279, 280, 281, 282, 283, 284, 285, 286, 287, 288, 289, 290] (by decide +kernel) (by decide +kernel)
set_option maxRecDepth 20000 in
theorem gX3_lineChar_X3_writeLine : GoodIn wsX3_lineChar (wsV RX3 168 RX3 yX3_writeLine wsX3_writeLine) := goodIn_app (goodIn_of _ (by decide +kernel)) ggX3_lineChar_X3_writeLine
set_option maxRecDepth 20000 in
theorem ggX3_lineChar_J4_length_8abf5 : GoodIn wsX3_lineChar wsJ4_length_8abf5 := goodIn_r _ [245, 246, 247, 29, 248, 31, 249, 33, 287, 288, 289, 290] (by decide +kernel) (by decide +kernel)
set_option maxRecDepth 20000 in
theorem gX3_lineChar_J4_length_8abf5 : GoodIn wsX3_lineChar (wsV RX3 171 RJ4 yJ4_length_8abf5 wsJ4_length_8abf5) := goodIn_app (goodIn_of _ (by decide +kernel)) ggX3_lineChar_J4_length_8abf5
set_option maxRecDepth 20000 in
theorem ggX3_lineChar_J4_charAt_5068e : GoodIn wsX3_lineChar wsJ4_charAt_5068e := goodIn_r _ [253, 254, 255, 29, 256, 31, 257, 41, 34, 33, 258, 72, 54, 73, 259, 212, 127, 213, 129, 214, 215, 132, 216, 260, 261, 96, 262, 118, 137, 138, 122, 123, 124, 287, 288, 289, 290] (by decide +kernel) (by decide +kernel)
set_option maxRecDepth 20000 in
theorem gX3_lineChar_J4_charAt_5068e : GoodIn wsX3_lineChar (wsV RX3 180 RJ4 yJ4_charAt_5068e wsJ4_charAt_5068e) := goodIn_app (goodIn_of _ (by decide +kernel)) ggX3_lineChar_J4_charAt_5068e
theorem dX3_lineChar_0 : decode cX3_lineChar 0 = .ok (.iload_n 1, 1) := by decide +kernel
theorem dX3_lineChar_1 : decode cX3_lineChar 1 = .ok (.invokestatic 48, 3) := by decide +kernel
theorem dX3_lineChar_4 : decode cX3_lineChar 4 = .ok (.aload_n 0, 1) := by decide +kernel
theorem dX3_lineChar_5 : decode cX3_lineChar 5 = .ok (.aload_n 0, 1) := by decide +kernel
theorem dX3_lineChar_6 : decode cX3_lineChar 6 = .ok (.iload_n 1, 1) := by decide +kernel
theorem dX3_lineChar_7 : decode cX3_lineChar 7 = .ok (.invokevirtual 66, 3) := by decide +kernel
theorem dX3_lineChar_10 : decode cX3_lineChar 10 = .ok (.invokevirtual 168, 3) := by decide +kernel
theorem dX3_lineChar_13 : decode cX3_lineChar 13 = .ok (.iload_n 2, 1) := by decide +kernel
theorem dX3_lineChar_14 : decode cX3_lineChar 14 = .ok (.ifCond .lt 14, 3) := by decide +kernel
theorem dX3_lineChar_17 : decode cX3_lineChar 17 = .ok (.iload_n 2, 1) := by decide +kernel
theorem dX3_lineChar_18 : decode cX3_lineChar 18 = .ok (.aload_n 0, 1) := by decide +kernel
theorem dX3_lineChar_19 : decode cX3_lineChar 19 = .ok (.getfield 44, 3) := by decide +kernel
theorem dX3_lineChar_22 : decode cX3_lineChar 22 = .ok (.invokevirtual 171, 3) := by decide +kernel
theorem dX3_lineChar_25 : decode cX3_lineChar 25 = .ok (.if_icmp .lt 13, 3) := by decide +kernel
theorem dX3_lineChar_28 : decode cX3_lineChar 28 = .ok (.new 175, 3) := by decide +kernel
theorem dX3_lineChar_31 : decode cX3_lineChar 31 = .ok (.dup, 1) := by decide +kernel
theorem dX3_lineChar_32 : decode cX3_lineChar 32 = .ok (.ldc 177, 2) := by decide +kernel
theorem dX3_lineChar_34 : decode cX3_lineChar 34 = .ok (.invokespecial 179, 3) := by decide +kernel
theorem dX3_lineChar_37 : decode cX3_lineChar 37 = .ok (.athrow, 1) := by decide +kernel
theorem dX3_lineChar_38 : decode cX3_lineChar 38 = .ok (.aload_n 0, 1) := by decide +kernel
theorem dX3_lineChar_39 : decode cX3_lineChar 39 = .ok (.getfield 44, 3) := by decide +kernel
theorem dX3_lineChar_42 : decode cX3_lineChar 42 = .ok (.iload_n 2, 1) := by decide +kernel
theorem dX3_lineChar_43 : decode cX3_lineChar 43 = .ok (.invokevirtual 180, 3) := by decide +kernel
theorem dX3_lineChar_46 : decode cX3_lineChar 46 = .ok (.ireturn, 1) := by decide +kernel
theorem dX3_checkEnd_0 : decode cX3_checkEnd 0 = .ok (.iload_n 0, 1) := by decide +kernel
theorem dX3_checkEnd_1 : decode cX3_checkEnd 1 = .ok (.ifCond .lt 8, 3) := by decide +kernel
theorem dX3_checkEnd_4 : decode cX3_checkEnd 4 = .ok (.iload_n 0, 1) := by decide +kernel
theorem dX3_checkEnd_5 : decode cX3_checkEnd 5 = .ok (.iconst 1, 1) := by decide +kernel
theorem dX3_checkEnd_6 : decode cX3_checkEnd 6 = .ok (.if_icmp .le 13, 3) := by decide +kernel
theorem dX3_checkEnd_9 : decode cX3_checkEnd 9 = .ok (.new 59, 3) := by decide +kernel
theorem dX3_checkEnd_12 : decode cX3_checkEnd 12 = .ok (.dup, 1) := by decide +kernel
theorem dX3_checkEnd_13 : decode cX3_checkEnd 13 = .ok (.ldc 184, 2) := by decide +kernel
theorem dX3_checkEnd_15 : decode cX3_checkEnd 15 = .ok (.invokespecial 63, 3) := by decide +kernel
theorem dX3_checkEnd_18 : decode cX3_checkEnd 18 = .ok (.athrow, 1) := by decide +kernel
theorem dX3_checkEnd_19 : decode cX3_checkEnd 19 = .ok (.return_, 1) := by decide +kernel
theorem dX3_checkOption_0 : decode cX3_checkOption 0 = .ok (.iload_n 0, 1) := by decide +kernel
theorem dX3_checkOption_1 : decode cX3_checkOption 1 = .ok (.ifCond .lt 8, 3) := by decide +kernel
theorem dX3_checkOption_4 : decode cX3_checkOption 4 = .ok (.iload_n 0, 1) := by decide +kernel
theorem dX3_checkOption_5 : decode cX3_checkOption 5 = .ok (.iconst 4, 1) := by decide +kernel
theorem dX3_checkOption_6 : decode cX3_checkOption 6 = .ok (.if_icmp .lt 13, 3) := by decide +kernel
theorem dX3_checkOption_9 : decode cX3_checkOption 9 = .ok (.new 59, 3) := by decide +kernel
theorem dX3_checkOption_12 : decode cX3_checkOption 12 = .ok (.dup, 1) := by decide +kernel
theorem dX3_checkOption_13 : decode cX3_checkOption 13 = .ok (.ldc 186, 2) := by decide +kernel
theorem dX3_checkOption_15 : decode cX3_checkOption 15 = .ok (.invokespecial 63, 3) := by decide +kernel
theorem dX3_checkOption_18 : decode cX3_checkOption 18 = .ok (.athrow, 1) := by decide +kernel
theorem dX3_checkOption_19 : decode cX3_checkOption 19 = .ok (.return_, 1) := by decide +kernel
theorem dX3_checkRange_0 : decode cX3_checkRange 0 = .ok (.iload_n 0, 1) := by decide +kernel
theorem dX3_checkRange_1 : decode cX3_checkRange 1 = .ok (.ifCond .lt 14, 3) := by decide +kernel
theorem dX3_checkRange_4 : decode cX3_checkRange 4 = .ok (.iload_n 1, 1) := by decide +kernel
theorem dX3_checkRange_5 : decode cX3_checkRange 5 = .ok (.iload_n 0, 1) := by decide +kernel
theorem dX3_checkRange_6 : decode cX3_checkRange 6 = .ok (.if_icmp .lt 9, 3) := by decide +kernel
theorem dX3_checkRange_9 : decode cX3_checkRange 9 = .ok (.iload_n 1, 1) := by decide +kernel
theorem dX3_checkRange_10 : decode cX3_checkRange 10 = .ok (.bipush 100, 2) := by decide +kernel
theorem dX3_checkRange_12 : decode cX3_checkRange 12 = .ok (.if_icmp .le 13, 3) := by decide +kernel
theorem dX3_checkRange_15 : decode cX3_checkRange 15 = .ok (.new 59, 3) := by decide +kernel
theorem dX3_checkRange_18 : decode cX3_checkRange 18 = .ok (.dup, 1) := by decide +kernel
theorem dX3_checkRange_19 : decode cX3_checkRange 19 = .ok (.ldc 188, 2) := by decide +kernel
theorem dX3_checkRange_21 : decode cX3_checkRange 21 = .ok (.invokespecial 63, 3) := by decide +kernel
theorem dX3_checkRange_24 : decode cX3_checkRange 24 = .ok (.athrow, 1) := by decide +kernel
theorem dX3_checkRange_25 : decode cX3_checkRange 25 = .ok (.return_, 1) := by decide +kernel
set_option maxRecDepth 20000 in
theorem ggX3_checkShut_X0_isShut : GoodIn wsX3_checkShut wsX0_isShut := goodIn_r _ [7, 8, 9, 10, 11, 12, 13, 14, 15, 16, 17, 18, 19, 20, 21, 22, 23, 24] (by decide +kernel) (by decide +kernel)
set_option maxRecDepth 20000 in
theorem gX3_checkShut_X0_isShut : GoodIn wsX3_checkShut (wsV RX3 190 RX0 yX0_isShut wsX0_isShut) := goodIn_app (goodIn_of _ (by decide +kernel)) ggX3_checkShut_X0_isShut
theorem dX3_checkShut_0 : decode cX3_checkShut 0 = .ok (.aload_n 0, 1) := by decide +kernel
theorem dX3_checkShut_1 : decode cX3_checkShut 1 = .ok (.invokevirtual 190, 3) := by decide +kernel
theorem dX3_checkShut_4 : decode cX3_checkShut 4 = .ok (.ifCond .ne 13, 3) := by decide +kernel
theorem dX3_checkShut_7 : decode cX3_checkShut 7 = .ok (.new 121, 3) := by decide +kernel
theorem dX3_checkShut_10 : decode cX3_checkShut 10 = .ok (.dup, 1) := by decide +kernel
theorem dX3_checkShut_11 : decode cX3_checkShut 11 = .ok (.ldc 193, 2) := by decide +kernel
theorem dX3_checkShut_13 : decode cX3_checkShut 13 = .ok (.invokespecial 125, 3) := by decide +kernel
theorem dX3_checkShut_16 : decode cX3_checkShut 16 = .ok (.athrow, 1) := by decide +kernel
theorem dX3_checkShut_17 : decode cX3_checkShut 17 = .ok (.return_, 1) := by decide +kernel
theorem dX3_checkPlace_0 : decode cX3_checkPlace 0 = .ok (.iload_n 1, 1) := by decide +kernel
theorem dX3_checkPlace_1 : decode cX3_checkPlace 1 = .ok (.ifCond .lt 11, 3) := by decide +kernel
theorem dX3_checkPlace_4 : decode cX3_checkPlace 4 = .ok (.iload_n 1, 1) := by decide +kernel
theorem dX3_checkPlace_5 : decode cX3_checkPlace 5 = .ok (.aload_n 0, 1) := by decide +kernel
theorem dX3_checkPlace_6 : decode cX3_checkPlace 6 = .ok (.getfield 165, 3) := by decide +kernel
theorem dX3_checkPlace_9 : decode cX3_checkPlace 9 = .ok (.if_icmp .lt 13, 3) := by decide +kernel
theorem dX3_checkPlace_12 : decode cX3_checkPlace 12 = .ok (.new 175, 3) := by decide +kernel
theorem dX3_checkPlace_15 : decode cX3_checkPlace 15 = .ok (.dup, 1) := by decide +kernel
theorem dX3_checkPlace_16 : decode cX3_checkPlace 16 = .ok (.ldc 195, 2) := by decide +kernel
theorem dX3_checkPlace_18 : decode cX3_checkPlace 18 = .ok (.invokespecial 179, 3) := by decide +kernel
theorem dX3_checkPlace_21 : decode cX3_checkPlace 21 = .ok (.athrow, 1) := by decide +kernel
theorem dX3_checkPlace_22 : decode cX3_checkPlace 22 = .ok (.return_, 1) := by decide +kernel
theorem dX3_endOf_0 : decode cX3_endOf 0 = .ok (.iload_n 1, 1) := by decide +kernel
theorem dX3_endOf_1 : decode cX3_endOf 1 = .ok (.ifCond .ne 10, 3) := by decide +kernel
theorem dX3_endOf_4 : decode cX3_endOf 4 = .ok (.aload_n 0, 1) := by decide +kernel
theorem dX3_endOf_5 : decode cX3_endOf 5 = .ok (.getfield 10, 3) := by decide +kernel
theorem dX3_endOf_8 : decode cX3_endOf 8 = .ok (.goto 7, 3) := by decide +kernel
theorem dX3_endOf_11 : decode cX3_endOf 11 = .ok (.aload_n 0, 1) := by decide +kernel
theorem dX3_endOf_12 : decode cX3_endOf 12 = .ok (.getfield 16, 3) := by decide +kernel
theorem dX3_endOf_15 : decode cX3_endOf 15 = .ok (.areturn, 1) := by decide +kernel
set_option maxRecDepth 20000 in
theorem ggX3_send_X3_endOf : GoodIn wsX3_send wsX3_endOf := goodIn_r _ [8, 9, 10, 26, 27, 28, 29, 30, 31, 32, 33] (by decide +kernel) (by decide +kernel)
set_option maxRecDepth 20000 in
theorem gX3_send_X3_endOf : GoodIn wsX3_send (wsV RX3 66 RX3 yX3_endOf wsX3_endOf) := goodIn_app (goodIn_of _ (by decide +kernel)) ggX3_send_X3_endOf
set_option maxRecDepth 20000 in
theorem ggX3_send_X2_add : GoodIn wsX3_send wsX2_add := goodIn_r _ [15, 16, 17, 18, 19, 20, 21, 22, 23, 14, 24, 25, 50, 51, 52, 53, 54, 55] (by decide +kernel) (by decide +kernel)
set_option maxRecDepth 20000 in
theorem gX3_send_X2_add : GoodIn wsX3_send (wsV RX3 197 RX2 yX2_add wsX2_add) := goodIn_app (goodIn_of _ (by decide +kernel)) ggX3_send_X2_add
theorem dX3_send_0 : decode cX3_send 0 = .ok (.aload_n 0, 1) := by decide +kernel
theorem dX3_send_1 : decode cX3_send 1 = .ok (.aload_n 0, 1) := by decide +kernel
theorem dX3_send_2 : decode cX3_send 2 = .ok (.getfield 19, 3) := by decide +kernel
theorem dX3_send_5 : decode cX3_send 5 = .ok (.ifCond .eq 7, 3) := by decide +kernel
theorem dX3_send_8 : decode cX3_send 8 = .ok (.iload_n 1, 1) := by decide +kernel
theorem dX3_send_9 : decode cX3_send 9 = .ok (.goto 6, 3) := by decide +kernel
theorem dX3_send_12 : decode cX3_send 12 = .ok (.iconst 1, 1) := by decide +kernel
theorem dX3_send_13 : decode cX3_send 13 = .ok (.iload_n 1, 1) := by decide +kernel
theorem dX3_send_14 : decode cX3_send 14 = .ok (.isub, 1) := by decide +kernel
theorem dX3_send_15 : decode cX3_send 15 = .ok (.invokevirtual 66, 3) := by decide +kernel
theorem dX3_send_18 : decode cX3_send 18 = .ok (.astore 6, 2) := by decide +kernel
theorem dX3_send_20 : decode cX3_send 20 = .ok (.aload_n 0, 1) := by decide +kernel
theorem dX3_send_21 : decode cX3_send 21 = .ok (.dup, 1) := by decide +kernel
theorem dX3_send_22 : decode cX3_send 22 = .ok (.getfield 27, 3) := by decide +kernel
theorem dX3_send_25 : decode cX3_send 25 = .ok (.iconst 1, 1) := by decide +kernel
theorem dX3_send_26 : decode cX3_send 26 = .ok (.iadd, 1) := by decide +kernel
theorem dX3_send_27 : decode cX3_send 27 = .ok (.putfield 27, 3) := by decide +kernel
theorem dX3_send_30 : decode cX3_send 30 = .ok (.aload 6, 2) := by decide +kernel
theorem dX3_send_32 : decode cX3_send 32 = .ok (.getfield 132, 3) := by decide +kernel
theorem dX3_send_35 : decode cX3_send 35 = .ok (.iload_n 2, 1) := by decide +kernel
theorem dX3_send_36 : decode cX3_send 36 = .ok (.iload_n 3, 1) := by decide +kernel
theorem dX3_send_37 : decode cX3_send 37 = .ok (.iload 4, 2) := by decide +kernel
theorem dX3_send_39 : decode cX3_send 39 = .ok (.aload 5, 2) := by decide +kernel
theorem dX3_send_41 : decode cX3_send 41 = .ok (.invokevirtual 197, 3) := by decide +kernel
theorem dX3_send_44 : decode cX3_send 44 = .ok (.return_, 1) := by decide +kernel
set_option maxRecDepth 20000 in
theorem ggX3_sendRequest_X3_endOf : GoodIn wsX3_sendRequest wsX3_endOf := goodIn_r _ [11, 12, 13, 52, 53, 54, 55, 56, 57, 58, 59] (by decide +kernel) (by decide +kernel)
set_option maxRecDepth 20000 in
theorem gX3_sendRequest_X3_endOf : GoodIn wsX3_sendRequest (wsV RX3 66 RX3 yX3_endOf wsX3_endOf) := goodIn_app (goodIn_of _ (by decide +kernel)) ggX3_sendRequest_X3_endOf
set_option maxRecDepth 20000 in
theorem ggX3_sendRequest_X3_send : GoodIn wsX3_sendRequest wsX3_send := goodIn_r _ [17, 18, 19, 20, 7, 8, 9, 10, 11, 12, 13, 21, 22, 23, 24, 25, 26, 27, 28, 29, 30, 31, 32, 33, 34, 35, 52, 53, 54, 55, 56, 57, 58, 59, 36, 37, 38, 39, 40, 41, 42, 43, 44, 45, 46, 47, 48, 49, 50, 51, 60, 61, 62, 63, 64, 65] (by decide +kernel) (by decide +kernel)
set_option maxRecDepth 20000 in
theorem gX3_sendRequest_X3_send : GoodIn wsX3_sendRequest (wsV RX3 207 RX3 yX3_send wsX3_send) := goodIn_app (goodIn_of _ (by decide +kernel)) ggX3_sendRequest_X3_send
theorem dX3_sendRequest_0 : decode cX3_sendRequest 0 = .ok (.aload_n 0, 1) := by decide +kernel
theorem dX3_sendRequest_1 : decode cX3_sendRequest 1 = .ok (.iload_n 1, 1) := by decide +kernel
theorem dX3_sendRequest_2 : decode cX3_sendRequest 2 = .ok (.invokevirtual 66, 3) := by decide +kernel
theorem dX3_sendRequest_5 : decode cX3_sendRequest 5 = .ok (.astore_n 2, 1) := by decide +kernel
theorem dX3_sendRequest_6 : decode cX3_sendRequest 6 = .ok (.aload_n 2, 1) := by decide +kernel
theorem dX3_sendRequest_7 : decode cX3_sendRequest 7 = .ok (.getfield 98, 3) := by decide +kernel
theorem dX3_sendRequest_10 : decode cX3_sendRequest 10 = .ok (.ifCond .ne 10, 3) := by decide +kernel
theorem dX3_sendRequest_13 : decode cX3_sendRequest 13 = .ok (.aload_n 2, 1) := by decide +kernel
theorem dX3_sendRequest_14 : decode cX3_sendRequest 14 = .ok (.bipush 6, 2) := by decide +kernel
theorem dX3_sendRequest_16 : decode cX3_sendRequest 16 = .ok (.putfield 95, 3) := by decide +kernel
theorem dX3_sendRequest_19 : decode cX3_sendRequest 19 = .ok (.return_, 1) := by decide +kernel
theorem dX3_sendRequest_20 : decode cX3_sendRequest 20 = .ok (.aload_n 2, 1) := by decide +kernel
theorem dX3_sendRequest_21 : decode cX3_sendRequest 21 = .ok (.dup, 1) := by decide +kernel
theorem dX3_sendRequest_22 : decode cX3_sendRequest 22 = .ok (.getfield 98, 3) := by decide +kernel
theorem dX3_sendRequest_25 : decode cX3_sendRequest 25 = .ok (.iconst 1, 1) := by decide +kernel
theorem dX3_sendRequest_26 : decode cX3_sendRequest 26 = .ok (.isub, 1) := by decide +kernel
theorem dX3_sendRequest_27 : decode cX3_sendRequest 27 = .ok (.putfield 98, 3) := by decide +kernel
theorem dX3_sendRequest_30 : decode cX3_sendRequest 30 = .ok (.aload_n 2, 1) := by decide +kernel
theorem dX3_sendRequest_31 : decode cX3_sendRequest 31 = .ok (.dup, 1) := by decide +kernel
theorem dX3_sendRequest_32 : decode cX3_sendRequest 32 = .ok (.getfield 201, 3) := by decide +kernel
theorem dX3_sendRequest_35 : decode cX3_sendRequest 35 = .ok (.iconst 1, 1) := by decide +kernel
theorem dX3_sendRequest_36 : decode cX3_sendRequest 36 = .ok (.iadd, 1) := by decide +kernel
theorem dX3_sendRequest_37 : decode cX3_sendRequest 37 = .ok (.putfield 201, 3) := by decide +kernel
theorem dX3_sendRequest_40 : decode cX3_sendRequest 40 = .ok (.aload_n 2, 1) := by decide +kernel
theorem dX3_sendRequest_41 : decode cX3_sendRequest 41 = .ok (.iconst 3, 1) := by decide +kernel
theorem dX3_sendRequest_42 : decode cX3_sendRequest 42 = .ok (.putfield 204, 3) := by decide +kernel
theorem dX3_sendRequest_45 : decode cX3_sendRequest 45 = .ok (.aload_n 0, 1) := by decide +kernel
theorem dX3_sendRequest_46 : decode cX3_sendRequest 46 = .ok (.iload_n 1, 1) := by decide +kernel
theorem dX3_sendRequest_47 : decode cX3_sendRequest 47 = .ok (.iconst 0, 1) := by decide +kernel
theorem dX3_sendRequest_48 : decode cX3_sendRequest 48 = .ok (.aload_n 2, 1) := by decide +kernel
theorem dX3_sendRequest_49 : decode cX3_sendRequest 49 = .ok (.getfield 201, 3) := by decide +kernel
theorem dX3_sendRequest_52 : decode cX3_sendRequest 52 = .ok (.aload_n 2, 1) := by decide +kernel
theorem dX3_sendRequest_53 : decode cX3_sendRequest 53 = .ok (.getfield 101, 3) := by decide +kernel
theorem dX3_sendRequest_56 : decode cX3_sendRequest 56 = .ok (.aload_n 2, 1) := by decide +kernel
theorem dX3_sendRequest_57 : decode cX3_sendRequest 57 = .ok (.getfield 107, 3) := by decide +kernel
theorem dX3_sendRequest_60 : decode cX3_sendRequest 60 = .ok (.invokevirtual 207, 3) := by decide +kernel
theorem dX3_sendRequest_63 : decode cX3_sendRequest 63 = .ok (.return_, 1) := by decide +kernel
set_option maxRecDepth 20000 in
theorem ggX3_sendBye_X3_endOf : GoodIn wsX3_sendBye wsX3_endOf := goodIn_r _ [8, 9, 10, 49, 50, 51, 52, 53, 54, 55, 56] (by decide +kernel) (by decide +kernel)
set_option maxRecDepth 20000 in
theorem gX3_sendBye_X3_endOf : GoodIn wsX3_sendBye (wsV RX3 66 RX3 yX3_endOf wsX3_endOf) := goodIn_app (goodIn_of _ (by decide +kernel)) ggX3_sendBye_X3_endOf
set_option maxRecDepth 20000 in
theorem ggX3_sendBye_X3_send : GoodIn wsX3_sendBye wsX3_send := goodIn_r _ [14, 15, 16, 17, 4, 5, 6, 7, 8, 9, 10, 18, 19, 20, 21, 22, 23, 24, 25, 26, 27, 28, 29, 30, 31, 32, 49, 50, 51, 52, 53, 54, 55, 56, 33, 34, 35, 36, 37, 38, 39, 40, 41, 42, 43, 44, 45, 46, 47, 48, 57, 58, 59, 60, 61, 62] (by decide +kernel) (by decide +kernel)
set_option maxRecDepth 20000 in
theorem gX3_sendBye_X3_send : GoodIn wsX3_sendBye (wsV RX3 207 RX3 yX3_send wsX3_send) := goodIn_app (goodIn_of _ (by decide +kernel)) ggX3_sendBye_X3_send
theorem dX3_sendBye_0 : decode cX3_sendBye 0 = .ok (.aload_n 0, 1) := by decide +kernel
theorem dX3_sendBye_1 : decode cX3_sendBye 1 = .ok (.iload_n 1, 1) := by decide +kernel
theorem dX3_sendBye_2 : decode cX3_sendBye 2 = .ok (.invokevirtual 66, 3) := by decide +kernel
theorem dX3_sendBye_5 : decode cX3_sendBye 5 = .ok (.astore_n 2, 1) := by decide +kernel
theorem dX3_sendBye_6 : decode cX3_sendBye 6 = .ok (.aload_n 2, 1) := by decide +kernel
theorem dX3_sendBye_7 : decode cX3_sendBye 7 = .ok (.dup, 1) := by decide +kernel
theorem dX3_sendBye_8 : decode cX3_sendBye 8 = .ok (.getfield 126, 3) := by decide +kernel
theorem dX3_sendBye_11 : decode cX3_sendBye 11 = .ok (.iconst 1, 1) := by decide +kernel
theorem dX3_sendBye_12 : decode cX3_sendBye 12 = .ok (.iadd, 1) := by decide +kernel
theorem dX3_sendBye_13 : decode cX3_sendBye 13 = .ok (.putfield 126, 3) := by decide +kernel
theorem dX3_sendBye_16 : decode cX3_sendBye 16 = .ok (.aload_n 2, 1) := by decide +kernel
theorem dX3_sendBye_17 : decode cX3_sendBye 17 = .ok (.iconst 2, 1) := by decide +kernel
theorem dX3_sendBye_18 : decode cX3_sendBye 18 = .ok (.putfield 204, 3) := by decide +kernel
theorem dX3_sendBye_21 : decode cX3_sendBye 21 = .ok (.aload_n 0, 1) := by decide +kernel
theorem dX3_sendBye_22 : decode cX3_sendBye 22 = .ok (.iload_n 1, 1) := by decide +kernel
theorem dX3_sendBye_23 : decode cX3_sendBye 23 = .ok (.iconst 4, 1) := by decide +kernel
theorem dX3_sendBye_24 : decode cX3_sendBye 24 = .ok (.iconst 0, 1) := by decide +kernel
theorem dX3_sendBye_25 : decode cX3_sendBye 25 = .ok (.iconst 0, 1) := by decide +kernel
theorem dX3_sendBye_26 : decode cX3_sendBye 26 = .ok (.getstatic 211, 3) := by decide +kernel
theorem dX3_sendBye_29 : decode cX3_sendBye 29 = .ok (.invokevirtual 207, 3) := by decide +kernel
theorem dX3_sendBye_32 : decode cX3_sendBye 32 = .ok (.return_, 1) := by decide +kernel
set_option maxRecDepth 20000 in
theorem ggX3_hear_X3_endOf : GoodIn wsX3_hear wsX3_endOf := goodIn_r _ [9, 10, 11, 132, 133, 134, 135, 136, 137, 138, 139] (by decide +kernel) (by decide +kernel)
set_option maxRecDepth 20000 in
theorem gX3_hear_X3_endOf : GoodIn wsX3_hear (wsV RX3 66 RX3 yX3_endOf wsX3_endOf) := goodIn_app (goodIn_of _ (by decide +kernel)) ggX3_hear_X3_endOf
set_option maxRecDepth 20000 in
theorem ggX3_hear_X3_hearBye : GoodIn wsX3_hear wsX3_hearBye := goodIn_r _ [15, 16, 17, 5, 6, 7, 8, 9, 10, 11, 18, 19, 20, 21, 22, 23, 24, 25, 26, 27, 28, 29, 30, 31, 32, 33, 34, 35, 36, 37, 38, 39, 40, 41, 42, 43, 44, 45, 46, 47, 48, 49, 144, 145, 146, 147, 148, 149, 150, 151, 152, 153, 154, 155, 156, 157, 158, 159, 132, 133, 134, 135, 136, 137, 138, 139, 160, 161, 162, 163, 164, 165] (by decide +kernel) (by decide +kernel)
set_option maxRecDepth 20000 in
theorem gX3_hear_X3_hearBye : GoodIn wsX3_hear (wsV RX3 214 RX3 yX3_hearBye wsX3_hearBye) := goodIn_app (goodIn_of _ (by decide +kernel)) ggX3_hear_X3_hearBye
set_option maxRecDepth 20000 in
theorem ggX3_hear_X3_hearByeBye : GoodIn wsX3_hear wsX3_hearByeBye := goodIn_r _ [52, 17, 144, 145, 146, 147, 148, 149, 150, 151, 152, 153, 154, 155, 156, 157, 158, 159] (by decide +kernel) (by decide +kernel)
set_option maxRecDepth 20000 in
theorem gX3_hear_X3_hearByeBye : GoodIn wsX3_hear (va_wsS RX3 217 yX3_hearByeBye wsX3_hearByeBye) := goodIn_app (goodIn_of _ (by decide +kernel)) ggX3_hear_X3_hearByeBye
set_option maxRecDepth 20000 in
theorem ggX3_hear_X0_isUp : GoodIn wsX3_hear wsX0_isUp := goodIn_r _ [44, 45, 46, 47, 48, 43, 49, 144, 145, 146, 147, 148, 149, 150, 151, 152, 153, 154, 155, 156, 157, 158, 159] (by decide +kernel) (by decide +kernel)
set_option maxRecDepth 20000 in
theorem gX3_hear_X0_isUp : GoodIn wsX3_hear (wsV RX3 117 RX0 yX0_isUp wsX0_isUp) := goodIn_app (goodIn_of _ (by decide +kernel)) ggX3_hear_X0_isUp
set_option maxRecDepth 20000 in
theorem ggX3_hear_X3_hearRequest : GoodIn wsX3_hear wsX3_hearRequest := goodIn_r _ [56, 1, 57, 58, 59, 17, 60, 5, 6, 7, 8, 9, 10, 11, 61, 62, 63, 43, 64, 65, 45, 66, 67, 68, 69, 4, 70, 71, 18, 19, 20, 21, 22, 23, 24, 25, 26, 27, 28, 29, 30, 31, 32, 33, 34, 35, 36, 37, 38, 39, 72, 73, 74, 75, 76, 77, 78, 3, 79, 80, 81, 82, 83, 84, 85, 86, 87, 88, 89, 90, 91, 92, 93, 94, 95, 96, 97, 98, 99, 100, 101, 102, 103, 104, 105, 106, 107, 108, 109, 110, 111, 112, 132, 133, 134, 135, 136, 137, 138, 139, 140, 141, 142, 143, 144, 145, 146, 147, 148, 149, 150, 151, 152, 153, 154, 155, 156, 157, 158, 159, 160, 161, 162, 163, 164, 165] (by decide +kernel) (by decide +kernel)
set_option maxRecDepth 20000 in
theorem gX3_hear_X3_hearRequest : GoodIn wsX3_hear (wsV RX3 220 RX3 yX3_hearRequest wsX3_hearRequest) := goodIn_app (goodIn_of _ (by decide +kernel)) ggX3_hear_X3_hearRequest
set_option maxRecDepth 20000 in
theorem ggX3_hear_X3_hearAnswer : GoodIn wsX3_hear wsX3_hearAnswer := goodIn_r _ [116, 1, 2, 17, 76, 5, 6, 7, 8, 9, 10, 11, 117, 118, 119, 120, 109, 110, 43, 111, 45, 112, 121, 122, 123, 124, 125, 126, 127, 128, 129, 130, 131, 66, 67, 68, 69, 60, 4, 70, 58, 71, 18, 19, 20, 21, 22, 23, 24, 25, 26, 27, 28, 29, 30, 31, 32, 33, 34, 35, 36, 37, 38, 39, 132, 133, 134, 135, 136, 137, 138, 139, 140, 141, 142, 143, 144, 145, 146, 147, 148, 149, 150, 151, 152, 153, 154, 155, 156, 157, 158, 159, 160, 161, 162, 163, 164, 165] (by decide +kernel) (by decide +kernel)
set_option maxRecDepth 20000 in
theorem gX3_hear_X3_hearAnswer : GoodIn wsX3_hear (wsV RX3 224 RX3 yX3_hearAnswer wsX3_hearAnswer) := goodIn_app (goodIn_of _ (by decide +kernel)) ggX3_hear_X3_hearAnswer
theorem dX3_hear_0 : decode cX3_hear 0 = .ok (.aload_n 0, 1) := by decide +kernel
theorem dX3_hear_1 : decode cX3_hear 1 = .ok (.iload_n 1, 1) := by decide +kernel
theorem dX3_hear_2 : decode cX3_hear 2 = .ok (.invokevirtual 66, 3) := by decide +kernel
theorem dX3_hear_5 : decode cX3_hear 5 = .ok (.astore_n 2, 1) := by decide +kernel
theorem dX3_hear_6 : decode cX3_hear 6 = .ok (.aload_n 0, 1) := by decide +kernel
theorem dX3_hear_7 : decode cX3_hear 7 = .ok (.getfield 33, 3) := by decide +kernel
theorem dX3_hear_10 : decode cX3_hear 10 = .ok (.getfield 149, 3) := by decide +kernel
theorem dX3_hear_13 : decode cX3_hear 13 = .ok (.iconst 4, 1) := by decide +kernel
theorem dX3_hear_14 : decode cX3_hear 14 = .ok (.if_icmp .ne 11, 3) := by decide +kernel
theorem dX3_hear_17 : decode cX3_hear 17 = .ok (.aload_n 0, 1) := by decide +kernel
theorem dX3_hear_18 : decode cX3_hear 18 = .ok (.iload_n 1, 1) := by decide +kernel
theorem dX3_hear_19 : decode cX3_hear 19 = .ok (.invokevirtual 214, 3) := by decide +kernel
theorem dX3_hear_22 : decode cX3_hear 22 = .ok (.goto 65, 3) := by decide +kernel
theorem dX3_hear_25 : decode cX3_hear 25 = .ok (.aload_n 0, 1) := by decide +kernel
theorem dX3_hear_26 : decode cX3_hear 26 = .ok (.getfield 33, 3) := by decide +kernel
theorem dX3_hear_29 : decode cX3_hear 29 = .ok (.getfield 149, 3) := by decide +kernel
theorem dX3_hear_32 : decode cX3_hear 32 = .ok (.iconst 5, 1) := by decide +kernel
theorem dX3_hear_33 : decode cX3_hear 33 = .ok (.if_icmp .ne 10, 3) := by decide +kernel
theorem dX3_hear_36 : decode cX3_hear 36 = .ok (.aload_n 2, 1) := by decide +kernel
theorem dX3_hear_37 : decode cX3_hear 37 = .ok (.invokestatic 217, 3) := by decide +kernel
theorem dX3_hear_40 : decode cX3_hear 40 = .ok (.goto 47, 3) := by decide +kernel
theorem dX3_hear_43 : decode cX3_hear 43 = .ok (.aload_n 2, 1) := by decide +kernel
theorem dX3_hear_44 : decode cX3_hear 44 = .ok (.invokevirtual 117, 3) := by decide +kernel
theorem dX3_hear_47 : decode cX3_hear 47 = .ok (.ifCond .eq 40, 3) := by decide +kernel
theorem dX3_hear_50 : decode cX3_hear 50 = .ok (.aload_n 0, 1) := by decide +kernel
theorem dX3_hear_51 : decode cX3_hear 51 = .ok (.getfield 33, 3) := by decide +kernel
theorem dX3_hear_54 : decode cX3_hear 54 = .ok (.getfield 149, 3) := by decide +kernel
theorem dX3_hear_57 : decode cX3_hear 57 = .ok (.ifCond .ne 11, 3) := by decide +kernel
theorem dX3_hear_60 : decode cX3_hear 60 = .ok (.aload_n 0, 1) := by decide +kernel
theorem dX3_hear_61 : decode cX3_hear 61 = .ok (.iload_n 1, 1) := by decide +kernel
theorem dX3_hear_62 : decode cX3_hear 62 = .ok (.invokevirtual 220, 3) := by decide +kernel
theorem dX3_hear_65 : decode cX3_hear 65 = .ok (.goto 22, 3) := by decide +kernel
theorem dX3_hear_68 : decode cX3_hear 68 = .ok (.aload_n 0, 1) := by decide +kernel
theorem dX3_hear_69 : decode cX3_hear 69 = .ok (.getfield 33, 3) := by decide +kernel
theorem dX3_hear_72 : decode cX3_hear 72 = .ok (.getfield 223, 3) := by decide +kernel
theorem dX3_hear_75 : decode cX3_hear 75 = .ok (.aload_n 2, 1) := by decide +kernel
theorem dX3_hear_76 : decode cX3_hear 76 = .ok (.getfield 201, 3) := by decide +kernel
theorem dX3_hear_79 : decode cX3_hear 79 = .ok (.if_icmp .ne 8, 3) := by decide +kernel
theorem dX3_hear_82 : decode cX3_hear 82 = .ok (.aload_n 0, 1) := by decide +kernel
theorem dX3_hear_83 : decode cX3_hear 83 = .ok (.iload_n 1, 1) := by decide +kernel
theorem dX3_hear_84 : decode cX3_hear 84 = .ok (.invokevirtual 224, 3) := by decide +kernel
theorem dX3_hear_87 : decode cX3_hear 87 = .ok (.return_, 1) := by decide +kernel
set_option maxRecDepth 20000 in
theorem ggX3_hearBye_X3_endOf : GoodIn wsX3_hearBye wsX3_endOf := goodIn_r _ [7, 8, 9, 58, 59, 60, 61, 62, 63, 64, 65] (by decide +kernel) (by decide +kernel)
set_option maxRecDepth 20000 in
theorem gX3_hearBye_X3_endOf : GoodIn wsX3_hearBye (wsV RX3 66 RX3 yX3_endOf wsX3_endOf) := goodIn_app (goodIn_of _ (by decide +kernel)) ggX3_hearBye_X3_endOf
set_option maxRecDepth 20000 in
theorem ggX3_hearBye_X3_send : GoodIn wsX3_hearBye wsX3_send := goodIn_r _ [13, 14, 15, 16, 3, 4, 5, 6, 7, 8, 9, 17, 18, 19, 20, 21, 22, 23, 24, 25, 26, 27, 28, 29, 30, 31, 58, 59, 60, 61, 62, 63, 64, 65, 42, 43, 44, 45, 46, 47, 48, 49, 50, 51, 52, 53, 54, 55, 56, 57, 66, 67, 68, 69, 70, 71] (by decide +kernel) (by decide +kernel)
set_option maxRecDepth 20000 in
theorem gX3_hearBye_X3_send : GoodIn wsX3_hearBye (wsV RX3 207 RX3 yX3_send wsX3_send) := goodIn_app (goodIn_of _ (by decide +kernel)) ggX3_hearBye_X3_send
set_option maxRecDepth 20000 in
theorem ggX3_hearBye_X0_isUp : GoodIn wsX3_hearBye wsX0_isUp := goodIn_r _ [36, 37, 38, 39, 40, 35, 41, 42, 43, 44, 45, 46, 47, 48, 49, 50, 51, 52, 53, 54, 55, 56, 57] (by decide +kernel) (by decide +kernel)
set_option maxRecDepth 20000 in
theorem gX3_hearBye_X0_isUp : GoodIn wsX3_hearBye (wsV RX3 117 RX0 yX0_isUp wsX0_isUp) := goodIn_app (goodIn_of _ (by decide +kernel)) ggX3_hearBye_X0_isUp
theorem dX3_hearBye_0 : decode cX3_hearBye 0 = .ok (.aload_n 0, 1) := by decide +kernel
theorem dX3_hearBye_1 : decode cX3_hearBye 1 = .ok (.iload_n 1, 1) := by decide +kernel
theorem dX3_hearBye_2 : decode cX3_hearBye 2 = .ok (.invokevirtual 66, 3) := by decide +kernel
theorem dX3_hearBye_5 : decode cX3_hearBye 5 = .ok (.astore_n 2, 1) := by decide +kernel
theorem dX3_hearBye_6 : decode cX3_hearBye 6 = .ok (.aload_n 0, 1) := by decide +kernel
theorem dX3_hearBye_7 : decode cX3_hearBye 7 = .ok (.iload_n 1, 1) := by decide +kernel
theorem dX3_hearBye_8 : decode cX3_hearBye 8 = .ok (.iconst 5, 1) := by decide +kernel
theorem dX3_hearBye_9 : decode cX3_hearBye 9 = .ok (.iconst 0, 1) := by decide +kernel
theorem dX3_hearBye_10 : decode cX3_hearBye 10 = .ok (.iconst 0, 1) := by decide +kernel
theorem dX3_hearBye_11 : decode cX3_hearBye 11 = .ok (.getstatic 211, 3) := by decide +kernel
theorem dX3_hearBye_14 : decode cX3_hearBye 14 = .ok (.invokevirtual 207, 3) := by decide +kernel
theorem dX3_hearBye_17 : decode cX3_hearBye 17 = .ok (.aload_n 2, 1) := by decide +kernel
theorem dX3_hearBye_18 : decode cX3_hearBye 18 = .ok (.invokevirtual 117, 3) := by decide +kernel
theorem dX3_hearBye_21 : decode cX3_hearBye 21 = .ok (.ifCond .eq 8, 3) := by decide +kernel
theorem dX3_hearBye_24 : decode cX3_hearBye 24 = .ok (.aload_n 2, 1) := by decide +kernel
theorem dX3_hearBye_25 : decode cX3_hearBye 25 = .ok (.iconst 0, 1) := by decide +kernel
theorem dX3_hearBye_26 : decode cX3_hearBye 26 = .ok (.putfield 95, 3) := by decide +kernel
theorem dX3_hearBye_29 : decode cX3_hearBye 29 = .ok (.return_, 1) := by decide +kernel
theorem dX3_hearByeBye_0 : decode cX3_hearByeBye 0 = .ok (.aload_n 0, 1) := by decide +kernel
theorem dX3_hearByeBye_1 : decode cX3_hearByeBye 1 = .ok (.getfield 95, 3) := by decide +kernel
theorem dX3_hearByeBye_4 : decode cX3_hearByeBye 4 = .ok (.iconst 5, 1) := by decide +kernel
theorem dX3_hearByeBye_5 : decode cX3_hearByeBye 5 = .ok (.if_icmp .ne 8, 3) := by decide +kernel
theorem dX3_hearByeBye_8 : decode cX3_hearByeBye 8 = .ok (.aload_n 0, 1) := by decide +kernel
theorem dX3_hearByeBye_9 : decode cX3_hearByeBye 9 = .ok (.iconst 0, 1) := by decide +kernel
theorem dX3_hearByeBye_10 : decode cX3_hearByeBye 10 = .ok (.putfield 95, 3) := by decide +kernel
theorem dX3_hearByeBye_13 : decode cX3_hearByeBye 13 = .ok (.return_, 1) := by decide +kernel
set_option maxRecDepth 20000 in
theorem ggX3_hearAnswer_X3_endOf : GoodIn wsX3_hearAnswer wsX3_endOf := goodIn_r _ [9, 10, 11, 64, 65, 66, 67, 68, 69, 70, 71] (by decide +kernel) (by decide +kernel)
set_option maxRecDepth 20000 in
theorem gX3_hearAnswer_X3_endOf : GoodIn wsX3_hearAnswer (wsV RX3 66 RX3 yX3_endOf wsX3_endOf) := goodIn_app (goodIn_of _ (by decide +kernel)) ggX3_hearAnswer_X3_endOf
set_option maxRecDepth 20000 in
theorem ggX3_hearAnswer_X3_hearYes : GoodIn wsX3_hearAnswer wsX3_hearYes := goodIn_r _ [14, 3, 15, 16, 17, 18, 19, 20, 21, 76, 77, 78, 79, 80, 81, 82, 83, 84, 85, 86, 87, 88, 89, 90, 91] (by decide +kernel) (by decide +kernel)
set_option maxRecDepth 20000 in
theorem gX3_hearAnswer_X3_hearYes : GoodIn wsX3_hearAnswer (va_wsS RX3 227 yX3_hearYes wsX3_hearYes) := goodIn_app (goodIn_of _ (by decide +kernel)) ggX3_hearAnswer_X3_hearYes
set_option maxRecDepth 20000 in
theorem ggX3_hearAnswer_X0_takeCounter : GoodIn wsX3_hearAnswer wsX0_takeCounter := goodIn_r _ [25, 26, 27, 28, 76, 77, 78, 79, 80, 81, 82, 83, 84, 85, 86, 87, 88, 89, 90, 91] (by decide +kernel) (by decide +kernel)
set_option maxRecDepth 20000 in
theorem gX3_hearAnswer_X0_takeCounter : GoodIn wsX3_hearAnswer (wsV RX3 233 RX0 yX0_takeCounter wsX0_takeCounter) := goodIn_app (goodIn_of _ (by decide +kernel)) ggX3_hearAnswer_X0_takeCounter
set_option maxRecDepth 20000 in
theorem ggX3_hearAnswer_X0_takeRefusal : GoodIn wsX3_hearAnswer wsX0_takeRefusal := goodIn_r _ [32, 28, 76, 77, 78, 79, 80, 81, 82, 83, 84, 85, 86, 87, 88, 89, 90, 91] (by decide +kernel) (by decide +kernel)
set_option maxRecDepth 20000 in
theorem gX3_hearAnswer_X0_takeRefusal : GoodIn wsX3_hearAnswer (wsV RX3 237 RX0 yX0_takeRefusal wsX0_takeRefusal) := goodIn_app (goodIn_of _ (by decide +kernel)) ggX3_hearAnswer_X0_takeRefusal
set_option maxRecDepth 20000 in
theorem ggX3_hearAnswer_X3_sendRequest : GoodIn wsX3_hearAnswer wsX3_sendRequest := goodIn_r _ [36, 37, 3, 38, 39, 40, 41, 5, 6, 7, 8, 9, 10, 11, 42, 43, 44, 45, 46, 47, 48, 49, 50, 51, 52, 53, 54, 55, 56, 57, 58, 59, 60, 61, 62, 63, 76, 77, 78, 79, 80, 81, 82, 83, 84, 85, 86, 87, 88, 89, 90, 91, 64, 65, 66, 67, 68, 69, 70, 71, 92, 93, 94, 95, 96, 97] (by decide +kernel) (by decide +kernel)
set_option maxRecDepth 20000 in
theorem gX3_hearAnswer_X3_sendRequest : GoodIn wsX3_hearAnswer (wsV RX3 114 RX3 yX3_sendRequest wsX3_sendRequest) := goodIn_app (goodIn_of _ (by decide +kernel)) ggX3_hearAnswer_X3_sendRequest
theorem dX3_hearAnswer_0 : decode cX3_hearAnswer 0 = .ok (.aload_n 0, 1) := by decide +kernel
theorem dX3_hearAnswer_1 : decode cX3_hearAnswer 1 = .ok (.iload_n 1, 1) := by decide +kernel
theorem dX3_hearAnswer_2 : decode cX3_hearAnswer 2 = .ok (.invokevirtual 66, 3) := by decide +kernel
theorem dX3_hearAnswer_5 : decode cX3_hearAnswer 5 = .ok (.astore_n 2, 1) := by decide +kernel
theorem dX3_hearAnswer_6 : decode cX3_hearAnswer 6 = .ok (.aload_n 0, 1) := by decide +kernel
theorem dX3_hearAnswer_7 : decode cX3_hearAnswer 7 = .ok (.getfield 33, 3) := by decide +kernel
theorem dX3_hearAnswer_10 : decode cX3_hearAnswer 10 = .ok (.getfield 149, 3) := by decide +kernel
theorem dX3_hearAnswer_13 : decode cX3_hearAnswer 13 = .ok (.iconst 1, 1) := by decide +kernel
theorem dX3_hearAnswer_14 : decode cX3_hearAnswer 14 = .ok (.if_icmp .ne 10, 3) := by decide +kernel
theorem dX3_hearAnswer_17 : decode cX3_hearAnswer 17 = .ok (.aload_n 2, 1) := by decide +kernel
theorem dX3_hearAnswer_18 : decode cX3_hearAnswer 18 = .ok (.invokestatic 227, 3) := by decide +kernel
theorem dX3_hearAnswer_21 : decode cX3_hearAnswer 21 = .ok (.goto 60, 3) := by decide +kernel
theorem dX3_hearAnswer_24 : decode cX3_hearAnswer 24 = .ok (.aload_n 2, 1) := by decide +kernel
theorem dX3_hearAnswer_25 : decode cX3_hearAnswer 25 = .ok (.getfield 95, 3) := by decide +kernel
theorem dX3_hearAnswer_28 : decode cX3_hearAnswer 28 = .ok (.iconst 1, 1) := by decide +kernel
theorem dX3_hearAnswer_29 : decode cX3_hearAnswer 29 = .ok (.if_icmp .eq 11, 3) := by decide +kernel
theorem dX3_hearAnswer_32 : decode cX3_hearAnswer 32 = .ok (.aload_n 2, 1) := by decide +kernel
theorem dX3_hearAnswer_33 : decode cX3_hearAnswer 33 = .ok (.getfield 95, 3) := by decide +kernel
theorem dX3_hearAnswer_36 : decode cX3_hearAnswer 36 = .ok (.iconst 3, 1) := by decide +kernel
theorem dX3_hearAnswer_37 : decode cX3_hearAnswer 37 = .ok (.if_icmp .ne 44, 3) := by decide +kernel
theorem dX3_hearAnswer_40 : decode cX3_hearAnswer 40 = .ok (.aload_n 0, 1) := by decide +kernel
theorem dX3_hearAnswer_41 : decode cX3_hearAnswer 41 = .ok (.getfield 33, 3) := by decide +kernel
theorem dX3_hearAnswer_44 : decode cX3_hearAnswer 44 = .ok (.getfield 149, 3) := by decide +kernel
theorem dX3_hearAnswer_47 : decode cX3_hearAnswer 47 = .ok (.iconst 2, 1) := by decide +kernel
theorem dX3_hearAnswer_48 : decode cX3_hearAnswer 48 = .ok (.if_icmp .ne 17, 3) := by decide +kernel
theorem dX3_hearAnswer_51 : decode cX3_hearAnswer 51 = .ok (.aload_n 2, 1) := by decide +kernel
theorem dX3_hearAnswer_52 : decode cX3_hearAnswer 52 = .ok (.aload_n 0, 1) := by decide +kernel
theorem dX3_hearAnswer_53 : decode cX3_hearAnswer 53 = .ok (.getfield 33, 3) := by decide +kernel
theorem dX3_hearAnswer_56 : decode cX3_hearAnswer 56 = .ok (.getfield 230, 3) := by decide +kernel
theorem dX3_hearAnswer_59 : decode cX3_hearAnswer 59 = .ok (.invokevirtual 233, 3) := by decide +kernel
theorem dX3_hearAnswer_62 : decode cX3_hearAnswer 62 = .ok (.goto 14, 3) := by decide +kernel
theorem dX3_hearAnswer_65 : decode cX3_hearAnswer 65 = .ok (.aload_n 2, 1) := by decide +kernel
theorem dX3_hearAnswer_66 : decode cX3_hearAnswer 66 = .ok (.aload_n 0, 1) := by decide +kernel
theorem dX3_hearAnswer_67 : decode cX3_hearAnswer 67 = .ok (.getfield 33, 3) := by decide +kernel
theorem dX3_hearAnswer_70 : decode cX3_hearAnswer 70 = .ok (.getfield 230, 3) := by decide +kernel
theorem dX3_hearAnswer_73 : decode cX3_hearAnswer 73 = .ok (.invokevirtual 237, 3) := by decide +kernel
theorem dX3_hearAnswer_76 : decode cX3_hearAnswer 76 = .ok (.aload_n 0, 1) := by decide +kernel
theorem dX3_hearAnswer_77 : decode cX3_hearAnswer 77 = .ok (.iload_n 1, 1) := by decide +kernel
theorem dX3_hearAnswer_78 : decode cX3_hearAnswer 78 = .ok (.invokevirtual 114, 3) := by decide +kernel
theorem dX3_hearAnswer_81 : decode cX3_hearAnswer 81 = .ok (.return_, 1) := by decide +kernel
set_option maxRecDepth 20000 in
theorem ggX3_hearYes_X0_becomeOpened : GoodIn wsX3_hearYes wsX0_becomeOpened := goodIn_r _ [6, 7, 8, 9, 10, 11, 12, 13, 14, 15, 16, 17, 18, 19, 20, 21, 22, 23, 24] (by decide +kernel) (by decide +kernel)
set_option maxRecDepth 20000 in
theorem gX3_hearYes_X0_becomeOpened : GoodIn wsX3_hearYes (wsV RX3 240 RX0 yX0_becomeOpened wsX0_becomeOpened) := goodIn_app (goodIn_of _ (by decide +kernel)) ggX3_hearYes_X0_becomeOpened
theorem dX3_hearYes_0 : decode cX3_hearYes 0 = .ok (.aload_n 0, 1) := by decide +kernel
theorem dX3_hearYes_1 : decode cX3_hearYes 1 = .ok (.getfield 95, 3) := by decide +kernel
theorem dX3_hearYes_4 : decode cX3_hearYes 4 = .ok (.iconst 1, 1) := by decide +kernel
theorem dX3_hearYes_5 : decode cX3_hearYes 5 = .ok (.if_icmp .ne 11, 3) := by decide +kernel
theorem dX3_hearYes_8 : decode cX3_hearYes 8 = .ok (.aload_n 0, 1) := by decide +kernel
theorem dX3_hearYes_9 : decode cX3_hearYes 9 = .ok (.iconst 2, 1) := by decide +kernel
theorem dX3_hearYes_10 : decode cX3_hearYes 10 = .ok (.putfield 95, 3) := by decide +kernel
theorem dX3_hearYes_13 : decode cX3_hearYes 13 = .ok (.goto 15, 3) := by decide +kernel
theorem dX3_hearYes_16 : decode cX3_hearYes 16 = .ok (.aload_n 0, 1) := by decide +kernel
theorem dX3_hearYes_17 : decode cX3_hearYes 17 = .ok (.getfield 95, 3) := by decide +kernel
theorem dX3_hearYes_20 : decode cX3_hearYes 20 = .ok (.iconst 3, 1) := by decide +kernel
theorem dX3_hearYes_21 : decode cX3_hearYes 21 = .ok (.if_icmp .ne 7, 3) := by decide +kernel
theorem dX3_hearYes_24 : decode cX3_hearYes 24 = .ok (.aload_n 0, 1) := by decide +kernel
theorem dX3_hearYes_25 : decode cX3_hearYes 25 = .ok (.invokevirtual 240, 3) := by decide +kernel
theorem dX3_hearYes_28 : decode cX3_hearYes 28 = .ok (.return_, 1) := by decide +kernel
set_option maxRecDepth 20000 in
theorem ggX3_hearRequest_X3_endOf : GoodIn wsX3_hearRequest wsX3_endOf := goodIn_r _ [11, 12, 13, 92, 93, 94, 95, 96, 97, 98, 99] (by decide +kernel) (by decide +kernel)
set_option maxRecDepth 20000 in
theorem gX3_hearRequest_X3_endOf : GoodIn wsX3_hearRequest (wsV RX3 66 RX3 yX3_endOf wsX3_endOf) := goodIn_app (goodIn_of _ (by decide +kernel)) ggX3_hearRequest_X3_endOf
set_option maxRecDepth 20000 in
theorem ggX3_hearRequest_X0_countLoop : GoodIn wsX3_hearRequest wsX0_countLoop := goodIn_r _ [18, 19, 20, 104, 105, 106, 107, 108, 109, 110, 111, 112, 113, 114, 115, 116, 117, 118, 119] (by decide +kernel) (by decide +kernel)
set_option maxRecDepth 20000 in
theorem gX3_hearRequest_X0_countLoop : GoodIn wsX3_hearRequest (wsV RX3 244 RX0 yX0_countLoop wsX0_countLoop) := goodIn_app (goodIn_of _ (by decide +kernel)) ggX3_hearRequest_X0_countLoop
set_option maxRecDepth 20000 in
theorem ggX3_hearRequest_X3_sendRequest : GoodIn wsX3_hearRequest wsX3_sendRequest := goodIn_r _ [24, 6, 5, 25, 26, 3, 27, 7, 8, 9, 10, 11, 12, 13, 28, 29, 30, 31, 32, 33, 34, 35, 36, 37, 38, 39, 40, 41, 42, 43, 44, 45, 46, 47, 48, 49, 104, 105, 106, 107, 108, 109, 110, 111, 112, 113, 114, 115, 116, 117, 118, 119, 92, 93, 94, 95, 96, 97, 98, 99, 120, 121, 122, 123, 124, 125] (by decide +kernel) (by decide +kernel)
set_option maxRecDepth 20000 in
theorem gX3_hearRequest_X3_sendRequest : GoodIn wsX3_hearRequest (wsV RX3 114 RX3 yX3_sendRequest wsX3_sendRequest) := goodIn_app (goodIn_of _ (by decide +kernel)) ggX3_hearRequest_X3_sendRequest
set_option maxRecDepth 20000 in
theorem ggX3_hearRequest_X3_answerRequest : GoodIn wsX3_hearRequest wsX3_answerRequest := goodIn_r _ [53, 1, 54, 55, 56, 57, 7, 8, 9, 10, 11, 12, 13, 58, 59, 60, 17, 61, 62, 63, 64, 65, 66, 67, 68, 69, 70, 71, 72, 73, 74, 75, 76, 77, 78, 79, 80, 81, 82, 28, 29, 30, 31, 32, 33, 34, 35, 36, 37, 38, 39, 40, 41, 42, 43, 44, 45, 46, 47, 48, 49, 92, 93, 94, 95, 96, 97, 98, 99, 100, 101, 102, 103, 104, 105, 106, 107, 108, 109, 110, 111, 112, 113, 114, 115, 116, 117, 118, 119, 120, 121, 122, 123, 124, 125] (by decide +kernel) (by decide +kernel)
set_option maxRecDepth 20000 in
theorem gX3_hearRequest_X3_answerRequest : GoodIn wsX3_hearRequest (wsV RX3 247 RX3 yX3_answerRequest wsX3_answerRequest) := goodIn_app (goodIn_of _ (by decide +kernel)) ggX3_hearRequest_X3_answerRequest
set_option maxRecDepth 20000 in
theorem ggX3_hearRequest_X0_moveOnAfterYes : GoodIn wsX3_hearRequest wsX0_moveOnAfterYes := goodIn_r _ [86, 20, 87, 88, 89, 17, 90, 91, 104, 105, 106, 107, 108, 109, 110, 111, 112, 113, 114, 115, 116, 117, 118, 119] (by decide +kernel) (by decide +kernel)
set_option maxRecDepth 20000 in
theorem gX3_hearRequest_X0_moveOnAfterYes : GoodIn wsX3_hearRequest (wsV RX3 251 RX0 yX0_moveOnAfterYes wsX0_moveOnAfterYes) := goodIn_app (goodIn_of _ (by decide +kernel)) ggX3_hearRequest_X0_moveOnAfterYes
theorem dX3_hearRequest_0 : decode cX3_hearRequest 0 = .ok (.aload_n 0, 1) := by decide +kernel
theorem dX3_hearRequest_1 : decode cX3_hearRequest 1 = .ok (.iload_n 1, 1) := by decide +kernel
theorem dX3_hearRequest_2 : decode cX3_hearRequest 2 = .ok (.invokevirtual 66, 3) := by decide +kernel
theorem dX3_hearRequest_5 : decode cX3_hearRequest 5 = .ok (.astore_n 2, 1) := by decide +kernel
theorem dX3_hearRequest_6 : decode cX3_hearRequest 6 = .ok (.aload_n 0, 1) := by decide +kernel
theorem dX3_hearRequest_7 : decode cX3_hearRequest 7 = .ok (.getfield 33, 3) := by decide +kernel
theorem dX3_hearRequest_10 : decode cX3_hearRequest 10 = .ok (.getfield 243, 3) := by decide +kernel
theorem dX3_hearRequest_13 : decode cX3_hearRequest 13 = .ok (.aload_n 2, 1) := by decide +kernel
theorem dX3_hearRequest_14 : decode cX3_hearRequest 14 = .ok (.getfield 101, 3) := by decide +kernel
theorem dX3_hearRequest_17 : decode cX3_hearRequest 17 = .ok (.if_icmp .ne 8, 3) := by decide +kernel
theorem dX3_hearRequest_20 : decode cX3_hearRequest 20 = .ok (.aload_n 2, 1) := by decide +kernel
theorem dX3_hearRequest_21 : decode cX3_hearRequest 21 = .ok (.invokevirtual 244, 3) := by decide +kernel
theorem dX3_hearRequest_24 : decode cX3_hearRequest 24 = .ok (.return_, 1) := by decide +kernel
theorem dX3_hearRequest_25 : decode cX3_hearRequest 25 = .ok (.aload_n 2, 1) := by decide +kernel
theorem dX3_hearRequest_26 : decode cX3_hearRequest 26 = .ok (.iconst 0, 1) := by decide +kernel
theorem dX3_hearRequest_27 : decode cX3_hearRequest 27 = .ok (.putfield 104, 3) := by decide +kernel
theorem dX3_hearRequest_30 : decode cX3_hearRequest 30 = .ok (.aload_n 2, 1) := by decide +kernel
theorem dX3_hearRequest_31 : decode cX3_hearRequest 31 = .ok (.getfield 95, 3) := by decide +kernel
theorem dX3_hearRequest_34 : decode cX3_hearRequest 34 = .ok (.iconst 4, 1) := by decide +kernel
theorem dX3_hearRequest_35 : decode cX3_hearRequest 35 = .ok (.if_icmp .ne 19, 3) := by decide +kernel
theorem dX3_hearRequest_38 : decode cX3_hearRequest 38 = .ok (.aload_n 2, 1) := by decide +kernel
theorem dX3_hearRequest_39 : decode cX3_hearRequest 39 = .ok (.iconst 1, 1) := by decide +kernel
theorem dX3_hearRequest_40 : decode cX3_hearRequest 40 = .ok (.putfield 95, 3) := by decide +kernel
theorem dX3_hearRequest_43 : decode cX3_hearRequest 43 = .ok (.aload_n 2, 1) := by decide +kernel
theorem dX3_hearRequest_44 : decode cX3_hearRequest 44 = .ok (.bipush 10, 2) := by decide +kernel
theorem dX3_hearRequest_46 : decode cX3_hearRequest 46 = .ok (.putfield 98, 3) := by decide +kernel
theorem dX3_hearRequest_49 : decode cX3_hearRequest 49 = .ok (.aload_n 0, 1) := by decide +kernel
theorem dX3_hearRequest_50 : decode cX3_hearRequest 50 = .ok (.iload_n 1, 1) := by decide +kernel
theorem dX3_hearRequest_51 : decode cX3_hearRequest 51 = .ok (.invokevirtual 114, 3) := by decide +kernel
theorem dX3_hearRequest_54 : decode cX3_hearRequest 54 = .ok (.aload_n 0, 1) := by decide +kernel
theorem dX3_hearRequest_55 : decode cX3_hearRequest 55 = .ok (.iload_n 1, 1) := by decide +kernel
theorem dX3_hearRequest_56 : decode cX3_hearRequest 56 = .ok (.invokevirtual 247, 3) := by decide +kernel
theorem dX3_hearRequest_59 : decode cX3_hearRequest 59 = .ok (.ifCond .eq 10, 3) := by decide +kernel
theorem dX3_hearRequest_62 : decode cX3_hearRequest 62 = .ok (.aload_n 2, 1) := by decide +kernel
theorem dX3_hearRequest_63 : decode cX3_hearRequest 63 = .ok (.invokevirtual 251, 3) := by decide +kernel
theorem dX3_hearRequest_66 : decode cX3_hearRequest 66 = .ok (.goto 16, 3) := by decide +kernel
theorem dX3_hearRequest_69 : decode cX3_hearRequest 69 = .ok (.aload_n 2, 1) := by decide +kernel
theorem dX3_hearRequest_70 : decode cX3_hearRequest 70 = .ok (.getfield 95, 3) := by decide +kernel
theorem dX3_hearRequest_73 : decode cX3_hearRequest 73 = .ok (.iconst 3, 1) := by decide +kernel
theorem dX3_hearRequest_74 : decode cX3_hearRequest 74 = .ok (.if_icmp .ne 8, 3) := by decide +kernel
theorem dX3_hearRequest_77 : decode cX3_hearRequest 77 = .ok (.aload_n 2, 1) := by decide +kernel
theorem dX3_hearRequest_78 : decode cX3_hearRequest 78 = .ok (.iconst 1, 1) := by decide +kernel
theorem dX3_hearRequest_79 : decode cX3_hearRequest 79 = .ok (.putfield 95, 3) := by decide +kernel
theorem dX3_hearRequest_82 : decode cX3_hearRequest 82 = .ok (.return_, 1) := by decide +kernel
set_option maxRecDepth 20000 in
theorem ggX3_answerRequest_X3_endOf : GoodIn wsX3_answerRequest wsX3_endOf := goodIn_r _ [10, 11, 12, 61, 62, 63, 64, 65, 66, 67, 68] (by decide +kernel) (by decide +kernel)
set_option maxRecDepth 20000 in
theorem gX3_answerRequest_X3_endOf : GoodIn wsX3_answerRequest (wsV RX3 66 RX3 yX3_endOf wsX3_endOf) := goodIn_app (goodIn_of _ (by decide +kernel)) ggX3_answerRequest_X3_endOf
set_option maxRecDepth 20000 in
theorem ggX3_answerRequest_X0_judge : GoodIn wsX3_answerRequest wsX0_judge := goodIn_r _ [17, 18, 19, 20, 16, 21, 22, 23, 24, 25, 26, 27, 28, 29, 30, 31, 32, 33, 34, 35, 36, 9, 37, 73, 74, 75, 76, 77, 78, 79, 80, 81, 82, 83, 84, 85, 86, 87, 88] (by decide +kernel) (by decide +kernel)
set_option maxRecDepth 20000 in
theorem gX3_answerRequest_X0_judge : GoodIn wsX3_answerRequest (wsV RX3 254 RX0 yX0_judge wsX0_judge) := goodIn_app (goodIn_of _ (by decide +kernel)) ggX3_answerRequest_X0_judge
set_option maxRecDepth 20000 in
theorem ggX3_answerRequest_X3_copyValues : GoodIn wsX3_answerRequest wsX3_copyValues := goodIn_r _ [37] (by decide +kernel) (by decide +kernel)
set_option maxRecDepth 20000 in
theorem gX3_answerRequest_X3_copyValues : GoodIn wsX3_answerRequest (va_wsS RX3 110 yX3_copyValues wsX3_copyValues) := goodIn_app (goodIn_of _ (by decide +kernel)) ggX3_answerRequest_X3_copyValues
set_option maxRecDepth 20000 in
theorem ggX3_answerRequest_X3_send : GoodIn wsX3_answerRequest wsX3_send := goodIn_r _ [42, 43, 44, 45, 6, 7, 8, 9, 10, 11, 12, 46, 47, 48, 49, 50, 51, 52, 53, 54, 55, 56, 57, 58, 59, 60, 61, 62, 63, 64, 65, 66, 67, 68, 73, 74, 75, 76, 77, 78, 79, 80, 81, 82, 83, 84, 85, 86, 87, 88, 89, 90, 91, 92, 93, 94] (by decide +kernel) (by decide +kernel)
set_option maxRecDepth 20000 in
theorem gX3_answerRequest_X3_send : GoodIn wsX3_answerRequest (wsV RX3 207 RX3 yX3_send wsX3_send) := goodIn_app (goodIn_of _ (by decide +kernel)) ggX3_answerRequest_X3_send
theorem dX3_answerRequest_0 : decode cX3_answerRequest 0 = .ok (.aload_n 0, 1) := by decide +kernel
theorem dX3_answerRequest_1 : decode cX3_answerRequest 1 = .ok (.iload_n 1, 1) := by decide +kernel
theorem dX3_answerRequest_2 : decode cX3_answerRequest 2 = .ok (.invokevirtual 66, 3) := by decide +kernel
theorem dX3_answerRequest_5 : decode cX3_answerRequest 5 = .ok (.astore_n 2, 1) := by decide +kernel
theorem dX3_answerRequest_6 : decode cX3_answerRequest 6 = .ok (.aload_n 2, 1) := by decide +kernel
theorem dX3_answerRequest_7 : decode cX3_answerRequest 7 = .ok (.aload_n 0, 1) := by decide +kernel
theorem dX3_answerRequest_8 : decode cX3_answerRequest 8 = .ok (.getfield 33, 3) := by decide +kernel
theorem dX3_answerRequest_11 : decode cX3_answerRequest 11 = .ok (.getfield 230, 3) := by decide +kernel
theorem dX3_answerRequest_14 : decode cX3_answerRequest 14 = .ok (.aload_n 0, 1) := by decide +kernel
theorem dX3_answerRequest_15 : decode cX3_answerRequest 15 = .ok (.getfield 37, 3) := by decide +kernel
theorem dX3_answerRequest_18 : decode cX3_answerRequest 18 = .ok (.invokevirtual 254, 3) := by decide +kernel
theorem dX3_answerRequest_21 : decode cX3_answerRequest 21 = .ok (.istore_n 3, 1) := by decide +kernel
theorem dX3_answerRequest_22 : decode cX3_answerRequest 22 = .ok (.iload_n 3, 1) := by decide +kernel
theorem dX3_answerRequest_23 : decode cX3_answerRequest 23 = .ok (.iconst 1, 1) := by decide +kernel
theorem dX3_answerRequest_24 : decode cX3_answerRequest 24 = .ok (.if_icmp .ne 7, 3) := by decide +kernel
theorem dX3_answerRequest_27 : decode cX3_answerRequest 27 = .ok (.iconst 1, 1) := by decide +kernel
theorem dX3_answerRequest_28 : decode cX3_answerRequest 28 = .ok (.goto 4, 3) := by decide +kernel
theorem dX3_answerRequest_31 : decode cX3_answerRequest 31 = .ok (.iconst 0, 1) := by decide +kernel
theorem dX3_answerRequest_32 : decode cX3_answerRequest 32 = .ok (.istore 4, 2) := by decide +kernel
theorem dX3_answerRequest_34 : decode cX3_answerRequest 34 = .ok (.iload 4, 2) := by decide +kernel
theorem dX3_answerRequest_36 : decode cX3_answerRequest 36 = .ok (.ifCond .eq 14, 3) := by decide +kernel
theorem dX3_answerRequest_39 : decode cX3_answerRequest 39 = .ok (.aload_n 0, 1) := by decide +kernel
theorem dX3_answerRequest_40 : decode cX3_answerRequest 40 = .ok (.getfield 37, 3) := by decide +kernel
theorem dX3_answerRequest_43 : decode cX3_answerRequest 43 = .ok (.aload_n 2, 1) := by decide +kernel
theorem dX3_answerRequest_44 : decode cX3_answerRequest 44 = .ok (.getfield 162, 3) := by decide +kernel
theorem dX3_answerRequest_47 : decode cX3_answerRequest 47 = .ok (.invokestatic 110, 3) := by decide +kernel
theorem dX3_answerRequest_50 : decode cX3_answerRequest 50 = .ok (.aload_n 0, 1) := by decide +kernel
theorem dX3_answerRequest_51 : decode cX3_answerRequest 51 = .ok (.iload_n 1, 1) := by decide +kernel
theorem dX3_answerRequest_52 : decode cX3_answerRequest 52 = .ok (.iload_n 3, 1) := by decide +kernel
theorem dX3_answerRequest_53 : decode cX3_answerRequest 53 = .ok (.aload_n 0, 1) := by decide +kernel
theorem dX3_answerRequest_54 : decode cX3_answerRequest 54 = .ok (.getfield 33, 3) := by decide +kernel
theorem dX3_answerRequest_57 : decode cX3_answerRequest 57 = .ok (.getfield 223, 3) := by decide +kernel
theorem dX3_answerRequest_60 : decode cX3_answerRequest 60 = .ok (.iconst 0, 1) := by decide +kernel
theorem dX3_answerRequest_61 : decode cX3_answerRequest 61 = .ok (.aload_n 0, 1) := by decide +kernel
theorem dX3_answerRequest_62 : decode cX3_answerRequest 62 = .ok (.getfield 37, 3) := by decide +kernel
theorem dX3_answerRequest_65 : decode cX3_answerRequest 65 = .ok (.invokevirtual 207, 3) := by decide +kernel
theorem dX3_answerRequest_68 : decode cX3_answerRequest 68 = .ok (.iload 4, 2) := by decide +kernel
theorem dX3_answerRequest_70 : decode cX3_answerRequest 70 = .ok (.ireturn, 1) := by decide +kernel
set_option maxRecDepth 20000 in
theorem ggX3_waitOneTickLess_X3_endOf : GoodIn wsX3_waitOneTickLess wsX3_endOf := goodIn_r _ [6, 7, 8, 76, 77, 78, 79, 80, 81, 82, 83] (by decide +kernel) (by decide +kernel)
set_option maxRecDepth 20000 in
theorem gX3_waitOneTickLess_X3_endOf : GoodIn wsX3_waitOneTickLess (wsV RX3 66 RX3 yX3_endOf wsX3_endOf) := goodIn_app (goodIn_of _ (by decide +kernel)) ggX3_waitOneTickLess_X3_endOf
set_option maxRecDepth 20000 in
theorem ggX3_waitOneTickLess_X0_isWaiting : GoodIn wsX3_waitOneTickLess wsX0_isWaiting := goodIn_r _ [13, 14, 15, 16, 17, 12, 18, 60, 61, 62, 63, 64, 65, 66, 67, 68, 69, 70, 71, 72, 73, 74, 75] (by decide +kernel) (by decide +kernel)
set_option maxRecDepth 20000 in
theorem gX3_waitOneTickLess_X0_isWaiting : GoodIn wsX3_waitOneTickLess (wsV RX3 258 RX0 yX0_isWaiting wsX0_isWaiting) := goodIn_app (goodIn_of _ (by decide +kernel)) ggX3_waitOneTickLess_X0_isWaiting
set_option maxRecDepth 20000 in
theorem ggX3_waitOneTickLess_X3_stopWaiting : GoodIn wsX3_waitOneTickLess wsX3_stopWaiting := goodIn_r _ [22, 23, 24, 2, 3, 4, 5, 6, 7, 8, 25, 26, 27, 28, 29, 30, 1, 31, 32, 33, 34, 35, 36, 37, 38, 39, 40, 41, 42, 43, 44, 45, 46, 47, 48, 49, 50, 51, 52, 53, 54, 55, 56, 57, 58, 59, 60, 61, 62, 63, 64, 65, 66, 67, 68, 69, 70, 71, 72, 73, 74, 75, 76, 77, 78, 79, 80, 81, 82, 83, 84, 85, 86, 87, 88, 89] (by decide +kernel) (by decide +kernel)
set_option maxRecDepth 20000 in
theorem gX3_waitOneTickLess_X3_stopWaiting : GoodIn wsX3_waitOneTickLess (wsV RX3 261 RX3 yX3_stopWaiting wsX3_stopWaiting) := goodIn_app (goodIn_of _ (by decide +kernel)) ggX3_waitOneTickLess_X3_stopWaiting
theorem dX3_waitOneTickLess_0 : decode cX3_waitOneTickLess 0 = .ok (.aload_n 0, 1) := by decide +kernel
theorem dX3_waitOneTickLess_1 : decode cX3_waitOneTickLess 1 = .ok (.iload_n 1, 1) := by decide +kernel
theorem dX3_waitOneTickLess_2 : decode cX3_waitOneTickLess 2 = .ok (.invokevirtual 66, 3) := by decide +kernel
theorem dX3_waitOneTickLess_5 : decode cX3_waitOneTickLess 5 = .ok (.astore_n 2, 1) := by decide +kernel
theorem dX3_waitOneTickLess_6 : decode cX3_waitOneTickLess 6 = .ok (.aload_n 2, 1) := by decide +kernel
theorem dX3_waitOneTickLess_7 : decode cX3_waitOneTickLess 7 = .ok (.invokevirtual 258, 3) := by decide +kernel
theorem dX3_waitOneTickLess_10 : decode cX3_waitOneTickLess 10 = .ok (.ifCond .eq 25, 3) := by decide +kernel
theorem dX3_waitOneTickLess_13 : decode cX3_waitOneTickLess 13 = .ok (.aload_n 2, 1) := by decide +kernel
theorem dX3_waitOneTickLess_14 : decode cX3_waitOneTickLess 14 = .ok (.dup, 1) := by decide +kernel
theorem dX3_waitOneTickLess_15 : decode cX3_waitOneTickLess 15 = .ok (.getfield 204, 3) := by decide +kernel
theorem dX3_waitOneTickLess_18 : decode cX3_waitOneTickLess 18 = .ok (.iconst 1, 1) := by decide +kernel
theorem dX3_waitOneTickLess_19 : decode cX3_waitOneTickLess 19 = .ok (.isub, 1) := by decide +kernel
theorem dX3_waitOneTickLess_20 : decode cX3_waitOneTickLess 20 = .ok (.putfield 204, 3) := by decide +kernel
theorem dX3_waitOneTickLess_23 : decode cX3_waitOneTickLess 23 = .ok (.aload_n 2, 1) := by decide +kernel
theorem dX3_waitOneTickLess_24 : decode cX3_waitOneTickLess 24 = .ok (.getfield 204, 3) := by decide +kernel
theorem dX3_waitOneTickLess_27 : decode cX3_waitOneTickLess 27 = .ok (.ifCond .ne 8, 3) := by decide +kernel
theorem dX3_waitOneTickLess_30 : decode cX3_waitOneTickLess 30 = .ok (.aload_n 0, 1) := by decide +kernel
theorem dX3_waitOneTickLess_31 : decode cX3_waitOneTickLess 31 = .ok (.iload_n 1, 1) := by decide +kernel
theorem dX3_waitOneTickLess_32 : decode cX3_waitOneTickLess 32 = .ok (.invokevirtual 261, 3) := by decide +kernel
theorem dX3_waitOneTickLess_35 : decode cX3_waitOneTickLess 35 = .ok (.return_, 1) := by decide +kernel
set_option maxRecDepth 20000 in
theorem ggX3_stopWaiting_X3_endOf : GoodIn wsX3_stopWaiting wsX3_endOf := goodIn_r _ [7, 8, 9, 62, 63, 64, 65, 66, 67, 68, 69] (by decide +kernel) (by decide +kernel)
set_option maxRecDepth 20000 in
theorem gX3_stopWaiting_X3_endOf : GoodIn wsX3_stopWaiting (wsV RX3 66 RX3 yX3_endOf wsX3_endOf) := goodIn_app (goodIn_of _ (by decide +kernel)) ggX3_stopWaiting_X3_endOf
set_option maxRecDepth 20000 in
theorem ggX3_stopWaiting_X3_sendRequest : GoodIn wsX3_stopWaiting wsX3_sendRequest := goodIn_r _ [13, 14, 1, 15, 16, 17, 18, 3, 4, 5, 6, 7, 8, 9, 19, 20, 21, 22, 23, 24, 25, 26, 27, 28, 29, 30, 31, 32, 33, 34, 35, 36, 37, 38, 39, 40, 46, 47, 48, 49, 50, 51, 52, 53, 54, 55, 56, 57, 58, 59, 60, 61, 62, 63, 64, 65, 66, 67, 68, 69, 70, 71, 72, 73, 74, 75] (by decide +kernel) (by decide +kernel)
set_option maxRecDepth 20000 in
theorem gX3_stopWaiting_X3_sendRequest : GoodIn wsX3_stopWaiting (wsV RX3 114 RX3 yX3_sendRequest wsX3_sendRequest) := goodIn_app (goodIn_of _ (by decide +kernel)) ggX3_stopWaiting_X3_sendRequest
set_option maxRecDepth 20000 in
theorem ggX3_stopWaiting_X3_sendBye : GoodIn wsX3_stopWaiting wsX3_sendBye := goodIn_r _ [44, 2, 16, 45, 3, 4, 5, 6, 7, 8, 9, 19, 20, 21, 22, 23, 24, 25, 26, 27, 28, 29, 30, 31, 32, 33, 34, 35, 36, 37, 38, 39, 40, 46, 47, 48, 49, 50, 51, 52, 53, 54, 55, 56, 57, 58, 59, 60, 61, 62, 63, 64, 65, 66, 67, 68, 69, 70, 71, 72, 73, 74, 75] (by decide +kernel) (by decide +kernel)
set_option maxRecDepth 20000 in
theorem gX3_stopWaiting_X3_sendBye : GoodIn wsX3_stopWaiting (wsV RX3 129 RX3 yX3_sendBye wsX3_sendBye) := goodIn_app (goodIn_of _ (by decide +kernel)) ggX3_stopWaiting_X3_sendBye
theorem dX3_stopWaiting_0 : decode cX3_stopWaiting 0 = .ok (.aload_n 0, 1) := by decide +kernel
theorem dX3_stopWaiting_1 : decode cX3_stopWaiting 1 = .ok (.iload_n 1, 1) := by decide +kernel
theorem dX3_stopWaiting_2 : decode cX3_stopWaiting 2 = .ok (.invokevirtual 66, 3) := by decide +kernel
theorem dX3_stopWaiting_5 : decode cX3_stopWaiting 5 = .ok (.astore_n 2, 1) := by decide +kernel
theorem dX3_stopWaiting_6 : decode cX3_stopWaiting 6 = .ok (.aload_n 2, 1) := by decide +kernel
theorem dX3_stopWaiting_7 : decode cX3_stopWaiting 7 = .ok (.getfield 95, 3) := by decide +kernel
theorem dX3_stopWaiting_10 : decode cX3_stopWaiting 10 = .ok (.iconst 5, 1) := by decide +kernel
theorem dX3_stopWaiting_11 : decode cX3_stopWaiting 11 = .ok (.if_icmp .eq 24, 3) := by decide +kernel
theorem dX3_stopWaiting_14 : decode cX3_stopWaiting 14 = .ok (.aload_n 2, 1) := by decide +kernel
theorem dX3_stopWaiting_15 : decode cX3_stopWaiting 15 = .ok (.getfield 95, 3) := by decide +kernel
theorem dX3_stopWaiting_18 : decode cX3_stopWaiting 18 = .ok (.iconst 2, 1) := by decide +kernel
theorem dX3_stopWaiting_19 : decode cX3_stopWaiting 19 = .ok (.if_icmp .ne 8, 3) := by decide +kernel
theorem dX3_stopWaiting_22 : decode cX3_stopWaiting 22 = .ok (.aload_n 2, 1) := by decide +kernel
theorem dX3_stopWaiting_23 : decode cX3_stopWaiting 23 = .ok (.iconst 1, 1) := by decide +kernel
theorem dX3_stopWaiting_24 : decode cX3_stopWaiting 24 = .ok (.putfield 95, 3) := by decide +kernel
theorem dX3_stopWaiting_27 : decode cX3_stopWaiting 27 = .ok (.aload_n 0, 1) := by decide +kernel
theorem dX3_stopWaiting_28 : decode cX3_stopWaiting 28 = .ok (.iload_n 1, 1) := by decide +kernel
theorem dX3_stopWaiting_29 : decode cX3_stopWaiting 29 = .ok (.invokevirtual 114, 3) := by decide +kernel
theorem dX3_stopWaiting_32 : decode cX3_stopWaiting 32 = .ok (.goto 24, 3) := by decide +kernel
theorem dX3_stopWaiting_35 : decode cX3_stopWaiting 35 = .ok (.aload_n 2, 1) := by decide +kernel
theorem dX3_stopWaiting_36 : decode cX3_stopWaiting 36 = .ok (.getfield 126, 3) := by decide +kernel
theorem dX3_stopWaiting_39 : decode cX3_stopWaiting 39 = .ok (.iconst 3, 1) := by decide +kernel
theorem dX3_stopWaiting_40 : decode cX3_stopWaiting 40 = .ok (.if_icmp .ge 11, 3) := by decide +kernel
theorem dX3_stopWaiting_43 : decode cX3_stopWaiting 43 = .ok (.aload_n 0, 1) := by decide +kernel
theorem dX3_stopWaiting_44 : decode cX3_stopWaiting 44 = .ok (.iload_n 1, 1) := by decide +kernel
theorem dX3_stopWaiting_45 : decode cX3_stopWaiting 45 = .ok (.invokevirtual 129, 3) := by decide +kernel
theorem dX3_stopWaiting_48 : decode cX3_stopWaiting 48 = .ok (.goto 8, 3) := by decide +kernel
theorem dX3_stopWaiting_51 : decode cX3_stopWaiting 51 = .ok (.aload_n 2, 1) := by decide +kernel
theorem dX3_stopWaiting_52 : decode cX3_stopWaiting 52 = .ok (.iconst 0, 1) := by decide +kernel
theorem dX3_stopWaiting_53 : decode cX3_stopWaiting 53 = .ok (.putfield 95, 3) := by decide +kernel
theorem dX3_stopWaiting_56 : decode cX3_stopWaiting 56 = .ok (.return_, 1) := by decide +kernel
set_option maxRecDepth 20000 in
theorem ggX3_writeLine_J4_setLength_d00df : GoodIn wsX3_writeLine wsJ4_setLength_d00df := goodIn_r _ [8, 9, 10, 11, 12, 13, 14, 15, 16, 17, 18, 19, 20, 21, 22, 23, 24, 25, 26, 27, 28, 29, 30, 31, 32, 33, 34, 35, 36, 37, 38, 39, 40, 41, 42, 43, 44, 45, 46, 47, 48, 49, 50, 51, 52, 53, 54, 55, 56, 57, 58, 59, 60, 61, 62, 63, 64, 65, 66, 67, 68, 69, 70, 71, 72, 73, 74, 75, 76, 77, 78, 79, 80, 249, 250, 251, 252] (by decide +kernel) (by decide +kernel)
set_option maxRecDepth 20000 in
theorem gX3_writeLine_J4_setLength_d00df : GoodIn wsX3_writeLine (wsV RX3 264 RJ4 yJ4_setLength_d00df wsJ4_setLength_d00df) := goodIn_app (goodIn_of _ (by decide +kernel)) ggX3_writeLine_J4_setLength_d00df
set_option maxRecDepth 20000 in
theorem ggX3_writeLine_X3_nameOf : GoodIn wsX3_writeLine wsX3_nameOf := goodIn_r _ [84] (by decide +kernel) (by decide +kernel)
set_option maxRecDepth 20000 in
theorem gX3_writeLine_X3_nameOf : GoodIn wsX3_writeLine (va_wsS RX3 267 yX3_nameOf wsX3_nameOf) := goodIn_app (goodIn_of _ (by decide +kernel)) ggX3_writeLine_X3_nameOf
set_option maxRecDepth 20000 in
theorem ggX3_writeLine_J4_append_15ec4 : GoodIn wsX3_writeLine wsJ4_append_15ec4 := goodIn_r _ [88, 89, 90, 11, 91, 13, 92, 15, 93, 94, 95, 96, 97, 16, 18, 19, 20, 21, 22, 23, 24, 25, 26, 27, 28, 29, 30, 31, 32, 33, 34, 35, 36, 37, 38, 39, 40, 41, 42, 43, 44, 45, 46, 47, 48, 49, 50, 51, 52, 53, 54, 55, 56, 57, 58, 59, 60, 61, 62, 63, 64, 65, 98, 99, 78, 100, 101, 102, 103, 104, 105, 106, 107, 108, 109, 110, 111, 112, 113, 114, 115, 116, 117, 118, 119, 120, 121, 122, 123, 124, 125, 126, 127, 128, 129, 130, 131, 132, 133, 134, 135, 136, 137, 138, 139, 140, 141, 142, 143, 144, 145, 146, 147, 148, 149, 150, 151, 152, 153, 154, 155, 156, 157, 68, 158, 159, 160, 161, 162, 163, 164, 165, 166, 167, 168, 169, 170, 171, 172, 173, 174, 175, 176, 249, 250, 251, 252] (by decide +kernel) (by decide +kernel)
set_option maxRecDepth 20000 in
theorem gX3_writeLine_J4_append_15ec4 : GoodIn wsX3_writeLine (wsV RX3 271 RJ4 yJ4_append_15ec4 wsJ4_append_15ec4) := goodIn_app (goodIn_of _ (by decide +kernel)) ggX3_writeLine_J4_append_15ec4
set_option maxRecDepth 20000 in
theorem ggX3_writeLine_J4_append_cf468 : GoodIn wsX3_writeLine wsJ4_append_cf468 := goodIn_r _ [180, 181, 182, 11, 183, 13, 184, 15, 16, 18, 19, 20, 21, 22, 23, 24, 25, 26, 27, 28, 29, 30, 31, 32, 33, 34, 35, 36, 37, 38, 39, 40, 41, 42, 43, 44, 45, 46, 47, 48, 49, 50, 51, 52, 53, 54, 55, 56, 57, 58, 59, 60, 61, 62, 63, 64, 65, 185, 186, 68, 187, 144, 145, 146, 147, 148, 149, 150, 78, 151, 152, 153, 154, 155, 156, 157, 158, 159, 160, 161, 162, 163, 164, 105, 106, 107, 165, 166, 110, 167, 112, 168, 169, 115, 170, 117, 118, 119, 101, 120, 121, 188, 189, 190, 191, 192, 193, 194, 195, 196, 197, 198, 199, 249, 250, 251, 252] (by decide +kernel) (by decide +kernel)
set_option maxRecDepth 20000 in
theorem gX3_writeLine_J4_append_cf468 : GoodIn wsX3_writeLine (wsV RX3 275 RJ4 yJ4_append_cf468 wsJ4_append_cf468) := goodIn_app (goodIn_of _ (by decide +kernel)) ggX3_writeLine_J4_append_cf468
set_option maxRecDepth 20000 in
theorem ggX3_writeLine_J4_append_bf812 : GoodIn wsX3_writeLine wsJ4_append_bf812 := goodIn_r _ [203, 204, 205, 11, 206, 13, 207, 15, 16, 208, 209, 210, 211, 18, 19, 20, 21, 22, 23, 24, 25, 26, 27, 28, 29, 30, 31, 32, 33, 34, 35, 36, 37, 38, 39, 40, 41, 42, 43, 44, 45, 46, 47, 48, 49, 50, 51, 52, 53, 54, 55, 56, 57, 58, 59, 60, 61, 62, 63, 64, 65, 212, 213, 214, 215, 216, 217, 218, 78, 219, 101, 102, 103, 104, 105, 106, 107, 108, 109, 110, 111, 112, 113, 114, 115, 116, 220, 221, 222, 223, 224, 117, 118, 119, 120, 121, 249, 250, 251, 252] (by decide +kernel) (by decide +kernel)
set_option maxRecDepth 20000 in
theorem gX3_writeLine_J4_append_bf812 : GoodIn wsX3_writeLine (wsV RX3 278 RJ4 yJ4_append_bf812 wsJ4_append_bf812) := goodIn_app (goodIn_of _ (by decide +kernel)) ggX3_writeLine_J4_append_bf812
theorem dX3_writeLine_0 : decode cX3_writeLine 0 = .ok (.aload_n 0, 1) := by decide +kernel
theorem dX3_writeLine_1 : decode cX3_writeLine 1 = .ok (.getfield 44, 3) := by decide +kernel
theorem dX3_writeLine_4 : decode cX3_writeLine 4 = .ok (.iconst 0, 1) := by decide +kernel
theorem dX3_writeLine_5 : decode cX3_writeLine 5 = .ok (.invokevirtual 264, 3) := by decide +kernel
theorem dX3_writeLine_8 : decode cX3_writeLine 8 = .ok (.aload_n 0, 1) := by decide +kernel
theorem dX3_writeLine_9 : decode cX3_writeLine 9 = .ok (.getfield 44, 3) := by decide +kernel
theorem dX3_writeLine_12 : decode cX3_writeLine 12 = .ok (.aload_n 1, 1) := by decide +kernel
theorem dX3_writeLine_13 : decode cX3_writeLine 13 = .ok (.getfield 95, 3) := by decide +kernel
theorem dX3_writeLine_16 : decode cX3_writeLine 16 = .ok (.invokestatic 267, 3) := by decide +kernel
theorem dX3_writeLine_19 : decode cX3_writeLine 19 = .ok (.invokevirtual 271, 3) := by decide +kernel
theorem dX3_writeLine_22 : decode cX3_writeLine 22 = .ok (.pop, 1) := by decide +kernel
theorem dX3_writeLine_23 : decode cX3_writeLine 23 = .ok (.iconst 0, 1) := by decide +kernel
theorem dX3_writeLine_24 : decode cX3_writeLine 24 = .ok (.istore_n 2, 1) := by decide +kernel
theorem dX3_writeLine_25 : decode cX3_writeLine 25 = .ok (.iload_n 2, 1) := by decide +kernel
theorem dX3_writeLine_26 : decode cX3_writeLine 26 = .ok (.iconst 4, 1) := by decide +kernel
theorem dX3_writeLine_27 : decode cX3_writeLine 27 = .ok (.if_icmp .ge 46, 3) := by decide +kernel
theorem dX3_writeLine_30 : decode cX3_writeLine 30 = .ok (.aload_n 1, 1) := by decide +kernel
theorem dX3_writeLine_31 : decode cX3_writeLine 31 = .ok (.getfield 107, 3) := by decide +kernel
theorem dX3_writeLine_34 : decode cX3_writeLine 34 = .ok (.iload_n 2, 1) := by decide +kernel
theorem dX3_writeLine_35 : decode cX3_writeLine 35 = .ok (.iaload, 1) := by decide +kernel
theorem dX3_writeLine_36 : decode cX3_writeLine 36 = .ok (.iconst (-1), 1) := by decide +kernel
theorem dX3_writeLine_37 : decode cX3_writeLine 37 = .ok (.if_icmp .eq 30, 3) := by decide +kernel
theorem dX3_writeLine_40 : decode cX3_writeLine 40 = .ok (.aload_n 0, 1) := by decide +kernel
theorem dX3_writeLine_41 : decode cX3_writeLine 41 = .ok (.getfield 44, 3) := by decide +kernel
theorem dX3_writeLine_44 : decode cX3_writeLine 44 = .ok (.bipush 32, 2) := by decide +kernel
theorem dX3_writeLine_46 : decode cX3_writeLine 46 = .ok (.invokevirtual 275, 3) := by decide +kernel
theorem dX3_writeLine_49 : decode cX3_writeLine 49 = .ok (.bipush 97, 2) := by decide +kernel
theorem dX3_writeLine_51 : decode cX3_writeLine 51 = .ok (.iload_n 2, 1) := by decide +kernel
theorem dX3_writeLine_52 : decode cX3_writeLine 52 = .ok (.iadd, 1) := by decide +kernel
theorem dX3_writeLine_53 : decode cX3_writeLine 53 = .ok (.i2c, 1) := by decide +kernel
theorem dX3_writeLine_54 : decode cX3_writeLine 54 = .ok (.invokevirtual 275, 3) := by decide +kernel
theorem dX3_writeLine_57 : decode cX3_writeLine 57 = .ok (.aload_n 1, 1) := by decide +kernel
theorem dX3_writeLine_58 : decode cX3_writeLine 58 = .ok (.getfield 107, 3) := by decide +kernel
theorem dX3_writeLine_61 : decode cX3_writeLine 61 = .ok (.iload_n 2, 1) := by decide +kernel
theorem dX3_writeLine_62 : decode cX3_writeLine 62 = .ok (.iaload, 1) := by decide +kernel
theorem dX3_writeLine_63 : decode cX3_writeLine 63 = .ok (.invokevirtual 278, 3) := by decide +kernel
theorem dX3_writeLine_66 : decode cX3_writeLine 66 = .ok (.pop, 1) := by decide +kernel
theorem dX3_writeLine_67 : decode cX3_writeLine 67 = .ok (.iinc 2 1, 3) := by decide +kernel
theorem dX3_writeLine_70 : decode cX3_writeLine 70 = .ok (.goto (-45), 3) := by decide +kernel
theorem dX3_writeLine_73 : decode cX3_writeLine 73 = .ok (.return_, 1) := by decide +kernel
theorem dX3_nameOf_0 : decode cX3_nameOf 0 = .ok (.iload_n 0, 1) := by decide +kernel
theorem dX3_nameOf_1 : decode cX3_nameOf 1 = .ok (.tableswitch 71 1 7 #[43, 47, 51, 55, 59, 63, 67], 43) := by decide +kernel
theorem dX3_nameOf_44 : decode cX3_nameOf 44 = .ok (.ldc_w 281, 3) := by decide +kernel
theorem dX3_nameOf_47 : decode cX3_nameOf 47 = .ok (.areturn, 1) := by decide +kernel
theorem dX3_nameOf_48 : decode cX3_nameOf 48 = .ok (.ldc_w 283, 3) := by decide +kernel
theorem dX3_nameOf_51 : decode cX3_nameOf 51 = .ok (.areturn, 1) := by decide +kernel
theorem dX3_nameOf_52 : decode cX3_nameOf 52 = .ok (.ldc_w 285, 3) := by decide +kernel
theorem dX3_nameOf_55 : decode cX3_nameOf 55 = .ok (.areturn, 1) := by decide +kernel
theorem dX3_nameOf_56 : decode cX3_nameOf 56 = .ok (.ldc_w 287, 3) := by decide +kernel
theorem dX3_nameOf_59 : decode cX3_nameOf 59 = .ok (.areturn, 1) := by decide +kernel
theorem dX3_nameOf_60 : decode cX3_nameOf 60 = .ok (.ldc_w 289, 3) := by decide +kernel
theorem dX3_nameOf_63 : decode cX3_nameOf 63 = .ok (.areturn, 1) := by decide +kernel
theorem dX3_nameOf_64 : decode cX3_nameOf 64 = .ok (.ldc_w 291, 3) := by decide +kernel
theorem dX3_nameOf_67 : decode cX3_nameOf 67 = .ok (.areturn, 1) := by decide +kernel
theorem dX3_nameOf_68 : decode cX3_nameOf 68 = .ok (.ldc_w 293, 3) := by decide +kernel
theorem dX3_nameOf_71 : decode cX3_nameOf 71 = .ok (.areturn, 1) := by decide +kernel
theorem dX3_nameOf_72 : decode cX3_nameOf 72 = .ok (.ldc_w 294, 3) := by decide +kernel
theorem dX3_nameOf_75 : decode cX3_nameOf 75 = .ok (.areturn, 1) := by decide +kernel
theorem dX3_copyValues_0 : decode cX3_copyValues 0 = .ok (.iconst 0, 1) := by decide +kernel
theorem dX3_copyValues_1 : decode cX3_copyValues 1 = .ok (.istore_n 2, 1) := by decide +kernel
theorem dX3_copyValues_2 : decode cX3_copyValues 2 = .ok (.iload_n 2, 1) := by decide +kernel
theorem dX3_copyValues_3 : decode cX3_copyValues 3 = .ok (.iconst 4, 1) := by decide +kernel
theorem dX3_copyValues_4 : decode cX3_copyValues 4 = .ok (.if_icmp .ge 15, 3) := by decide +kernel
theorem dX3_copyValues_7 : decode cX3_copyValues 7 = .ok (.aload_n 1, 1) := by decide +kernel
theorem dX3_copyValues_8 : decode cX3_copyValues 8 = .ok (.iload_n 2, 1) := by decide +kernel
theorem dX3_copyValues_9 : decode cX3_copyValues 9 = .ok (.aload_n 0, 1) := by decide +kernel
theorem dX3_copyValues_10 : decode cX3_copyValues 10 = .ok (.iload_n 2, 1) := by decide +kernel
theorem dX3_copyValues_11 : decode cX3_copyValues 11 = .ok (.iaload, 1) := by decide +kernel
theorem dX3_copyValues_12 : decode cX3_copyValues 12 = .ok (.iastore, 1) := by decide +kernel
theorem dX3_copyValues_13 : decode cX3_copyValues 13 = .ok (.iinc 2 1, 3) := by decide +kernel
theorem dX3_copyValues_16 : decode cX3_copyValues 16 = .ok (.goto (-14), 3) := by decide +kernel
theorem dX3_copyValues_19 : decode cX3_copyValues 19 = .ok (.return_, 1) := by decide +kernel
