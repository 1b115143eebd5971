theorem dX3_init_0 : decode cX3_init 0 = .ok (.aload_n 0, 1) := by decide +kernel
theorem dX3_init_1 : decode cX3_init 1 = .ok (.invokespecial 3, 3) := by decide +kernel
theorem dX3_init_4 : decode cX3_init 4 = .ok (.aload_n 0, 1) := by decide +kernel
theorem dX3_init_5 : decode cX3_init 5 = .ok (.bipush 60, 2) := by decide +kernel
theorem dX3_init_7 : decode cX3_init 7 = .ok (.newarray .int, 2) := by decide +kernel
theorem dX3_init_9 : decode cX3_init 9 = .ok (.putfield 9, 3) := by decide +kernel
theorem dX3_init_12 : decode cX3_init 12 = .ok (.aload_n 0, 1) := by decide +kernel
theorem dX3_init_13 : decode cX3_init 13 = .ok (.iconst 0, 1) := by decide +kernel
theorem dX3_init_14 : decode cX3_init 14 = .ok (.putfield 15, 3) := by decide +kernel
theorem dX3_init_17 : decode cX3_init 17 = .ok (.aload_n 0, 1) := by decide +kernel
theorem dX3_init_18 : decode cX3_init 18 = .ok (.bipush 6, 2) := by decide +kernel
theorem dX3_init_20 : decode cX3_init 20 = .ok (.newarray .int, 2) := by decide +kernel
theorem dX3_init_22 : decode cX3_init 22 = .ok (.putfield 19, 3) := by decide +kernel
theorem dX3_init_25 : decode cX3_init 25 = .ok (.aload_n 0, 1) := by decide +kernel
theorem dX3_init_26 : decode cX3_init 26 = .ok (.bipush 6, 2) := by decide +kernel
theorem dX3_init_28 : decode cX3_init 28 = .ok (.newarray .int, 2) := by decide +kernel
theorem dX3_init_30 : decode cX3_init 30 = .ok (.putfield 22, 3) := by decide +kernel
theorem dX3_init_33 : decode cX3_init 33 = .ok (.aload_n 0, 1) := by decide +kernel
theorem dX3_init_34 : decode cX3_init 34 = .ok (.iconst 0, 1) := by decide +kernel
theorem dX3_init_35 : decode cX3_init 35 = .ok (.putfield 25, 3) := by decide +kernel
theorem dX3_init_38 : decode cX3_init 38 = .ok (.aload_n 0, 1) := by decide +kernel
theorem dX3_init_39 : decode cX3_init 39 = .ok (.iconst 0, 1) := by decide +kernel
theorem dX3_init_40 : decode cX3_init 40 = .ok (.putfield 28, 3) := by decide +kernel
theorem dX3_init_43 : decode cX3_init 43 = .ok (.return_, 1) := by decide +kernel
set_option maxRecDepth 20000 in
theorem ggX4_init_X2_init : GoodIn wsX4_init wsX2_init := goodIn_r _ [23, 24, 2, 3, 25, 26, 27, 28, 29, 30, 31, 32, 33, 34, 35, 36, 37, 38, 39, 40, 41, 42, 43, 75, 76, 77, 78, 79, 80, 81, 82, 83, 84] (by decide +kernel) (by decide +kernel)
set_option maxRecDepth 20000 in
theorem gX4_init_X2_init : GoodIn wsX4_init (wsX2_init) := ggX4_init_X2_init
set_option maxRecDepth 20000 in
theorem ggX4_init_X1_init : GoodIn wsX4_init wsX1_init := goodIn_r _ [46, 47, 2, 3, 48, 49, 50, 51, 5, 6, 52, 22, 23, 24, 25, 26, 27, 28, 29, 30, 31, 32, 33, 34, 35, 36, 37, 38, 39, 40, 41, 42, 43, 90, 91, 92, 75, 76, 77, 78, 79, 80, 81, 82, 83, 84] (by decide +kernel) (by decide +kernel)
set_option maxRecDepth 20000 in
theorem gX4_init_X1_init : GoodIn wsX4_init (wsX1_init) := ggX4_init_X1_init
set_option maxRecDepth 20000 in
theorem ggX4_init_X3_init : GoodIn wsX4_init wsX3_init := goodIn_r _ [54, 55, 2, 3, 25, 56, 57, 58, 59, 60, 61, 93, 94, 95, 96, 97, 98] (by decide +kernel) (by decide +kernel)
set_option maxRecDepth 20000 in
theorem gX4_init_X3_init_n25 : GoodIn wsX4_init (wsX3_init) := ggX4_init_X3_init
set_option maxRecDepth 20000 in
theorem ggX4_init_X0_init : GoodIn wsX4_init wsX0_init := goodIn_r _ [63, 64, 2, 3, 25, 65, 66, 67, 68, 69, 70, 71, 72, 73, 74, 99, 100, 101, 102, 103, 104, 105, 106, 107, 108] (by decide +kernel) (by decide +kernel)
set_option maxRecDepth 20000 in
theorem gX4_init_X0_init_n32 : GoodIn wsX4_init (wsX0_init) := ggX4_init_X0_init
theorem dX4_init_0 : decode cX4_init 0 = .ok (.aload_n 0, 1) := by decide +kernel
theorem dX4_init_1 : decode cX4_init 1 = .ok (.invokespecial 1, 3) := by decide +kernel
theorem dX4_init_4 : decode cX4_init 4 = .ok (.aload_n 0, 1) := by decide +kernel
theorem dX4_init_5 : decode cX4_init 5 = .ok (.new 7, 3) := by decide +kernel
theorem dX4_init_8 : decode cX4_init 8 = .ok (.dup, 1) := by decide +kernel
theorem dX4_init_9 : decode cX4_init 9 = .ok (.invokespecial 9, 3) := by decide +kernel
theorem dX4_init_12 : decode cX4_init 12 = .ok (.putfield 10, 3) := by decide +kernel
theorem dX4_init_15 : decode cX4_init 15 = .ok (.aload_n 0, 1) := by decide +kernel
theorem dX4_init_16 : decode cX4_init 16 = .ok (.new 16, 3) := by decide +kernel
theorem dX4_init_19 : decode cX4_init 19 = .ok (.dup, 1) := by decide +kernel
theorem dX4_init_20 : decode cX4_init 20 = .ok (.invokespecial 18, 3) := by decide +kernel
theorem dX4_init_23 : decode cX4_init 23 = .ok (.putfield 19, 3) := by decide +kernel
theorem dX4_init_26 : decode cX4_init 26 = .ok (.aload_n 0, 1) := by decide +kernel
theorem dX4_init_27 : decode cX4_init 27 = .ok (.new 23, 3) := by decide +kernel
theorem dX4_init_30 : decode cX4_init 30 = .ok (.dup, 1) := by decide +kernel
theorem dX4_init_31 : decode cX4_init 31 = .ok (.invokespecial 25, 3) := by decide +kernel
theorem dX4_init_34 : decode cX4_init 34 = .ok (.putfield 26, 3) := by decide +kernel
theorem dX4_init_37 : decode cX4_init 37 = .ok (.aload_n 0, 1) := by decide +kernel
theorem dX4_init_38 : decode cX4_init 38 = .ok (.new 30, 3) := by decide +kernel
theorem dX4_init_41 : decode cX4_init 41 = .ok (.dup, 1) := by decide +kernel
theorem dX4_init_42 : decode cX4_init 42 = .ok (.invokespecial 32, 3) := by decide +kernel
theorem dX4_init_45 : decode cX4_init 45 = .ok (.putfield 33, 3) := by decide +kernel
theorem dX4_init_48 : decode cX4_init 48 = .ok (.aload_n 0, 1) := by decide +kernel
theorem dX4_init_49 : decode cX4_init 49 = .ok (.new 30, 3) := by decide +kernel
theorem dX4_init_52 : decode cX4_init 52 = .ok (.dup, 1) := by decide +kernel
theorem dX4_init_53 : decode cX4_init 53 = .ok (.invokespecial 32, 3) := by decide +kernel
theorem dX4_init_56 : decode cX4_init 56 = .ok (.putfield 37, 3) := by decide +kernel
theorem dX4_init_59 : decode cX4_init 59 = .ok (.return_, 1) := by decide +kernel
set_option maxRecDepth 20000 in
theorem ggX4_show_X4_requireDigit : GoodIn wsX4_show wsX4_requireDigit := goodIn_ca (goodIn_r _ [7, 8, 9] (by decide +kernel) (by decide +kernel)) (goodIn_sub (fun _ h => List.mem_cons_of_mem _ (List.mem_append_left _ (List.mem_append_right _ h))) (by decide +kernel))
set_option maxRecDepth 20000 in
theorem gX4_show_X4_requireDigit : GoodIn wsX4_show (va_wsS RX4 40 yX4_requireDigit wsX4_requireDigit) := goodIn_app (goodIn_of _ (by decide +kernel)) ggX4_show_X4_requireDigit
set_option maxRecDepth 20000 in
theorem ggX4_show_X4_requireRange : GoodIn wsX4_show wsX4_requireRange := goodIn_ca (goodIn_r _ [12, 13, 14] (by decide +kernel) (by decide +kernel)) (goodIn_sub (fun _ h => List.mem_cons_of_mem _ (List.mem_append_right _ h)) (by decide +kernel))
set_option maxRecDepth 20000 in
theorem gX4_show_X4_requireRange : GoodIn wsX4_show (va_wsS RX4 44 yX4_requireRange wsX4_requireRange) := goodIn_app (goodIn_of _ (by decide +kernel)) ggX4_show_X4_requireRange
set_option maxRecDepth 20000 in
theorem ggX4_show_X1_push : GoodIn wsX4_show wsX1_push := goodIn_r _ [19, 20, 21, 22, 23, 24, 25, 26, 27, 28, 29, 30, 31, 32, 33, 34, 35, 36, 37, 38, 39, 40, 41, 57, 58, 59, 47, 48, 49, 50, 51, 52, 53, 54, 55, 56] (by decide +kernel) (by decide +kernel)
set_option maxRecDepth 20000 in
theorem gX4_show_X1_push : GoodIn wsX4_show (wsV RX4 48 RX1 yX1_push wsX1_push) := goodIn_app (goodIn_of _ (by decide +kernel)) ggX4_show_X1_push
theorem dX4_show_0 : decode cX4_show 0 = .ok (.iload_n 1, 1) := by decide +kernel
theorem dX4_show_1 : decode cX4_show 1 = .ok (.invokestatic 40, 3) := by decide +kernel
theorem dX4_show_4 : decode cX4_show 4 = .ok (.iload_n 2, 1) := by decide +kernel
theorem dX4_show_5 : decode cX4_show 5 = .ok (.iconst 0, 1) := by decide +kernel
theorem dX4_show_6 : decode cX4_show 6 = .ok (.bipush 11, 2) := by decide +kernel
theorem dX4_show_8 : decode cX4_show 8 = .ok (.invokestatic 44, 3) := by decide +kernel
theorem dX4_show_11 : decode cX4_show 11 = .ok (.aload_n 0, 1) := by decide +kernel
theorem dX4_show_12 : decode cX4_show 12 = .ok (.getfield 19, 3) := by decide +kernel
theorem dX4_show_15 : decode cX4_show 15 = .ok (.aload_n 0, 1) := by decide +kernel
theorem dX4_show_16 : decode cX4_show 16 = .ok (.getfield 10, 3) := by decide +kernel
theorem dX4_show_19 : decode cX4_show 19 = .ok (.invokevirtual 48, 3) := by decide +kernel
theorem dX4_show_22 : decode cX4_show 22 = .ok (.aload_n 0, 1) := by decide +kernel
theorem dX4_show_23 : decode cX4_show 23 = .ok (.getfield 10, 3) := by decide +kernel
theorem dX4_show_26 : decode cX4_show 26 = .ok (.getfield 52, 3) := by decide +kernel
theorem dX4_show_29 : decode cX4_show 29 = .ok (.iload_n 1, 1) := by decide +kernel
theorem dX4_show_30 : decode cX4_show 30 = .ok (.iaload, 1) := by decide +kernel
theorem dX4_show_31 : decode cX4_show 31 = .ok (.istore_n 3, 1) := by decide +kernel
theorem dX4_show_32 : decode cX4_show 32 = .ok (.aload_n 0, 1) := by decide +kernel
theorem dX4_show_33 : decode cX4_show 33 = .ok (.getfield 10, 3) := by decide +kernel
theorem dX4_show_36 : decode cX4_show 36 = .ok (.getfield 52, 3) := by decide +kernel
theorem dX4_show_39 : decode cX4_show 39 = .ok (.iload_n 1, 1) := by decide +kernel
theorem dX4_show_40 : decode cX4_show 40 = .ok (.iload_n 2, 1) := by decide +kernel
theorem dX4_show_41 : decode cX4_show 41 = .ok (.iastore, 1) := by decide +kernel
theorem dX4_show_42 : decode cX4_show 42 = .ok (.iload_n 3, 1) := by decide +kernel
theorem dX4_show_43 : decode cX4_show 43 = .ok (.ireturn, 1) := by decide +kernel
set_option maxRecDepth 20000 in
theorem ggX4_level_X4_requireDigit : GoodIn wsX4_level wsX4_requireDigit := goodIn_ca (goodIn_r _ [7, 8, 9] (by decide +kernel) (by decide +kernel)) (goodIn_sub (fun _ h => List.mem_cons_of_mem _ (List.mem_append_left _ (List.mem_append_right _ h))) (by decide +kernel))
set_option maxRecDepth 20000 in
theorem gX4_level_X4_requireDigit : GoodIn wsX4_level (va_wsS RX4 40 yX4_requireDigit wsX4_requireDigit) := goodIn_app (goodIn_of _ (by decide +kernel)) ggX4_level_X4_requireDigit
set_option maxRecDepth 20000 in
theorem ggX4_level_X4_requireRange : GoodIn wsX4_level wsX4_requireRange := goodIn_ca (goodIn_r _ [12, 13, 14] (by decide +kernel) (by decide +kernel)) (goodIn_sub (fun _ h => List.mem_cons_of_mem _ (List.mem_append_right _ h)) (by decide +kernel))
set_option maxRecDepth 20000 in
theorem gX4_level_X4_requireRange : GoodIn wsX4_level (va_wsS RX4 44 yX4_requireRange wsX4_requireRange) := goodIn_app (goodIn_of _ (by decide +kernel)) ggX4_level_X4_requireRange
set_option maxRecDepth 20000 in
theorem ggX4_level_X1_push : GoodIn wsX4_level wsX1_push := goodIn_r _ [19, 20, 21, 22, 23, 24, 25, 26, 27, 28, 29, 30, 31, 32, 33, 34, 35, 36, 37, 38, 39, 40, 41, 65, 66, 67, 55, 56, 57, 58, 59, 60, 61, 62, 63, 64] (by decide +kernel) (by decide +kernel)
set_option maxRecDepth 20000 in
theorem gX4_level_X1_push : GoodIn wsX4_level (wsV RX4 48 RX1 yX1_push wsX1_push) := goodIn_app (goodIn_of _ (by decide +kernel)) ggX4_level_X1_push
set_option maxRecDepth 20000 in
theorem ggX4_level_X2_clearCredits : GoodIn wsX4_level wsX2_clearCredits := goodIn_r _ [45, 35, 46, 47, 48, 49, 55, 56, 57, 58, 59, 60, 61, 62, 63, 64] (by decide +kernel) (by decide +kernel)
set_option maxRecDepth 20000 in
theorem gX4_level_X2_clearCredits : GoodIn wsX4_level (wsV RX4 59 RX2 yX2_clearCredits wsX2_clearCredits) := goodIn_app (goodIn_of _ (by decide +kernel)) ggX4_level_X2_clearCredits
theorem dX4_level_0 : decode cX4_level 0 = .ok (.iload_n 1, 1) := by decide +kernel
theorem dX4_level_1 : decode cX4_level 1 = .ok (.invokestatic 40, 3) := by decide +kernel
theorem dX4_level_4 : decode cX4_level 4 = .ok (.iload_n 2, 1) := by decide +kernel
theorem dX4_level_5 : decode cX4_level 5 = .ok (.iconst 0, 1) := by decide +kernel
theorem dX4_level_6 : decode cX4_level 6 = .ok (.bipush 15, 2) := by decide +kernel
theorem dX4_level_8 : decode cX4_level 8 = .ok (.invokestatic 44, 3) := by decide +kernel
theorem dX4_level_11 : decode cX4_level 11 = .ok (.aload_n 0, 1) := by decide +kernel
theorem dX4_level_12 : decode cX4_level 12 = .ok (.getfield 19, 3) := by decide +kernel
theorem dX4_level_15 : decode cX4_level 15 = .ok (.aload_n 0, 1) := by decide +kernel
theorem dX4_level_16 : decode cX4_level 16 = .ok (.getfield 10, 3) := by decide +kernel
theorem dX4_level_19 : decode cX4_level 19 = .ok (.invokevirtual 48, 3) := by decide +kernel
theorem dX4_level_22 : decode cX4_level 22 = .ok (.aload_n 0, 1) := by decide +kernel
theorem dX4_level_23 : decode cX4_level 23 = .ok (.getfield 10, 3) := by decide +kernel
theorem dX4_level_26 : decode cX4_level 26 = .ok (.getfield 56, 3) := by decide +kernel
theorem dX4_level_29 : decode cX4_level 29 = .ok (.iload_n 1, 1) := by decide +kernel
theorem dX4_level_30 : decode cX4_level 30 = .ok (.iaload, 1) := by decide +kernel
theorem dX4_level_31 : decode cX4_level 31 = .ok (.istore_n 3, 1) := by decide +kernel
theorem dX4_level_32 : decode cX4_level 32 = .ok (.aload_n 0, 1) := by decide +kernel
theorem dX4_level_33 : decode cX4_level 33 = .ok (.getfield 10, 3) := by decide +kernel
theorem dX4_level_36 : decode cX4_level 36 = .ok (.getfield 56, 3) := by decide +kernel
theorem dX4_level_39 : decode cX4_level 39 = .ok (.iload_n 1, 1) := by decide +kernel
theorem dX4_level_40 : decode cX4_level 40 = .ok (.iload_n 2, 1) := by decide +kernel
theorem dX4_level_41 : decode cX4_level 41 = .ok (.iastore, 1) := by decide +kernel
theorem dX4_level_42 : decode cX4_level 42 = .ok (.aload_n 0, 1) := by decide +kernel
theorem dX4_level_43 : decode cX4_level 43 = .ok (.getfield 10, 3) := by decide +kernel
theorem dX4_level_46 : decode cX4_level 46 = .ok (.invokevirtual 59, 3) := by decide +kernel
theorem dX4_level_49 : decode cX4_level 49 = .ok (.iload_n 3, 1) := by decide +kernel
theorem dX4_level_50 : decode cX4_level 50 = .ok (.ireturn, 1) := by decide +kernel
set_option maxRecDepth 20000 in
theorem ggX4_burn_X4_requireDigit : GoodIn wsX4_burn wsX4_requireDigit := goodIn_ca (goodIn_r _ [8, 9, 10] (by decide +kernel) (by decide +kernel)) (goodIn_sub (fun _ h => List.mem_cons_of_mem _ (List.mem_append_right _ h)) (by decide +kernel))
set_option maxRecDepth 20000 in
theorem gX4_burn_X4_requireDigit : GoodIn wsX4_burn (va_wsS RX4 40 yX4_requireDigit wsX4_requireDigit) := goodIn_app (goodIn_of _ (by decide +kernel)) ggX4_burn_X4_requireDigit
set_option maxRecDepth 20000 in
theorem ggX4_burn_X4_requireSegment : GoodIn wsX4_burn wsX4_requireSegment := goodIn_ca (goodIn_r _ [13, 9, 10] (by decide +kernel) (by decide +kernel)) (goodIn_sub (fun _ h => List.mem_cons_of_mem _ (List.mem_append_right _ h)) (by decide +kernel))
set_option maxRecDepth 20000 in
theorem gX4_burn_X4_requireSegment : GoodIn wsX4_burn (va_wsS RX4 62 yX4_requireSegment wsX4_requireSegment) := goodIn_app (goodIn_of _ (by decide +kernel)) ggX4_burn_X4_requireSegment
set_option maxRecDepth 20000 in
theorem ggX4_burn_X1_push : GoodIn wsX4_burn wsX1_push := goodIn_r _ [18, 19, 20, 21, 22, 23, 24, 25, 26, 27, 28, 29, 30, 31, 32, 33, 34, 35, 36, 37, 38, 39, 40, 59, 60, 61, 49, 50, 51, 52, 53, 54, 55, 56, 57, 58] (by decide +kernel) (by decide +kernel)
set_option maxRecDepth 20000 in
theorem gX4_burn_X1_push : GoodIn wsX4_burn (wsV RX4 48 RX1 yX1_push wsX1_push) := goodIn_app (goodIn_of _ (by decide +kernel)) ggX4_burn_X1_push
set_option maxRecDepth 20000 in
theorem ggX4_burn_X4_wearPlace : GoodIn wsX4_burn wsX4_wearPlace := goodIn_r _ [43] (by decide +kernel) (by decide +kernel)
set_option maxRecDepth 20000 in
theorem gX4_burn_X4_wearPlace : GoodIn wsX4_burn (va_wsS RX4 71 yX4_wearPlace wsX4_wearPlace) := goodIn_app (goodIn_of _ (by decide +kernel)) ggX4_burn_X4_wearPlace
theorem dX4_burn_0 : decode cX4_burn 0 = .ok (.iload_n 1, 1) := by decide +kernel
theorem dX4_burn_1 : decode cX4_burn 1 = .ok (.invokestatic 40, 3) := by decide +kernel
theorem dX4_burn_4 : decode cX4_burn 4 = .ok (.iload_n 2, 1) := by decide +kernel
theorem dX4_burn_5 : decode cX4_burn 5 = .ok (.invokestatic 62, 3) := by decide +kernel
theorem dX4_burn_8 : decode cX4_burn 8 = .ok (.aload_n 0, 1) := by decide +kernel
theorem dX4_burn_9 : decode cX4_burn 9 = .ok (.getfield 19, 3) := by decide +kernel
theorem dX4_burn_12 : decode cX4_burn 12 = .ok (.aload_n 0, 1) := by decide +kernel
theorem dX4_burn_13 : decode cX4_burn 13 = .ok (.getfield 10, 3) := by decide +kernel
theorem dX4_burn_16 : decode cX4_burn 16 = .ok (.invokevirtual 48, 3) := by decide +kernel
theorem dX4_burn_19 : decode cX4_burn 19 = .ok (.iconst 1, 1) := by decide +kernel
theorem dX4_burn_20 : decode cX4_burn 20 = .ok (.iload_n 2, 1) := by decide +kernel
theorem dX4_burn_21 : decode cX4_burn 21 = .ok (.ishl, 1) := by decide +kernel
theorem dX4_burn_22 : decode cX4_burn 22 = .ok (.istore 4, 2) := by decide +kernel
theorem dX4_burn_24 : decode cX4_burn 24 = .ok (.aload_n 0, 1) := by decide +kernel
theorem dX4_burn_25 : decode cX4_burn 25 = .ok (.getfield 10, 3) := by decide +kernel
theorem dX4_burn_28 : decode cX4_burn 28 = .ok (.getfield 65, 3) := by decide +kernel
theorem dX4_burn_31 : decode cX4_burn 31 = .ok (.iload_n 1, 1) := by decide +kernel
theorem dX4_burn_32 : decode cX4_burn 32 = .ok (.iaload, 1) := by decide +kernel
theorem dX4_burn_33 : decode cX4_burn 33 = .ok (.iload 4, 2) := by decide +kernel
theorem dX4_burn_35 : decode cX4_burn 35 = .ok (.iand, 1) := by decide +kernel
theorem dX4_burn_36 : decode cX4_burn 36 = .ok (.ifCond .eq 7, 3) := by decide +kernel
theorem dX4_burn_39 : decode cX4_burn 39 = .ok (.iconst 1, 1) := by decide +kernel
theorem dX4_burn_40 : decode cX4_burn 40 = .ok (.goto 4, 3) := by decide +kernel
theorem dX4_burn_43 : decode cX4_burn 43 = .ok (.iconst 0, 1) := by decide +kernel
theorem dX4_burn_44 : decode cX4_burn 44 = .ok (.istore 5, 2) := by decide +kernel
theorem dX4_burn_46 : decode cX4_burn 46 = .ok (.iload_n 3, 1) := by decide +kernel
theorem dX4_burn_47 : decode cX4_burn 47 = .ok (.ifCond .eq 20, 3) := by decide +kernel
theorem dX4_burn_50 : decode cX4_burn 50 = .ok (.aload_n 0, 1) := by decide +kernel
theorem dX4_burn_51 : decode cX4_burn 51 = .ok (.getfield 10, 3) := by decide +kernel
theorem dX4_burn_54 : decode cX4_burn 54 = .ok (.getfield 65, 3) := by decide +kernel
theorem dX4_burn_57 : decode cX4_burn 57 = .ok (.iload_n 1, 1) := by decide +kernel
theorem dX4_burn_58 : decode cX4_burn 58 = .ok (.dup2, 1) := by decide +kernel
theorem dX4_burn_59 : decode cX4_burn 59 = .ok (.iaload, 1) := by decide +kernel
theorem dX4_burn_60 : decode cX4_burn 60 = .ok (.iload 4, 2) := by decide +kernel
theorem dX4_burn_62 : decode cX4_burn 62 = .ok (.ior, 1) := by decide +kernel
theorem dX4_burn_63 : decode cX4_burn 63 = .ok (.iastore, 1) := by decide +kernel
theorem dX4_burn_64 : decode cX4_burn 64 = .ok (.goto 33, 3) := by decide +kernel
theorem dX4_burn_67 : decode cX4_burn 67 = .ok (.aload_n 0, 1) := by decide +kernel
theorem dX4_burn_68 : decode cX4_burn 68 = .ok (.getfield 10, 3) := by decide +kernel
theorem dX4_burn_71 : decode cX4_burn 71 = .ok (.getfield 65, 3) := by decide +kernel
theorem dX4_burn_74 : decode cX4_burn 74 = .ok (.iload_n 1, 1) := by decide +kernel
theorem dX4_burn_75 : decode cX4_burn 75 = .ok (.dup2, 1) := by decide +kernel
theorem dX4_burn_76 : decode cX4_burn 76 = .ok (.iaload, 1) := by decide +kernel
theorem dX4_burn_77 : decode cX4_burn 77 = .ok (.iload 4, 2) := by decide +kernel
theorem dX4_burn_79 : decode cX4_burn 79 = .ok (.iconst (-1), 1) := by decide +kernel
theorem dX4_burn_80 : decode cX4_burn 80 = .ok (.ixor, 1) := by decide +kernel
theorem dX4_burn_81 : decode cX4_burn 81 = .ok (.iand, 1) := by decide +kernel
theorem dX4_burn_82 : decode cX4_burn 82 = .ok (.iastore, 1) := by decide +kernel
theorem dX4_burn_83 : decode cX4_burn 83 = .ok (.aload_n 0, 1) := by decide +kernel
theorem dX4_burn_84 : decode cX4_burn 84 = .ok (.getfield 10, 3) := by decide +kernel
theorem dX4_burn_87 : decode cX4_burn 87 = .ok (.getfield 68, 3) := by decide +kernel
theorem dX4_burn_90 : decode cX4_burn 90 = .ok (.iload_n 1, 1) := by decide +kernel
theorem dX4_burn_91 : decode cX4_burn 91 = .ok (.iload_n 2, 1) := by decide +kernel
theorem dX4_burn_92 : decode cX4_burn 92 = .ok (.invokestatic 71, 3) := by decide +kernel
theorem dX4_burn_95 : decode cX4_burn 95 = .ok (.iconst 0, 1) := by decide +kernel
theorem dX4_burn_96 : decode cX4_burn 96 = .ok (.iastore, 1) := by decide +kernel
theorem dX4_burn_97 : decode cX4_burn 97 = .ok (.iload 5, 2) := by decide +kernel
theorem dX4_burn_99 : decode cX4_burn 99 = .ok (.ireturn, 1) := by decide +kernel
set_option maxRecDepth 20000 in
theorem ggX4_ambient_X4_requireRange : GoodIn wsX4_ambient wsX4_requireRange := goodIn_ca (goodIn_r _ [7, 8, 9] (by decide +kernel) (by decide +kernel)) (goodIn_sub (fun _ h => List.mem_cons_of_mem _ (List.mem_append_right _ h)) (by decide +kernel))
set_option maxRecDepth 20000 in
theorem gX4_ambient_X4_requireRange : GoodIn wsX4_ambient (va_wsS RX4 44 yX4_requireRange wsX4_requireRange) := goodIn_app (goodIn_of _ (by decide +kernel)) ggX4_ambient_X4_requireRange
set_option maxRecDepth 20000 in
theorem ggX4_ambient_X1_push : GoodIn wsX4_ambient wsX1_push := goodIn_r _ [14, 15, 16, 17, 18, 19, 20, 21, 22, 23, 24, 25, 26, 27, 28, 29, 30, 31, 32, 33, 34, 35, 36, 52, 53, 54, 42, 43, 44, 45, 46, 47, 48, 49, 50, 51] (by decide +kernel) (by decide +kernel)
set_option maxRecDepth 20000 in
theorem gX4_ambient_X1_push : GoodIn wsX4_ambient (wsV RX4 48 RX1 yX1_push wsX1_push) := goodIn_app (goodIn_of _ (by decide +kernel)) ggX4_ambient_X1_push
theorem dX4_ambient_0 : decode cX4_ambient 0 = .ok (.iload_n 1, 1) := by decide +kernel
theorem dX4_ambient_1 : decode cX4_ambient 1 = .ok (.iconst 0, 1) := by decide +kernel
theorem dX4_ambient_2 : decode cX4_ambient 2 = .ok (.bipush 20, 2) := by decide +kernel
theorem dX4_ambient_4 : decode cX4_ambient 4 = .ok (.invokestatic 44, 3) := by decide +kernel
theorem dX4_ambient_7 : decode cX4_ambient 7 = .ok (.aload_n 0, 1) := by decide +kernel
theorem dX4_ambient_8 : decode cX4_ambient 8 = .ok (.getfield 19, 3) := by decide +kernel
theorem dX4_ambient_11 : decode cX4_ambient 11 = .ok (.aload_n 0, 1) := by decide +kernel
theorem dX4_ambient_12 : decode cX4_ambient 12 = .ok (.getfield 10, 3) := by decide +kernel
theorem dX4_ambient_15 : decode cX4_ambient 15 = .ok (.invokevirtual 48, 3) := by decide +kernel
theorem dX4_ambient_18 : decode cX4_ambient 18 = .ok (.aload_n 0, 1) := by decide +kernel
theorem dX4_ambient_19 : decode cX4_ambient 19 = .ok (.getfield 10, 3) := by decide +kernel
theorem dX4_ambient_22 : decode cX4_ambient 22 = .ok (.getfield 75, 3) := by decide +kernel
theorem dX4_ambient_25 : decode cX4_ambient 25 = .ok (.istore_n 2, 1) := by decide +kernel
theorem dX4_ambient_26 : decode cX4_ambient 26 = .ok (.aload_n 0, 1) := by decide +kernel
theorem dX4_ambient_27 : decode cX4_ambient 27 = .ok (.getfield 10, 3) := by decide +kernel
theorem dX4_ambient_30 : decode cX4_ambient 30 = .ok (.iload_n 1, 1) := by decide +kernel
theorem dX4_ambient_31 : decode cX4_ambient 31 = .ok (.putfield 75, 3) := by decide +kernel
theorem dX4_ambient_34 : decode cX4_ambient 34 = .ok (.iload_n 2, 1) := by decide +kernel
theorem dX4_ambient_35 : decode cX4_ambient 35 = .ok (.ireturn, 1) := by decide +kernel
set_option maxRecDepth 20000 in
theorem ggX4_set_X4_requireSetting : GoodIn wsX4_set wsX4_requireSetting := goodIn_ca (goodIn_r _ [9, 10, 11] (by decide +kernel) (by decide +kernel)) (goodIn_sub (fun _ h => List.mem_cons_of_mem _ (List.mem_append_left _ (List.mem_append_right _ h))) (by decide +kernel))
set_option maxRecDepth 20000 in
theorem gX4_set_X4_requireSetting : GoodIn wsX4_set (va_wsS RX4 79 yX4_requireSetting wsX4_requireSetting) := goodIn_app (goodIn_of _ (by decide +kernel)) ggX4_set_X4_requireSetting
set_option maxRecDepth 20000 in
theorem ggX4_set_X4_requireRange : GoodIn wsX4_set wsX4_requireRange := goodIn_ca (goodIn_r _ [14, 15, 16] (by decide +kernel) (by decide +kernel)) (goodIn_sub (fun _ h => List.mem_cons_of_mem _ (List.mem_append_right _ h)) (by decide +kernel))
set_option maxRecDepth 20000 in
theorem gX4_set_X4_requireRange : GoodIn wsX4_set (va_wsS RX4 44 yX4_requireRange wsX4_requireRange) := goodIn_app (goodIn_of _ (by decide +kernel)) ggX4_set_X4_requireRange
set_option maxRecDepth 20000 in
theorem ggX4_set_X1_push : GoodIn wsX4_set wsX1_push := goodIn_r _ [21, 22, 23, 24, 25, 26, 27, 28, 29, 30, 31, 32, 33, 34, 35, 36, 37, 38, 39, 40, 41, 42, 43, 59, 60, 61, 49, 50, 51, 52, 53, 54, 55, 56, 57, 58] (by decide +kernel) (by decide +kernel)
set_option maxRecDepth 20000 in
theorem gX4_set_X1_push : GoodIn wsX4_set (wsV RX4 48 RX1 yX1_push wsX1_push) := goodIn_app (goodIn_of _ (by decide +kernel)) ggX4_set_X1_push
theorem dX4_set_0 : decode cX4_set 0 = .ok (.iload_n 1, 1) := by decide +kernel
theorem dX4_set_1 : decode cX4_set 1 = .ok (.invokestatic 79, 3) := by decide +kernel
theorem dX4_set_4 : decode cX4_set 4 = .ok (.iload_n 2, 1) := by decide +kernel
theorem dX4_set_5 : decode cX4_set 5 = .ok (.getstatic 82, 3) := by decide +kernel
theorem dX4_set_8 : decode cX4_set 8 = .ok (.iload_n 1, 1) := by decide +kernel
theorem dX4_set_9 : decode cX4_set 9 = .ok (.iaload, 1) := by decide +kernel
theorem dX4_set_10 : decode cX4_set 10 = .ok (.getstatic 85, 3) := by decide +kernel
theorem dX4_set_13 : decode cX4_set 13 = .ok (.iload_n 1, 1) := by decide +kernel
theorem dX4_set_14 : decode cX4_set 14 = .ok (.iaload, 1) := by decide +kernel
theorem dX4_set_15 : decode cX4_set 15 = .ok (.invokestatic 44, 3) := by decide +kernel
theorem dX4_set_18 : decode cX4_set 18 = .ok (.aload_n 0, 1) := by decide +kernel
theorem dX4_set_19 : decode cX4_set 19 = .ok (.getfield 19, 3) := by decide +kernel
theorem dX4_set_22 : decode cX4_set 22 = .ok (.aload_n 0, 1) := by decide +kernel
theorem dX4_set_23 : decode cX4_set 23 = .ok (.getfield 10, 3) := by decide +kernel
theorem dX4_set_26 : decode cX4_set 26 = .ok (.invokevirtual 48, 3) := by decide +kernel
theorem dX4_set_29 : decode cX4_set 29 = .ok (.aload_n 0, 1) := by decide +kernel
theorem dX4_set_30 : decode cX4_set 30 = .ok (.getfield 10, 3) := by decide +kernel
theorem dX4_set_33 : decode cX4_set 33 = .ok (.getfield 88, 3) := by decide +kernel
theorem dX4_set_36 : decode cX4_set 36 = .ok (.iload_n 1, 1) := by decide +kernel
theorem dX4_set_37 : decode cX4_set 37 = .ok (.iaload, 1) := by decide +kernel
theorem dX4_set_38 : decode cX4_set 38 = .ok (.istore_n 3, 1) := by decide +kernel
theorem dX4_set_39 : decode cX4_set 39 = .ok (.aload_n 0, 1) := by decide +kernel
theorem dX4_set_40 : decode cX4_set 40 = .ok (.getfield 10, 3) := by decide +kernel
theorem dX4_set_43 : decode cX4_set 43 = .ok (.getfield 88, 3) := by decide +kernel
theorem dX4_set_46 : decode cX4_set 46 = .ok (.iload_n 1, 1) := by decide +kernel
theorem dX4_set_47 : decode cX4_set 47 = .ok (.iload_n 2, 1) := by decide +kernel
theorem dX4_set_48 : decode cX4_set 48 = .ok (.iastore, 1) := by decide +kernel
theorem dX4_set_49 : decode cX4_set 49 = .ok (.iload_n 3, 1) := by decide +kernel
theorem dX4_set_50 : decode cX4_set 50 = .ok (.ireturn, 1) := by decide +kernel
set_option maxRecDepth 20000 in
theorem ggX4_number_X4_requireDigit : GoodIn wsX4_number wsX4_requireDigit := goodIn_ca (goodIn_r _ [6, 7, 8] (by decide +kernel) (by decide +kernel)) (goodIn_sub (fun _ h => List.mem_cons_of_mem _ (List.mem_append_left _ (List.mem_append_right _ h))) (by decide +kernel))
set_option maxRecDepth 20000 in
theorem gX4_number_X4_requireDigit : GoodIn wsX4_number (va_wsS RX4 40 yX4_requireDigit wsX4_requireDigit) := goodIn_app (goodIn_of _ (by decide +kernel)) ggX4_number_X4_requireDigit
set_option maxRecDepth 20000 in
theorem ggX4_number_X4_numberLength : GoodIn wsX4_number wsX4_numberLength := goodIn_r _ [11, 12, 13, 14, 5, 15] (by decide +kernel) (by decide +kernel)
set_option maxRecDepth 20000 in
theorem gX4_number_X4_numberLength : GoodIn wsX4_number (va_wsS RX4 91 yX4_numberLength wsX4_numberLength) := goodIn_app (goodIn_of _ (by decide +kernel)) ggX4_number_X4_numberLength
set_option maxRecDepth 20000 in
theorem ggX4_number_X4_requireRange : GoodIn wsX4_number wsX4_requireRange := goodIn_ca (goodIn_r _ [18, 19, 20] (by decide +kernel) (by decide +kernel)) (goodIn_sub (fun _ h => List.mem_cons_of_mem _ (List.mem_append_right _ h)) (by decide +kernel))
set_option maxRecDepth 20000 in
theorem gX4_number_X4_requireRange : GoodIn wsX4_number (va_wsS RX4 44 yX4_requireRange wsX4_requireRange) := goodIn_app (goodIn_of _ (by decide +kernel)) ggX4_number_X4_requireRange
set_option maxRecDepth 20000 in
theorem ggX4_number_X1_push : GoodIn wsX4_number wsX1_push := goodIn_r _ [25, 26, 27, 28, 29, 30, 31, 32, 33, 34, 35, 36, 37, 38, 39, 40, 41, 42, 43, 44, 45, 46, 47, 58, 59, 60, 61, 62, 63, 64, 65, 66, 67, 68, 69, 70] (by decide +kernel) (by decide +kernel)
set_option maxRecDepth 20000 in
theorem gX4_number_X1_push : GoodIn wsX4_number (wsV RX4 48 RX1 yX1_push wsX1_push) := goodIn_app (goodIn_of _ (by decide +kernel)) ggX4_number_X1_push
set_option maxRecDepth 20000 in
theorem ggX4_number_X2_putNumber : GoodIn wsX4_number wsX2_putNumber := goodIn_r _ [51, 34, 52, 14, 5, 15, 61, 62, 63, 64, 65, 66, 67, 68, 69, 70] (by decide +kernel) (by decide +kernel)
set_option maxRecDepth 20000 in
theorem gX4_number_X2_putNumber : GoodIn wsX4_number (wsV RX4 95 RX2 yX2_putNumber wsX2_putNumber) := goodIn_app (goodIn_of _ (by decide +kernel)) ggX4_number_X2_putNumber
theorem dX4_number_0 : decode cX4_number 0 = .ok (.iload_n 1, 1) := by decide +kernel
theorem dX4_number_1 : decode cX4_number 1 = .ok (.invokestatic 40, 3) := by decide +kernel
theorem dX4_number_4 : decode cX4_number 4 = .ok (.iload_n 2, 1) := by decide +kernel
theorem dX4_number_5 : decode cX4_number 5 = .ok (.invokestatic 40, 3) := by decide +kernel
theorem dX4_number_8 : decode cX4_number 8 = .ok (.iload_n 3, 1) := by decide +kernel
theorem dX4_number_9 : decode cX4_number 9 = .ok (.invokestatic 91, 3) := by decide +kernel
theorem dX4_number_12 : decode cX4_number 12 = .ok (.istore 4, 2) := by decide +kernel
theorem dX4_number_14 : decode cX4_number 14 = .ok (.iload 4, 2) := by decide +kernel
theorem dX4_number_16 : decode cX4_number 16 = .ok (.iconst 1, 1) := by decide +kernel
theorem dX4_number_17 : decode cX4_number 17 = .ok (.iload_n 2, 1) := by decide +kernel
theorem dX4_number_18 : decode cX4_number 18 = .ok (.iload_n 1, 1) := by decide +kernel
theorem dX4_number_19 : decode cX4_number 19 = .ok (.isub, 1) := by decide +kernel
theorem dX4_number_20 : decode cX4_number 20 = .ok (.iconst 1, 1) := by decide +kernel
theorem dX4_number_21 : decode cX4_number 21 = .ok (.iadd, 1) := by decide +kernel
theorem dX4_number_22 : decode cX4_number 22 = .ok (.invokestatic 44, 3) := by decide +kernel
theorem dX4_number_25 : decode cX4_number 25 = .ok (.aload_n 0, 1) := by decide +kernel
theorem dX4_number_26 : decode cX4_number 26 = .ok (.getfield 19, 3) := by decide +kernel
theorem dX4_number_29 : decode cX4_number 29 = .ok (.aload_n 0, 1) := by decide +kernel
theorem dX4_number_30 : decode cX4_number 30 = .ok (.getfield 10, 3) := by decide +kernel
theorem dX4_number_33 : decode cX4_number 33 = .ok (.invokevirtual 48, 3) := by decide +kernel
theorem dX4_number_36 : decode cX4_number 36 = .ok (.aload_n 0, 1) := by decide +kernel
theorem dX4_number_37 : decode cX4_number 37 = .ok (.getfield 10, 3) := by decide +kernel
theorem dX4_number_40 : decode cX4_number 40 = .ok (.iload_n 1, 1) := by decide +kernel
theorem dX4_number_41 : decode cX4_number 41 = .ok (.iload_n 2, 1) := by decide +kernel
theorem dX4_number_42 : decode cX4_number 42 = .ok (.iload_n 3, 1) := by decide +kernel
theorem dX4_number_43 : decode cX4_number 43 = .ok (.iload 4, 2) := by decide +kernel
theorem dX4_number_45 : decode cX4_number 45 = .ok (.invokevirtual 95, 3) := by decide +kernel
theorem dX4_number_48 : decode cX4_number 48 = .ok (.iload 4, 2) := by decide +kernel
theorem dX4_number_50 : decode cX4_number 50 = .ok (.ireturn, 1) := by decide +kernel
set_option maxRecDepth 20000 in
theorem ggX4_run_X4_requireRange : GoodIn wsX4_run wsX4_requireRange := goodIn_ca (goodIn_r _ [10, 11, 12] (by decide +kernel) (by decide +kernel)) (goodIn_sub (fun _ h => List.mem_cons_of_mem _ (List.mem_append_right _ h)) (by decide +kernel))
set_option maxRecDepth 20000 in
theorem gX4_run_X4_requireRange : GoodIn wsX4_run (va_wsS RX4 44 yX4_requireRange wsX4_requireRange) := goodIn_app (goodIn_of _ (by decide +kernel)) ggX4_run_X4_requireRange
set_option maxRecDepth 20000 in
theorem ggX4_run_X1_push : GoodIn wsX4_run wsX1_push := goodIn_r _ [17, 18, 19, 20, 21, 22, 23, 24, 25, 26, 27, 28, 29, 30, 31, 32, 33, 34, 35, 36, 37, 38, 39, 73, 74, 75, 63, 64, 65, 66, 67, 68, 69, 70, 71, 72] (by decide +kernel) (by decide +kernel)
set_option maxRecDepth 20000 in
theorem gX4_run_X1_push : GoodIn wsX4_run (wsV RX4 48 RX1 yX1_push wsX1_push) := goodIn_app (goodIn_of _ (by decide +kernel)) ggX4_run_X1_push
set_option maxRecDepth 20000 in
theorem ggX4_run_X2_passSlot : GoodIn wsX4_run wsX2_passSlot := goodIn_r _ [43, 31, 33, 39, 36, 38, 34, 44, 9, 45, 46, 47, 48, 49, 50, 24, 51, 35, 32, 52, 53, 54, 55, 26, 56, 57, 63, 64, 65, 66, 67, 68, 69, 70, 71, 72] (by decide +kernel) (by decide +kernel)
set_option maxRecDepth 20000 in
theorem gX4_run_X2_passSlot : GoodIn wsX4_run (wsV RX4 110 RX2 yX2_passSlot wsX2_passSlot) := goodIn_app (goodIn_of _ (by decide +kernel)) ggX4_run_X2_passSlot
theorem dX4_run_0 : decode cX4_run 0 = .ok (.iload_n 1, 1) := by decide +kernel
theorem dX4_run_1 : decode cX4_run 1 = .ok (.iconst 1, 1) := by decide +kernel
theorem dX4_run_2 : decode cX4_run 2 = .ok (.sipush 500, 3) := by decide +kernel
theorem dX4_run_5 : decode cX4_run 5 = .ok (.invokestatic 44, 3) := by decide +kernel
theorem dX4_run_8 : decode cX4_run 8 = .ok (.aload_n 0, 1) := by decide +kernel
theorem dX4_run_9 : decode cX4_run 9 = .ok (.getfield 10, 3) := by decide +kernel
theorem dX4_run_12 : decode cX4_run 12 = .ok (.getfield 99, 3) := by decide +kernel
theorem dX4_run_15 : decode cX4_run 15 = .ok (.iload_n 1, 1) := by decide +kernel
theorem dX4_run_16 : decode cX4_run 16 = .ok (.iadd, 1) := by decide +kernel
theorem dX4_run_17 : decode cX4_run 17 = .ok (.ldc 102, 2) := by decide +kernel
theorem dX4_run_19 : decode cX4_run 19 = .ok (.if_icmp .le 13, 3) := by decide +kernel
theorem dX4_run_22 : decode cX4_run 22 = .ok (.new 103, 3) := by decide +kernel
theorem dX4_run_25 : decode cX4_run 25 = .ok (.dup, 1) := by decide +kernel
theorem dX4_run_26 : decode cX4_run 26 = .ok (.ldc 105, 2) := by decide +kernel
theorem dX4_run_28 : decode cX4_run 28 = .ok (.invokespecial 107, 3) := by decide +kernel
theorem dX4_run_31 : decode cX4_run 31 = .ok (.athrow, 1) := by decide +kernel
theorem dX4_run_32 : decode cX4_run 32 = .ok (.aload_n 0, 1) := by decide +kernel
theorem dX4_run_33 : decode cX4_run 33 = .ok (.getfield 19, 3) := by decide +kernel
theorem dX4_run_36 : decode cX4_run 36 = .ok (.aload_n 0, 1) := by decide +kernel
theorem dX4_run_37 : decode cX4_run 37 = .ok (.getfield 10, 3) := by decide +kernel
theorem dX4_run_40 : decode cX4_run 40 = .ok (.invokevirtual 48, 3) := by decide +kernel
theorem dX4_run_43 : decode cX4_run 43 = .ok (.iconst 0, 1) := by decide +kernel
theorem dX4_run_44 : decode cX4_run 44 = .ok (.istore_n 2, 1) := by decide +kernel
theorem dX4_run_45 : decode cX4_run 45 = .ok (.iconst 0, 1) := by decide +kernel
theorem dX4_run_46 : decode cX4_run 46 = .ok (.istore_n 3, 1) := by decide +kernel
theorem dX4_run_47 : decode cX4_run 47 = .ok (.iload_n 3, 1) := by decide +kernel
theorem dX4_run_48 : decode cX4_run 48 = .ok (.iload_n 1, 1) := by decide +kernel
theorem dX4_run_49 : decode cX4_run 49 = .ok (.if_icmp .ge 19, 3) := by decide +kernel
theorem dX4_run_52 : decode cX4_run 52 = .ok (.iload_n 2, 1) := by decide +kernel
theorem dX4_run_53 : decode cX4_run 53 = .ok (.aload_n 0, 1) := by decide +kernel
theorem dX4_run_54 : decode cX4_run 54 = .ok (.getfield 10, 3) := by decide +kernel
theorem dX4_run_57 : decode cX4_run 57 = .ok (.invokevirtual 110, 3) := by decide +kernel
theorem dX4_run_60 : decode cX4_run 60 = .ok (.iadd, 1) := by decide +kernel
theorem dX4_run_61 : decode cX4_run 61 = .ok (.istore_n 2, 1) := by decide +kernel
theorem dX4_run_62 : decode cX4_run 62 = .ok (.iinc 3 1, 3) := by decide +kernel
theorem dX4_run_65 : decode cX4_run 65 = .ok (.goto (-18), 3) := by decide +kernel
theorem dX4_run_68 : decode cX4_run 68 = .ok (.iload_n 2, 1) := by decide +kernel
theorem dX4_run_69 : decode cX4_run 69 = .ok (.ireturn, 1) := by decide +kernel
set_option maxRecDepth 20000 in
theorem ggX4_undo_X1_pop : GoodIn wsX4_undo wsX1_pop := goodIn_r _ [10, 11, 12, 13, 14, 15, 16, 17, 18, 19, 20, 21, 22, 23, 24, 25, 26, 27, 28, 29, 30, 31, 32, 38, 39, 40, 41, 42, 43, 44, 45, 46, 47, 48, 49, 50] (by decide +kernel) (by decide +kernel)
set_option maxRecDepth 20000 in
theorem gX4_undo_X1_pop : GoodIn wsX4_undo (wsV RX4 145 RX1 yX1_pop wsX1_pop) := goodIn_app (goodIn_of _ (by decide +kernel)) ggX4_undo_X1_pop
theorem dX4_undo_0 : decode cX4_undo 0 = .ok (.aload_n 0, 1) := by decide +kernel
theorem dX4_undo_1 : decode cX4_undo 1 = .ok (.getfield 19, 3) := by decide +kernel
theorem dX4_undo_4 : decode cX4_undo 4 = .ok (.getfield 140, 3) := by decide +kernel
theorem dX4_undo_7 : decode cX4_undo 7 = .ok (.ifCond .ne 13, 3) := by decide +kernel
theorem dX4_undo_10 : decode cX4_undo 10 = .ok (.new 103, 3) := by decide +kernel
theorem dX4_undo_13 : decode cX4_undo 13 = .ok (.dup, 1) := by decide +kernel
theorem dX4_undo_14 : decode cX4_undo 14 = .ok (.ldc 143, 2) := by decide +kernel
theorem dX4_undo_16 : decode cX4_undo 16 = .ok (.invokespecial 107, 3) := by decide +kernel
theorem dX4_undo_19 : decode cX4_undo 19 = .ok (.athrow, 1) := by decide +kernel
theorem dX4_undo_20 : decode cX4_undo 20 = .ok (.aload_n 0, 1) := by decide +kernel
theorem dX4_undo_21 : decode cX4_undo 21 = .ok (.getfield 19, 3) := by decide +kernel
theorem dX4_undo_24 : decode cX4_undo 24 = .ok (.aload_n 0, 1) := by decide +kernel
theorem dX4_undo_25 : decode cX4_undo 25 = .ok (.getfield 10, 3) := by decide +kernel
theorem dX4_undo_28 : decode cX4_undo 28 = .ok (.invokevirtual 145, 3) := by decide +kernel
theorem dX4_undo_31 : decode cX4_undo 31 = .ok (.aload_n 0, 1) := by decide +kernel
theorem dX4_undo_32 : decode cX4_undo 32 = .ok (.getfield 19, 3) := by decide +kernel
theorem dX4_undo_35 : decode cX4_undo 35 = .ok (.getfield 140, 3) := by decide +kernel
theorem dX4_undo_38 : decode cX4_undo 38 = .ok (.ireturn, 1) := by decide +kernel
set_option maxRecDepth 20000 in
theorem ggX4_digit_X4_requireDigit : GoodIn wsX4_digit wsX4_requireDigit := goodIn_ca (goodIn_r _ [6, 7, 8] (by decide +kernel) (by decide +kernel)) (goodIn_sub (fun _ h => List.mem_cons_of_mem _ (List.mem_append_left _ (List.mem_append_right _ h))) (by decide +kernel))
set_option maxRecDepth 20000 in
theorem gX4_digit_X4_requireDigit : GoodIn wsX4_digit (va_wsS RX4 40 yX4_requireDigit wsX4_requireDigit) := goodIn_app (goodIn_of _ (by decide +kernel)) ggX4_digit_X4_requireDigit
set_option maxRecDepth 20000 in
theorem ggX4_digit_X4_requireRange : GoodIn wsX4_digit wsX4_requireRange := goodIn_ca (goodIn_r _ [11, 12, 13] (by decide +kernel) (by decide +kernel)) (goodIn_sub (fun _ h => List.mem_cons_of_mem _ (List.mem_append_right _ h)) (by decide +kernel))
set_option maxRecDepth 20000 in
theorem gX4_digit_X4_requireRange : GoodIn wsX4_digit (va_wsS RX4 44 yX4_requireRange wsX4_requireRange) := goodIn_app (goodIn_of _ (by decide +kernel)) ggX4_digit_X4_requireRange
set_option maxRecDepth 20000 in
theorem ggX4_digit_X0_foresee : GoodIn wsX4_digit wsX0_foresee := goodIn_r _ [18, 19, 20, 21, 22, 23, 24, 25, 26, 27, 28, 29, 17, 30, 31, 32, 33, 34, 35, 36, 37, 38, 39, 40, 41, 42, 43, 44, 45, 46, 5, 47, 48, 49, 50, 51, 52, 53, 54, 55, 56, 57, 110, 111, 112, 113, 114, 115, 116, 117, 118, 119, 120, 121, 122, 123, 124, 125, 126, 127, 128, 129] (by decide +kernel) (by decide +kernel)
set_option maxRecDepth 20000 in
theorem gX4_digit_X0_foresee : GoodIn wsX4_digit (wsV RX4 148 RX0 yX0_foresee wsX0_foresee) := goodIn_app (goodIn_of _ (by decide +kernel)) ggX4_digit_X0_foresee
set_option maxRecDepth 20000 in
theorem ggX4_digit_X4_property : GoodIn wsX4_digit wsX4_property := goodIn_r _ [61, 2, 62, 63, 64, 65, 1, 66, 67, 68, 69, 70, 71, 72, 73, 74, 75, 76, 77, 17, 78, 32, 37, 79, 80, 81, 82, 36, 33, 83, 84, 85, 86, 35, 87, 88, 89, 90, 91, 5, 92, 93, 94, 95, 96, 97, 98, 99, 100, 101, 102, 103, 104, 105, 106, 107, 108, 109, 110, 111, 112, 113, 114, 115, 116, 117, 118, 119, 120, 121, 122, 123, 124, 125, 126, 127, 128, 129] (by decide +kernel) (by decide +kernel)
set_option maxRecDepth 20000 in
theorem gX4_digit_X4_property : GoodIn wsX4_digit (wsV RX4 151 RX4 yX4_property wsX4_property) := goodIn_app (goodIn_of _ (by decide +kernel)) ggX4_digit_X4_property
theorem dX4_digit_0 : decode cX4_digit 0 = .ok (.iload_n 1, 1) := by decide +kernel
theorem dX4_digit_1 : decode cX4_digit 1 = .ok (.invokestatic 40, 3) := by decide +kernel
theorem dX4_digit_4 : decode cX4_digit 4 = .ok (.iload_n 2, 1) := by decide +kernel
theorem dX4_digit_5 : decode cX4_digit 5 = .ok (.iconst 0, 1) := by decide +kernel
theorem dX4_digit_6 : decode cX4_digit 6 = .ok (.bipush 11, 2) := by decide +kernel
theorem dX4_digit_8 : decode cX4_digit 8 = .ok (.invokestatic 44, 3) := by decide +kernel
theorem dX4_digit_11 : decode cX4_digit 11 = .ok (.aload_n 0, 1) := by decide +kernel
theorem dX4_digit_12 : decode cX4_digit 12 = .ok (.getfield 33, 3) := by decide +kernel
theorem dX4_digit_15 : decode cX4_digit 15 = .ok (.aload_n 0, 1) := by decide +kernel
theorem dX4_digit_16 : decode cX4_digit 16 = .ok (.getfield 10, 3) := by decide +kernel
theorem dX4_digit_19 : decode cX4_digit 19 = .ok (.invokevirtual 148, 3) := by decide +kernel
theorem dX4_digit_22 : decode cX4_digit 22 = .ok (.aload_n 0, 1) := by decide +kernel
theorem dX4_digit_23 : decode cX4_digit 23 = .ok (.iload_n 1, 1) := by decide +kernel
theorem dX4_digit_24 : decode cX4_digit 24 = .ok (.iload_n 2, 1) := by decide +kernel
theorem dX4_digit_25 : decode cX4_digit 25 = .ok (.invokevirtual 151, 3) := by decide +kernel
theorem dX4_digit_28 : decode cX4_digit 28 = .ok (.ireturn, 1) := by decide +kernel
set_option maxRecDepth 20000 in
theorem ggX4_wear_X4_requireDigit : GoodIn wsX4_wear wsX4_requireDigit := goodIn_ca (goodIn_r _ [6, 7, 8] (by decide +kernel) (by decide +kernel)) (goodIn_sub (fun _ h => List.mem_cons_of_mem _ (List.mem_append_right _ h)) (by decide +kernel))
set_option maxRecDepth 20000 in
theorem gX4_wear_X4_requireDigit : GoodIn wsX4_wear (va_wsS RX4 40 yX4_requireDigit wsX4_requireDigit) := goodIn_app (goodIn_of _ (by decide +kernel)) ggX4_wear_X4_requireDigit
set_option maxRecDepth 20000 in
theorem ggX4_wear_X4_requireSegment : GoodIn wsX4_wear wsX4_requireSegment := goodIn_ca (goodIn_r _ [11, 7, 8] (by decide +kernel) (by decide +kernel)) (goodIn_sub (fun _ h => List.mem_cons_of_mem _ (List.mem_append_right _ h)) (by decide +kernel))
set_option maxRecDepth 20000 in
theorem gX4_wear_X4_requireSegment : GoodIn wsX4_wear (va_wsS RX4 62 yX4_requireSegment wsX4_requireSegment) := goodIn_app (goodIn_of _ (by decide +kernel)) ggX4_wear_X4_requireSegment
set_option maxRecDepth 20000 in
theorem ggX4_wear_X4_wearPlace : GoodIn wsX4_wear wsX4_wearPlace := goodIn_r _ [14] (by decide +kernel) (by decide +kernel)
set_option maxRecDepth 20000 in
theorem gX4_wear_X4_wearPlace : GoodIn wsX4_wear (va_wsS RX4 71 yX4_wearPlace wsX4_wearPlace) := goodIn_app (goodIn_of _ (by decide +kernel)) ggX4_wear_X4_wearPlace
theorem dX4_wear_0 : decode cX4_wear 0 = .ok (.iload_n 1, 1) := by decide +kernel
theorem dX4_wear_1 : decode cX4_wear 1 = .ok (.invokestatic 40, 3) := by decide +kernel
theorem dX4_wear_4 : decode cX4_wear 4 = .ok (.iload_n 2, 1) := by decide +kernel
theorem dX4_wear_5 : decode cX4_wear 5 = .ok (.invokestatic 62, 3) := by decide +kernel
theorem dX4_wear_8 : decode cX4_wear 8 = .ok (.aload_n 0, 1) := by decide +kernel
theorem dX4_wear_9 : decode cX4_wear 9 = .ok (.getfield 10, 3) := by decide +kernel
theorem dX4_wear_12 : decode cX4_wear 12 = .ok (.getfield 68, 3) := by decide +kernel
theorem dX4_wear_15 : decode cX4_wear 15 = .ok (.iload_n 1, 1) := by decide +kernel
theorem dX4_wear_16 : decode cX4_wear 16 = .ok (.iload_n 2, 1) := by decide +kernel
theorem dX4_wear_17 : decode cX4_wear 17 = .ok (.invokestatic 71, 3) := by decide +kernel
theorem dX4_wear_20 : decode cX4_wear 20 = .ok (.iaload, 1) := by decide +kernel
theorem dX4_wear_21 : decode cX4_wear 21 = .ok (.ireturn, 1) := by decide +kernel
set_option maxRecDepth 20000 in
theorem ggX4_count_X4_requireRange : GoodIn wsX4_count wsX4_requireRange := goodIn_ca (goodIn_r _ [6, 7, 8] (by decide +kernel) (by decide +kernel)) (goodIn_sub (fun _ h => List.mem_cons_of_mem _ (List.mem_append_right _ h)) (by decide +kernel))
set_option maxRecDepth 20000 in
theorem gX4_count_X4_requireRange : GoodIn wsX4_count (va_wsS RX4 44 yX4_requireRange wsX4_requireRange) := goodIn_app (goodIn_of _ (by decide +kernel)) ggX4_count_X4_requireRange
set_option maxRecDepth 20000 in
theorem ggX4_count_X0_foresee : GoodIn wsX4_count wsX0_foresee := goodIn_r _ [13, 14, 15, 16, 17, 18, 19, 20, 21, 22, 23, 24, 12, 25, 26, 27, 28, 29, 30, 31, 32, 33, 34, 35, 36, 37, 38, 39, 40, 41, 5, 42, 43, 44, 45, 46, 47, 48, 49, 50, 51, 52, 132, 133, 134, 135, 136, 137, 138, 139, 140, 141, 142, 143, 144, 145, 146, 147, 148, 149, 150, 151] (by decide +kernel) (by decide +kernel)
set_option maxRecDepth 20000 in
theorem gX4_count_X0_foresee : GoodIn wsX4_count (wsV RX4 148 RX0 yX0_foresee wsX0_foresee) := goodIn_app (goodIn_of _ (by decide +kernel)) ggX4_count_X0_foresee
set_option maxRecDepth 20000 in
theorem ggX4_count_X4_total : GoodIn wsX4_count wsX4_total := goodIn_r _ [56, 2, 57, 1, 58, 59, 60, 61, 62, 63, 64, 65, 66, 67, 68, 69, 70, 12, 71, 27, 36, 72, 73, 74, 75, 35, 76, 77, 78, 79, 80, 81, 82, 83, 32, 31, 28, 84, 85, 86, 87, 88, 89, 90, 91, 30, 92, 93, 94, 95, 96, 97, 98, 5, 99, 100, 101, 102, 103, 104, 105, 106, 107, 108, 109, 110, 111, 112, 113, 114, 115, 116, 117, 118, 119, 120, 121, 122, 123, 124, 125, 126, 127, 128, 129, 130, 131, 132, 133, 134, 135, 136, 137, 138, 139, 140, 141, 152, 153, 154, 142, 143, 144, 145, 146, 147, 148, 149, 150, 151] (by decide +kernel) (by decide +kernel)
set_option maxRecDepth 20000 in
theorem gX4_count_X4_total : GoodIn wsX4_count (wsV RX4 160 RX4 yX4_total wsX4_total) := goodIn_app (goodIn_of _ (by decide +kernel)) ggX4_count_X4_total
theorem dX4_count_0 : decode cX4_count 0 = .ok (.iload_n 1, 1) := by decide +kernel
theorem dX4_count_1 : decode cX4_count 1 = .ok (.iconst 0, 1) := by decide +kernel
theorem dX4_count_2 : decode cX4_count 2 = .ok (.bipush 10, 2) := by decide +kernel
theorem dX4_count_4 : decode cX4_count 4 = .ok (.invokestatic 44, 3) := by decide +kernel
theorem dX4_count_7 : decode cX4_count 7 = .ok (.aload_n 0, 1) := by decide +kernel
theorem dX4_count_8 : decode cX4_count 8 = .ok (.getfield 33, 3) := by decide +kernel
theorem dX4_count_11 : decode cX4_count 11 = .ok (.aload_n 0, 1) := by decide +kernel
theorem dX4_count_12 : decode cX4_count 12 = .ok (.getfield 10, 3) := by decide +kernel
theorem dX4_count_15 : decode cX4_count 15 = .ok (.invokevirtual 148, 3) := by decide +kernel
theorem dX4_count_18 : decode cX4_count 18 = .ok (.aload_n 0, 1) := by decide +kernel
theorem dX4_count_19 : decode cX4_count 19 = .ok (.iload_n 1, 1) := by decide +kernel
theorem dX4_count_20 : decode cX4_count 20 = .ok (.invokevirtual 160, 3) := by decide +kernel
theorem dX4_count_23 : decode cX4_count 23 = .ok (.ireturn, 1) := by decide +kernel
set_option maxRecDepth 20000 in
theorem ggX4_setting_X4_requireSetting : GoodIn wsX4_setting wsX4_requireSetting := goodIn_ca (goodIn_r _ [6, 7, 8] (by decide +kernel) (by decide +kernel)) (goodIn_sub (fun _ h => List.mem_cons_of_mem _ (List.mem_append_right _ h)) (by decide +kernel))
set_option maxRecDepth 20000 in
theorem gX4_setting_X4_requireSetting : GoodIn wsX4_setting (va_wsS RX4 79 yX4_requireSetting wsX4_requireSetting) := goodIn_app (goodIn_of _ (by decide +kernel)) ggX4_setting_X4_requireSetting
theorem dX4_setting_0 : decode cX4_setting 0 = .ok (.iload_n 1, 1) := by decide +kernel
theorem dX4_setting_1 : decode cX4_setting 1 = .ok (.invokestatic 79, 3) := by decide +kernel
theorem dX4_setting_4 : decode cX4_setting 4 = .ok (.aload_n 0, 1) := by decide +kernel
theorem dX4_setting_5 : decode cX4_setting 5 = .ok (.getfield 10, 3) := by decide +kernel
theorem dX4_setting_8 : decode cX4_setting 8 = .ok (.getfield 88, 3) := by decide +kernel
theorem dX4_setting_11 : decode cX4_setting 11 = .ok (.iload_n 1, 1) := by decide +kernel
theorem dX4_setting_12 : decode cX4_setting 12 = .ok (.iaload, 1) := by decide +kernel
theorem dX4_setting_13 : decode cX4_setting 13 = .ok (.ireturn, 1) := by decide +kernel
set_option maxRecDepth 20000 in
theorem ggX4_alikeSigns_X4_requireDigit : GoodIn wsX4_alikeSigns wsX4_requireDigit := goodIn_ca (goodIn_r _ [4, 5, 6] (by decide +kernel) (by decide +kernel)) (goodIn_sub (fun _ h => List.mem_cons_of_mem _ (List.mem_append_right _ h)) (by decide +kernel))
set_option maxRecDepth 20000 in
theorem gX4_alikeSigns_X4_requireDigit : GoodIn wsX4_alikeSigns (va_wsS RX4 40 yX4_requireDigit wsX4_requireDigit) := goodIn_app (goodIn_of _ (by decide +kernel)) ggX4_alikeSigns_X4_requireDigit
set_option maxRecDepth 20000 in
theorem ggX4_alikeSigns_X4_alikePairs : GoodIn wsX4_alikeSigns wsX4_alikePairs := goodIn_r _ [10, 11, 12, 13, 14, 15, 16, 17, 18, 19, 20, 21, 22, 23, 24, 25, 26, 27, 28] (by decide +kernel) (by decide +kernel)
set_option maxRecDepth 20000 in
theorem gX4_alikeSigns_X4_alikePairs : GoodIn wsX4_alikeSigns (wsV RX4 173 RX4 yX4_alikePairs wsX4_alikePairs) := goodIn_app (goodIn_of _ (by decide +kernel)) ggX4_alikeSigns_X4_alikePairs
theorem dX4_alikeSigns_0 : decode cX4_alikeSigns 0 = .ok (.iload_n 1, 1) := by decide +kernel
theorem dX4_alikeSigns_1 : decode cX4_alikeSigns 1 = .ok (.invokestatic 40, 3) := by decide +kernel
theorem dX4_alikeSigns_4 : decode cX4_alikeSigns 4 = .ok (.aload_n 0, 1) := by decide +kernel
theorem dX4_alikeSigns_5 : decode cX4_alikeSigns 5 = .ok (.iload_n 1, 1) := by decide +kernel
theorem dX4_alikeSigns_6 : decode cX4_alikeSigns 6 = .ok (.invokevirtual 173, 3) := by decide +kernel
theorem dX4_alikeSigns_9 : decode cX4_alikeSigns 9 = .ok (.ireturn, 1) := by decide +kernel
set_option maxRecDepth 20000 in
theorem ggX4_evenness_X0_foresee : GoodIn wsX4_evenness wsX0_foresee := goodIn_r _ [7, 8, 9, 10, 11, 12, 13, 14, 15, 16, 17, 18, 6, 19, 20, 21, 22, 23, 24, 25, 26, 27, 28, 29, 30, 31, 32, 33, 34, 35, 36, 37, 38, 39, 40, 41, 42, 43, 44, 45, 46, 47, 66, 67, 68, 69, 70, 71, 72, 73, 74, 75, 76, 77, 78, 79, 80, 81, 82, 83, 84, 85] (by decide +kernel) (by decide +kernel)
set_option maxRecDepth 20000 in
theorem gX4_evenness_X0_foresee : GoodIn wsX4_evenness (wsV RX4 148 RX0 yX0_foresee wsX0_foresee) := goodIn_app (goodIn_of _ (by decide +kernel)) ggX4_evenness_X0_foresee
set_option maxRecDepth 20000 in
theorem ggX4_evenness_X4_lightShare : GoodIn wsX4_evenness wsX4_lightShare := goodIn_r _ [51, 2, 52, 1, 53, 54, 46, 55, 56, 45, 47, 57, 58, 59, 6, 60, 21, 26, 61, 62, 63, 64, 65, 66, 67, 68, 69, 70, 71, 72, 73, 74, 75, 76, 77, 78, 79, 80, 81, 82, 83, 84, 85] (by decide +kernel) (by decide +kernel)
set_option maxRecDepth 20000 in
theorem gX4_evenness_X4_lightShare : GoodIn wsX4_evenness (wsV RX4 179 RX4 yX4_lightShare wsX4_lightShare) := goodIn_app (goodIn_of _ (by decide +kernel)) ggX4_evenness_X4_lightShare
theorem dX4_evenness_0 : decode cX4_evenness 0 = .ok (.aload_n 0, 1) := by decide +kernel
theorem dX4_evenness_1 : decode cX4_evenness 1 = .ok (.getfield 33, 3) := by decide +kernel
theorem dX4_evenness_4 : decode cX4_evenness 4 = .ok (.aload_n 0, 1) := by decide +kernel
theorem dX4_evenness_5 : decode cX4_evenness 5 = .ok (.getfield 10, 3) := by decide +kernel
theorem dX4_evenness_8 : decode cX4_evenness 8 = .ok (.invokevirtual 148, 3) := by decide +kernel
theorem dX4_evenness_11 : decode cX4_evenness 11 = .ok (.aload_n 0, 1) := by decide +kernel
theorem dX4_evenness_12 : decode cX4_evenness 12 = .ok (.invokevirtual 179, 3) := by decide +kernel
theorem dX4_evenness_15 : decode cX4_evenness 15 = .ok (.dreturn, 1) := by decide +kernel
set_option maxRecDepth 20000 in
theorem ggX4_property_X2_shownSegments : GoodIn wsX4_property wsX2_shownSegments := goodIn_r _ [13, 14, 15, 58, 59, 60, 61, 62, 63, 64, 65, 66, 67] (by decide +kernel) (by decide +kernel)
set_option maxRecDepth 20000 in
theorem gX4_property_X2_shownSegments : GoodIn wsX4_property (wsV RX4 208 RX2 yX2_shownSegments wsX2_shownSegments) := goodIn_app (goodIn_of _ (by decide +kernel)) ggX4_property_X2_shownSegments
set_option maxRecDepth 20000 in
theorem ggX4_property_X0_lightOf : GoodIn wsX4_property wsX0_lightOf := goodIn_r _ [20, 21, 22, 68, 69, 70, 71, 72, 73, 74, 75, 76, 77] (by decide +kernel) (by decide +kernel)
set_option maxRecDepth 20000 in
theorem gX4_property_X0_lightOf : GoodIn wsX4_property (wsV RX4 214 RX0 yX0_lightOf wsX0_lightOf) := goodIn_app (goodIn_of _ (by decide +kernel)) ggX4_property_X0_lightOf
set_option maxRecDepth 20000 in
theorem ggX4_property_X0_flickers : GoodIn wsX4_property wsX0_flickers := goodIn_r _ [26, 22, 27, 28, 68, 69, 70, 71, 72, 73, 74, 75, 76, 77] (by decide +kernel) (by decide +kernel)
set_option maxRecDepth 20000 in
theorem gX4_property_X0_flickers : GoodIn wsX4_property (wsV RX4 220 RX0 yX0_flickers wsX0_flickers) := goodIn_app (goodIn_of _ (by decide +kernel)) ggX4_property_X0_flickers
set_option maxRecDepth 20000 in
theorem ggX4_property_X0_isSeen : GoodIn wsX4_property wsX0_isSeen := goodIn_r _ [32, 33, 34, 17, 18, 19, 20, 21, 22, 35, 24, 25, 26, 27, 28, 68, 69, 70, 71, 72, 73, 74, 75, 76, 77] (by decide +kernel) (by decide +kernel)
set_option maxRecDepth 20000 in
theorem gX4_property_X0_isSeen : GoodIn wsX4_property (wsV RX4 223 RX0 yX0_isSeen wsX0_isSeen) := goodIn_app (goodIn_of _ (by decide +kernel)) ggX4_property_X0_isSeen
set_option maxRecDepth 20000 in
theorem ggX4_property_X4_isClear : GoodIn wsX4_property wsX4_isClear := goodIn_r _ [40, 6, 1, 29, 30, 31, 19, 32, 33, 34, 17, 18, 20, 21, 22, 35, 24, 25, 26, 27, 28, 41, 42, 43, 12, 44, 15, 45, 10, 11, 13, 14, 46, 47, 48, 49, 50, 51, 52, 53, 54, 55, 56, 57, 68, 69, 70, 71, 72, 73, 74, 75, 76, 77, 58, 59, 60, 61, 62, 63, 64, 65, 66, 67] (by decide +kernel) (by decide +kernel)
set_option maxRecDepth 20000 in
theorem gX4_property_X4_isClear : GoodIn wsX4_property (wsV RX4 226 RX4 yX4_isClear wsX4_isClear) := goodIn_app (goodIn_of _ (by decide +kernel)) ggX4_property_X4_isClear
set_option maxRecDepth 20000 in
theorem ggX4_property_X2_readableSigns : GoodIn wsX4_property wsX2_readableSigns := goodIn_r _ [44, 15, 45, 10, 11, 12, 13, 14, 58, 59, 60, 61, 62, 63, 64, 65, 66, 67] (by decide +kernel) (by decide +kernel)
set_option maxRecDepth 20000 in
theorem gX4_property_X2_readableSigns : GoodIn wsX4_property (wsV RX4 229 RX2 yX2_readableSigns wsX2_readableSigns) := goodIn_app (goodIn_of _ (by decide +kernel)) ggX4_property_X2_readableSigns
theorem dX4_property_0 : decode cX4_property 0 = .ok (.iload_n 2, 1) := by decide +kernel
theorem dX4_property_1 : decode cX4_property 1 = .ok (.tableswitch 184 0 10 #[59, 69, 79, 89, 98, 108, 117, 127, 144, 161, 175], 59) := by decide +kernel
theorem dX4_property_60 : decode cX4_property 60 = .ok (.aload_n 0, 1) := by decide +kernel
theorem dX4_property_61 : decode cX4_property 61 = .ok (.getfield 10, 3) := by decide +kernel
theorem dX4_property_64 : decode cX4_property 64 = .ok (.getfield 52, 3) := by decide +kernel
theorem dX4_property_67 : decode cX4_property 67 = .ok (.iload_n 1, 1) := by decide +kernel
theorem dX4_property_68 : decode cX4_property 68 = .ok (.iaload, 1) := by decide +kernel
theorem dX4_property_69 : decode cX4_property 69 = .ok (.ireturn, 1) := by decide +kernel
theorem dX4_property_70 : decode cX4_property 70 = .ok (.aload_n 0, 1) := by decide +kernel
theorem dX4_property_71 : decode cX4_property 71 = .ok (.getfield 10, 3) := by decide +kernel
theorem dX4_property_74 : decode cX4_property 74 = .ok (.getfield 56, 3) := by decide +kernel
theorem dX4_property_77 : decode cX4_property 77 = .ok (.iload_n 1, 1) := by decide +kernel
theorem dX4_property_78 : decode cX4_property 78 = .ok (.iaload, 1) := by decide +kernel
theorem dX4_property_79 : decode cX4_property 79 = .ok (.ireturn, 1) := by decide +kernel
theorem dX4_property_80 : decode cX4_property 80 = .ok (.aload_n 0, 1) := by decide +kernel
theorem dX4_property_81 : decode cX4_property 81 = .ok (.getfield 10, 3) := by decide +kernel
theorem dX4_property_84 : decode cX4_property 84 = .ok (.getfield 65, 3) := by decide +kernel
theorem dX4_property_87 : decode cX4_property 87 = .ok (.iload_n 1, 1) := by decide +kernel
theorem dX4_property_88 : decode cX4_property 88 = .ok (.iaload, 1) := by decide +kernel
theorem dX4_property_89 : decode cX4_property 89 = .ok (.ireturn, 1) := by decide +kernel
theorem dX4_property_90 : decode cX4_property 90 = .ok (.aload_n 0, 1) := by decide +kernel
theorem dX4_property_91 : decode cX4_property 91 = .ok (.getfield 10, 3) := by decide +kernel
theorem dX4_property_94 : decode cX4_property 94 = .ok (.iload_n 1, 1) := by decide +kernel
theorem dX4_property_95 : decode cX4_property 95 = .ok (.invokevirtual 208, 3) := by decide +kernel
theorem dX4_property_98 : decode cX4_property 98 = .ok (.ireturn, 1) := by decide +kernel
theorem dX4_property_99 : decode cX4_property 99 = .ok (.aload_n 0, 1) := by decide +kernel
theorem dX4_property_100 : decode cX4_property 100 = .ok (.getfield 10, 3) := by decide +kernel
theorem dX4_property_103 : decode cX4_property 103 = .ok (.getfield 211, 3) := by decide +kernel
theorem dX4_property_106 : decode cX4_property 106 = .ok (.iload_n 1, 1) := by decide +kernel
theorem dX4_property_107 : decode cX4_property 107 = .ok (.iaload, 1) := by decide +kernel
theorem dX4_property_108 : decode cX4_property 108 = .ok (.ireturn, 1) := by decide +kernel
theorem dX4_property_109 : decode cX4_property 109 = .ok (.aload_n 0, 1) := by decide +kernel
theorem dX4_property_110 : decode cX4_property 110 = .ok (.getfield 33, 3) := by decide +kernel
theorem dX4_property_113 : decode cX4_property 113 = .ok (.iload_n 1, 1) := by decide +kernel
theorem dX4_property_114 : decode cX4_property 114 = .ok (.invokevirtual 214, 3) := by decide +kernel
theorem dX4_property_117 : decode cX4_property 117 = .ok (.ireturn, 1) := by decide +kernel
theorem dX4_property_118 : decode cX4_property 118 = .ok (.aload_n 0, 1) := by decide +kernel
theorem dX4_property_119 : decode cX4_property 119 = .ok (.getfield 33, 3) := by decide +kernel
theorem dX4_property_122 : decode cX4_property 122 = .ok (.getfield 217, 3) := by decide +kernel
theorem dX4_property_125 : decode cX4_property 125 = .ok (.iload_n 1, 1) := by decide +kernel
theorem dX4_property_126 : decode cX4_property 126 = .ok (.iaload, 1) := by decide +kernel
theorem dX4_property_127 : decode cX4_property 127 = .ok (.ireturn, 1) := by decide +kernel
theorem dX4_property_128 : decode cX4_property 128 = .ok (.aload_n 0, 1) := by decide +kernel
theorem dX4_property_129 : decode cX4_property 129 = .ok (.getfield 33, 3) := by decide +kernel
theorem dX4_property_132 : decode cX4_property 132 = .ok (.iload_n 1, 1) := by decide +kernel
theorem dX4_property_133 : decode cX4_property 133 = .ok (.invokevirtual 220, 3) := by decide +kernel
theorem dX4_property_136 : decode cX4_property 136 = .ok (.ifCond .eq 7, 3) := by decide +kernel
theorem dX4_property_139 : decode cX4_property 139 = .ok (.iconst 1, 1) := by decide +kernel
theorem dX4_property_140 : decode cX4_property 140 = .ok (.goto 4, 3) := by decide +kernel
theorem dX4_property_143 : decode cX4_property 143 = .ok (.iconst 0, 1) := by decide +kernel
theorem dX4_property_144 : decode cX4_property 144 = .ok (.ireturn, 1) := by decide +kernel
theorem dX4_property_145 : decode cX4_property 145 = .ok (.aload_n 0, 1) := by decide +kernel
theorem dX4_property_146 : decode cX4_property 146 = .ok (.getfield 33, 3) := by decide +kernel
theorem dX4_property_149 : decode cX4_property 149 = .ok (.iload_n 1, 1) := by decide +kernel
theorem dX4_property_150 : decode cX4_property 150 = .ok (.invokevirtual 223, 3) := by decide +kernel
theorem dX4_property_153 : decode cX4_property 153 = .ok (.ifCond .eq 7, 3) := by decide +kernel
theorem dX4_property_156 : decode cX4_property 156 = .ok (.iconst 1, 1) := by decide +kernel
theorem dX4_property_157 : decode cX4_property 157 = .ok (.goto 4, 3) := by decide +kernel
theorem dX4_property_160 : decode cX4_property 160 = .ok (.iconst 0, 1) := by decide +kernel
theorem dX4_property_161 : decode cX4_property 161 = .ok (.ireturn, 1) := by decide +kernel
theorem dX4_property_162 : decode cX4_property 162 = .ok (.aload_n 0, 1) := by decide +kernel
theorem dX4_property_163 : decode cX4_property 163 = .ok (.iload_n 1, 1) := by decide +kernel
theorem dX4_property_164 : decode cX4_property 164 = .ok (.invokevirtual 226, 3) := by decide +kernel
theorem dX4_property_167 : decode cX4_property 167 = .ok (.ifCond .eq 7, 3) := by decide +kernel
theorem dX4_property_170 : decode cX4_property 170 = .ok (.iconst 1, 1) := by decide +kernel
theorem dX4_property_171 : decode cX4_property 171 = .ok (.goto 4, 3) := by decide +kernel
theorem dX4_property_174 : decode cX4_property 174 = .ok (.iconst 0, 1) := by decide +kernel
theorem dX4_property_175 : decode cX4_property 175 = .ok (.ireturn, 1) := by decide +kernel
theorem dX4_property_176 : decode cX4_property 176 = .ok (.aload_n 0, 1) := by decide +kernel
theorem dX4_property_177 : decode cX4_property 177 = .ok (.getfield 10, 3) := by decide +kernel
theorem dX4_property_180 : decode cX4_property 180 = .ok (.iload_n 1, 1) := by decide +kernel
theorem dX4_property_181 : decode cX4_property 181 = .ok (.invokevirtual 229, 3) := by decide +kernel
theorem dX4_property_184 : decode cX4_property 184 = .ok (.ireturn, 1) := by decide +kernel
theorem dX4_property_185 : decode cX4_property 185 = .ok (.aload_n 0, 1) := by decide +kernel
theorem dX4_property_186 : decode cX4_property 186 = .ok (.getfield 10, 3) := by decide +kernel
theorem dX4_property_189 : decode cX4_property 189 = .ok (.getfield 232, 3) := by decide +kernel
theorem dX4_property_192 : decode cX4_property 192 = .ok (.iload_n 1, 1) := by decide +kernel
theorem dX4_property_193 : decode cX4_property 193 = .ok (.iaload, 1) := by decide +kernel
theorem dX4_property_194 : decode cX4_property 194 = .ok (.ireturn, 1) := by decide +kernel
set_option maxRecDepth 20000 in
theorem ggX4_total_X2_levelSum : GoodIn wsX4_total wsX2_levelSum := goodIn_r _ [12, 13, 87, 88, 89, 90, 91, 92, 93, 94, 95, 96] (by decide +kernel) (by decide +kernel)
set_option maxRecDepth 20000 in
theorem gX4_total_X2_levelSum : GoodIn wsX4_total (wsV RX4 235 RX2 yX2_levelSum wsX2_levelSum) := goodIn_app (goodIn_of _ (by decide +kernel)) ggX4_total_X2_levelSum
set_option maxRecDepth 20000 in
theorem ggX4_total_X0_darkSlots : GoodIn wsX4_total wsX0_darkSlots := goodIn_r _ [18, 19, 20, 100, 101, 102, 103, 104, 105, 106, 107, 108, 109] (by decide +kernel) (by decide +kernel)
set_option maxRecDepth 20000 in
theorem gX4_total_X0_darkSlots : GoodIn wsX4_total (wsV RX4 238 RX0 yX0_darkSlots wsX0_darkSlots) := goodIn_app (goodIn_of _ (by decide +kernel)) ggX4_total_X0_darkSlots
set_option maxRecDepth 20000 in
theorem ggX4_total_X0_changes : GoodIn wsX4_total wsX0_changes := goodIn_r _ [24, 19, 25, 100, 101, 102, 103, 104, 105, 106, 107, 108, 109] (by decide +kernel) (by decide +kernel)
set_option maxRecDepth 20000 in
theorem gX4_total_X0_changes : GoodIn wsX4_total (wsV RX4 241 RX0 yX0_changes wsX0_changes) := goodIn_app (goodIn_of _ (by decide +kernel)) ggX4_total_X0_changes
set_option maxRecDepth 20000 in
theorem ggX4_total_X0_flickering : GoodIn wsX4_total wsX0_flickering := goodIn_r _ [29, 30, 31, 32, 17, 33, 34, 35, 36, 100, 101, 102, 103, 104, 105, 106, 107, 108, 109] (by decide +kernel) (by decide +kernel)
set_option maxRecDepth 20000 in
theorem gX4_total_X0_flickering : GoodIn wsX4_total (wsV RX4 244 RX0 yX0_flickering wsX0_flickering) := goodIn_app (goodIn_of _ (by decide +kernel)) ggX4_total_X0_flickering
set_option maxRecDepth 20000 in
theorem ggX4_total_X0_seen : GoodIn wsX4_total wsX0_seen := goodIn_r _ [40, 41, 42, 43, 17, 44, 45, 46, 47, 48, 49, 19, 34, 30, 31, 32, 33, 35, 36, 100, 101, 102, 103, 104, 105, 106, 107, 108, 109] (by decide +kernel) (by decide +kernel)
set_option maxRecDepth 20000 in
theorem gX4_total_X0_seen : GoodIn wsX4_total (wsV RX4 247 RX0 yX0_seen wsX0_seen) := goodIn_app (goodIn_of _ (by decide +kernel)) ggX4_total_X0_seen
set_option maxRecDepth 20000 in
theorem ggX4_total_X4_clearDigits : GoodIn wsX4_total wsX4_clearDigits := goodIn_r _ [54, 55, 56, 57, 53, 58, 3, 1, 59, 42, 43, 17, 44, 45, 46, 47, 48, 49, 19, 34, 30, 31, 32, 33, 35, 36, 60, 61, 62, 11, 63, 64, 65, 66, 67, 68, 69, 70, 71, 72, 73, 74, 75, 76, 82, 83, 84, 85, 86, 100, 101, 102, 103, 104, 105, 106, 107, 108, 109, 87, 88, 89, 90, 91, 92, 93, 94, 95, 96] (by decide +kernel) (by decide +kernel)
set_option maxRecDepth 20000 in
theorem gX4_total_X4_clearDigits : GoodIn wsX4_total (wsV RX4 250 RX4 yX4_clearDigits wsX4_clearDigits) := goodIn_app (goodIn_of _ (by decide +kernel)) ggX4_total_X4_clearDigits
set_option maxRecDepth 20000 in
theorem ggX4_total_X2_burntSegments : GoodIn wsX4_total wsX2_burntSegments := goodIn_r _ [80, 64, 81, 71, 72, 73, 74, 75, 76, 87, 88, 89, 90, 91, 92, 93, 94, 95, 96] (by decide +kernel) (by decide +kernel)
set_option maxRecDepth 20000 in
theorem gX4_total_X2_burntSegments : GoodIn wsX4_total (wsV RX4 253 RX2 yX2_burntSegments wsX2_burntSegments) := goodIn_app (goodIn_of _ (by decide +kernel)) ggX4_total_X2_burntSegments
theorem dX4_total_0 : decode cX4_total 0 = .ok (.iload_n 1, 1) := by decide +kernel
theorem dX4_total_1 : decode cX4_total 1 = .ok (.tableswitch 132 0 9 #[55, 63, 71, 79, 87, 95, 103, 108, 116, 124], 55) := by decide +kernel
theorem dX4_total_56 : decode cX4_total 56 = .ok (.aload_n 0, 1) := by decide +kernel
theorem dX4_total_57 : decode cX4_total 57 = .ok (.getfield 10, 3) := by decide +kernel
theorem dX4_total_60 : decode cX4_total 60 = .ok (.getfield 99, 3) := by decide +kernel
theorem dX4_total_63 : decode cX4_total 63 = .ok (.ireturn, 1) := by decide +kernel
theorem dX4_total_64 : decode cX4_total 64 = .ok (.aload_n 0, 1) := by decide +kernel
theorem dX4_total_65 : decode cX4_total 65 = .ok (.getfield 10, 3) := by decide +kernel
theorem dX4_total_68 : decode cX4_total 68 = .ok (.invokevirtual 235, 3) := by decide +kernel
theorem dX4_total_71 : decode cX4_total 71 = .ok (.ireturn, 1) := by decide +kernel
theorem dX4_total_72 : decode cX4_total 72 = .ok (.aload_n 0, 1) := by decide +kernel
theorem dX4_total_73 : decode cX4_total 73 = .ok (.getfield 33, 3) := by decide +kernel
theorem dX4_total_76 : decode cX4_total 76 = .ok (.invokevirtual 238, 3) := by decide +kernel
theorem dX4_total_79 : decode cX4_total 79 = .ok (.ireturn, 1) := by decide +kernel
theorem dX4_total_80 : decode cX4_total 80 = .ok (.aload_n 0, 1) := by decide +kernel
theorem dX4_total_81 : decode cX4_total 81 = .ok (.getfield 33, 3) := by decide +kernel
theorem dX4_total_84 : decode cX4_total 84 = .ok (.invokevirtual 241, 3) := by decide +kernel
theorem dX4_total_87 : decode cX4_total 87 = .ok (.ireturn, 1) := by decide +kernel
theorem dX4_total_88 : decode cX4_total 88 = .ok (.aload_n 0, 1) := by decide +kernel
theorem dX4_total_89 : decode cX4_total 89 = .ok (.getfield 33, 3) := by decide +kernel
theorem dX4_total_92 : decode cX4_total 92 = .ok (.invokevirtual 244, 3) := by decide +kernel
theorem dX4_total_95 : decode cX4_total 95 = .ok (.ireturn, 1) := by decide +kernel
theorem dX4_total_96 : decode cX4_total 96 = .ok (.aload_n 0, 1) := by decide +kernel
theorem dX4_total_97 : decode cX4_total 97 = .ok (.getfield 33, 3) := by decide +kernel
theorem dX4_total_100 : decode cX4_total 100 = .ok (.invokevirtual 247, 3) := by decide +kernel
theorem dX4_total_103 : decode cX4_total 103 = .ok (.ireturn, 1) := by decide +kernel
theorem dX4_total_104 : decode cX4_total 104 = .ok (.aload_n 0, 1) := by decide +kernel
theorem dX4_total_105 : decode cX4_total 105 = .ok (.invokevirtual 250, 3) := by decide +kernel
theorem dX4_total_108 : decode cX4_total 108 = .ok (.ireturn, 1) := by decide +kernel
theorem dX4_total_109 : decode cX4_total 109 = .ok (.aload_n 0, 1) := by decide +kernel
theorem dX4_total_110 : decode cX4_total 110 = .ok (.getfield 10, 3) := by decide +kernel
theorem dX4_total_113 : decode cX4_total 113 = .ok (.invokevirtual 253, 3) := by decide +kernel
theorem dX4_total_116 : decode cX4_total 116 = .ok (.ireturn, 1) := by decide +kernel
theorem dX4_total_117 : decode cX4_total 117 = .ok (.aload_n 0, 1) := by decide +kernel
theorem dX4_total_118 : decode cX4_total 118 = .ok (.getfield 10, 3) := by decide +kernel
theorem dX4_total_121 : decode cX4_total 121 = .ok (.getfield 75, 3) := by decide +kernel
theorem dX4_total_124 : decode cX4_total 124 = .ok (.ireturn, 1) := by decide +kernel
theorem dX4_total_125 : decode cX4_total 125 = .ok (.aload_n 0, 1) := by decide +kernel
theorem dX4_total_126 : decode cX4_total 126 = .ok (.getfield 10, 3) := by decide +kernel
theorem dX4_total_129 : decode cX4_total 129 = .ok (.getfield 256, 3) := by decide +kernel
theorem dX4_total_132 : decode cX4_total 132 = .ok (.ireturn, 1) := by decide +kernel
theorem dX4_total_133 : decode cX4_total 133 = .ok (.aload_n 0, 1) := by decide +kernel
theorem dX4_total_134 : decode cX4_total 134 = .ok (.getfield 19, 3) := by decide +kernel
theorem dX4_total_137 : decode cX4_total 137 = .ok (.getfield 140, 3) := by decide +kernel
theorem dX4_total_140 : decode cX4_total 140 = .ok (.ireturn, 1) := by decide +kernel
set_option maxRecDepth 20000 in
theorem ggX4_isClear_X0_isSeen : GoodIn wsX4_isClear wsX0_isSeen := goodIn_r _ [7, 8, 9, 10, 11, 6, 12, 13, 14, 15, 16, 17, 18, 19, 20, 44, 45, 46, 47, 48, 49, 50, 51, 52, 53] (by decide +kernel) (by decide +kernel)
set_option maxRecDepth 20000 in
theorem gX4_isClear_X0_isSeen : GoodIn wsX4_isClear (wsV RX4 223 RX0 yX0_isSeen wsX0_isSeen) := goodIn_app (goodIn_of _ (by decide +kernel)) ggX4_isClear_X0_isSeen
set_option maxRecDepth 20000 in
theorem ggX4_isClear_X2_readableSigns : GoodIn wsX4_isClear wsX2_readableSigns := goodIn_r _ [25, 26, 27, 28, 29, 24, 30, 31, 54, 55, 56, 57, 58, 59, 60, 61, 62, 63] (by decide +kernel) (by decide +kernel)
set_option maxRecDepth 20000 in
theorem gX4_isClear_X2_readableSigns : GoodIn wsX4_isClear (wsV RX4 229 RX2 yX2_readableSigns wsX2_readableSigns) := goodIn_app (goodIn_of _ (by decide +kernel)) ggX4_isClear_X2_readableSigns
set_option maxRecDepth 20000 in
theorem ggX4_isClear_J6_bitCount_0f7a4 : GoodIn wsX4_isClear wsJ6_bitCount_0f7a4 := goodIn_r _ [35, 36, 37, 38] (by decide +kernel) (by decide +kernel)
set_option maxRecDepth 20000 in
theorem gX4_isClear_J6_bitCount_0f7a4 : GoodIn wsX4_isClear (va_wsS RX4 259 yJ6_bitCount_0f7a4 wsJ6_bitCount_0f7a4) := goodIn_app (goodIn_of _ (by decide +kernel)) ggX4_isClear_J6_bitCount_0f7a4
theorem dX4_isClear_0 : decode cX4_isClear 0 = .ok (.aload_n 0, 1) := by decide +kernel
theorem dX4_isClear_1 : decode cX4_isClear 1 = .ok (.getfield 33, 3) := by decide +kernel
theorem dX4_isClear_4 : decode cX4_isClear 4 = .ok (.iload_n 1, 1) := by decide +kernel
theorem dX4_isClear_5 : decode cX4_isClear 5 = .ok (.invokevirtual 223, 3) := by decide +kernel
theorem dX4_isClear_8 : decode cX4_isClear 8 = .ok (.ifCond .eq 22, 3) := by decide +kernel
theorem dX4_isClear_11 : decode cX4_isClear 11 = .ok (.aload_n 0, 1) := by decide +kernel
theorem dX4_isClear_12 : decode cX4_isClear 12 = .ok (.getfield 10, 3) := by decide +kernel
theorem dX4_isClear_15 : decode cX4_isClear 15 = .ok (.iload_n 1, 1) := by decide +kernel
theorem dX4_isClear_16 : decode cX4_isClear 16 = .ok (.invokevirtual 229, 3) := by decide +kernel
theorem dX4_isClear_19 : decode cX4_isClear 19 = .ok (.invokestatic 259, 3) := by decide +kernel
theorem dX4_isClear_22 : decode cX4_isClear 22 = .ok (.iconst 1, 1) := by decide +kernel
theorem dX4_isClear_23 : decode cX4_isClear 23 = .ok (.if_icmp .ne 7, 3) := by decide +kernel
theorem dX4_isClear_26 : decode cX4_isClear 26 = .ok (.iconst 1, 1) := by decide +kernel
theorem dX4_isClear_27 : decode cX4_isClear 27 = .ok (.goto 4, 3) := by decide +kernel
theorem dX4_isClear_30 : decode cX4_isClear 30 = .ok (.iconst 0, 1) := by decide +kernel
theorem dX4_isClear_31 : decode cX4_isClear 31 = .ok (.ireturn, 1) := by decide +kernel
set_option maxRecDepth 20000 in
theorem ggX4_clearDigits_X4_isClear : GoodIn wsX4_clearDigits wsX4_isClear := goodIn_r _ [5, 6, 7, 8, 9, 10, 11, 12, 13, 14, 15, 16, 17, 18, 19, 20, 21, 22, 23, 24, 25, 26, 27, 28, 29, 30, 31, 32, 33, 34, 35, 36, 37, 38, 39, 40, 41, 42, 43, 44, 45, 46, 47, 48, 49, 50, 51, 52, 53, 54, 55, 56, 57, 58, 59, 60, 61, 62, 63, 64, 65, 66, 67, 68] (by decide +kernel) (by decide +kernel)
set_option maxRecDepth 20000 in
theorem gX4_clearDigits_X4_isClear : GoodIn wsX4_clearDigits (wsV RX4 226 RX4 yX4_isClear wsX4_isClear) := goodIn_app (goodIn_of _ (by decide +kernel)) ggX4_clearDigits_X4_isClear
theorem dX4_clearDigits_0 : decode cX4_clearDigits 0 = .ok (.iconst 0, 1) := by decide +kernel
theorem dX4_clearDigits_1 : decode cX4_clearDigits 1 = .ok (.istore_n 1, 1) := by decide +kernel
theorem dX4_clearDigits_2 : decode cX4_clearDigits 2 = .ok (.iconst 0, 1) := by decide +kernel
theorem dX4_clearDigits_3 : decode cX4_clearDigits 3 = .ok (.istore_n 2, 1) := by decide +kernel
theorem dX4_clearDigits_4 : decode cX4_clearDigits 4 = .ok (.iload_n 2, 1) := by decide +kernel
theorem dX4_clearDigits_5 : decode cX4_clearDigits 5 = .ok (.bipush 6, 2) := by decide +kernel
theorem dX4_clearDigits_7 : decode cX4_clearDigits 7 = .ok (.if_icmp .ge 20, 3) := by decide +kernel
theorem dX4_clearDigits_10 : decode cX4_clearDigits 10 = .ok (.aload_n 0, 1) := by decide +kernel
theorem dX4_clearDigits_11 : decode cX4_clearDigits 11 = .ok (.iload_n 2, 1) := by decide +kernel
theorem dX4_clearDigits_12 : decode cX4_clearDigits 12 = .ok (.invokevirtual 226, 3) := by decide +kernel
theorem dX4_clearDigits_15 : decode cX4_clearDigits 15 = .ok (.ifCond .eq 6, 3) := by decide +kernel
theorem dX4_clearDigits_18 : decode cX4_clearDigits 18 = .ok (.iinc 1 1, 3) := by decide +kernel
theorem dX4_clearDigits_21 : decode cX4_clearDigits 21 = .ok (.iinc 2 1, 3) := by decide +kernel
theorem dX4_clearDigits_24 : decode cX4_clearDigits 24 = .ok (.goto (-20), 3) := by decide +kernel
theorem dX4_clearDigits_27 : decode cX4_clearDigits 27 = .ok (.iload_n 1, 1) := by decide +kernel
theorem dX4_clearDigits_28 : decode cX4_clearDigits 28 = .ok (.ireturn, 1) := by decide +kernel
set_option maxRecDepth 20000 in
theorem ggX4_lightShare_X0_lightOf : GoodIn wsX4_lightShare wsX0_lightOf := goodIn_r _ [15, 16, 17, 33, 34, 35, 36, 37, 38, 39, 40, 41, 42] (by decide +kernel) (by decide +kernel)
set_option maxRecDepth 20000 in
theorem gX4_lightShare_X0_lightOf : GoodIn wsX4_lightShare (wsV RX4 214 RX0 yX0_lightOf wsX0_lightOf) := goodIn_app (goodIn_of _ (by decide +kernel)) ggX4_lightShare_X0_lightOf
theorem dX4_lightShare_0 : decode cX4_lightShare 0 = .ok (.sipush 1000, 3) := by decide +kernel
theorem dX4_lightShare_3 : decode cX4_lightShare 3 = .ok (.istore_n 1, 1) := by decide +kernel
theorem dX4_lightShare_4 : decode cX4_lightShare 4 = .ok (.iconst 0, 1) := by decide +kernel
theorem dX4_lightShare_5 : decode cX4_lightShare 5 = .ok (.istore_n 2, 1) := by decide +kernel
theorem dX4_lightShare_6 : decode cX4_lightShare 6 = .ok (.iconst 0, 1) := by decide +kernel
theorem dX4_lightShare_7 : decode cX4_lightShare 7 = .ok (.istore_n 3, 1) := by decide +kernel
theorem dX4_lightShare_8 : decode cX4_lightShare 8 = .ok (.iload_n 3, 1) := by decide +kernel
theorem dX4_lightShare_9 : decode cX4_lightShare 9 = .ok (.bipush 6, 2) := by decide +kernel
theorem dX4_lightShare_11 : decode cX4_lightShare 11 = .ok (.if_icmp .ge 45, 3) := by decide +kernel
theorem dX4_lightShare_14 : decode cX4_lightShare 14 = .ok (.aload_n 0, 1) := by decide +kernel
theorem dX4_lightShare_15 : decode cX4_lightShare 15 = .ok (.getfield 10, 3) := by decide +kernel
theorem dX4_lightShare_18 : decode cX4_lightShare 18 = .ok (.getfield 56, 3) := by decide +kernel
theorem dX4_lightShare_21 : decode cX4_lightShare 21 = .ok (.iload_n 3, 1) := by decide +kernel
theorem dX4_lightShare_22 : decode cX4_lightShare 22 = .ok (.iaload, 1) := by decide +kernel
theorem dX4_lightShare_23 : decode cX4_lightShare 23 = .ok (.ifCond .le 27, 3) := by decide +kernel
theorem dX4_lightShare_26 : decode cX4_lightShare 26 = .ok (.aload_n 0, 1) := by decide +kernel
theorem dX4_lightShare_27 : decode cX4_lightShare 27 = .ok (.getfield 33, 3) := by decide +kernel
theorem dX4_lightShare_30 : decode cX4_lightShare 30 = .ok (.iload_n 3, 1) := by decide +kernel
theorem dX4_lightShare_31 : decode cX4_lightShare 31 = .ok (.invokevirtual 214, 3) := by decide +kernel
theorem dX4_lightShare_34 : decode cX4_lightShare 34 = .ok (.istore 4, 2) := by decide +kernel
theorem dX4_lightShare_36 : decode cX4_lightShare 36 = .ok (.iload_n 1, 1) := by decide +kernel
theorem dX4_lightShare_37 : decode cX4_lightShare 37 = .ok (.iload 4, 2) := by decide +kernel
theorem dX4_lightShare_39 : decode cX4_lightShare 39 = .ok (.invokestatic 264, 3) := by decide +kernel
theorem dX4_lightShare_42 : decode cX4_lightShare 42 = .ok (.istore_n 1, 1) := by decide +kernel
theorem dX4_lightShare_43 : decode cX4_lightShare 43 = .ok (.iload_n 2, 1) := by decide +kernel
theorem dX4_lightShare_44 : decode cX4_lightShare 44 = .ok (.iload 4, 2) := by decide +kernel
theorem dX4_lightShare_46 : decode cX4_lightShare 46 = .ok (.invokestatic 269, 3) := by decide +kernel
theorem dX4_lightShare_49 : decode cX4_lightShare 49 = .ok (.istore_n 2, 1) := by decide +kernel
theorem dX4_lightShare_50 : decode cX4_lightShare 50 = .ok (.iinc 3 1, 3) := by decide +kernel
theorem dX4_lightShare_53 : decode cX4_lightShare 53 = .ok (.goto (-45), 3) := by decide +kernel
theorem dX4_lightShare_56 : decode cX4_lightShare 56 = .ok (.iload_n 2, 1) := by decide +kernel
theorem dX4_lightShare_57 : decode cX4_lightShare 57 = .ok (.ifCond .le 11, 3) := by decide +kernel
theorem dX4_lightShare_60 : decode cX4_lightShare 60 = .ok (.iload_n 1, 1) := by decide +kernel
theorem dX4_lightShare_61 : decode cX4_lightShare 61 = .ok (.i2d, 1) := by decide +kernel
theorem dX4_lightShare_62 : decode cX4_lightShare 62 = .ok (.iload_n 2, 1) := by decide +kernel
theorem dX4_lightShare_63 : decode cX4_lightShare 63 = .ok (.i2d, 1) := by decide +kernel
theorem dX4_lightShare_64 : decode cX4_lightShare 64 = .ok (.ddiv, 1) := by decide +kernel
theorem dX4_lightShare_65 : decode cX4_lightShare 65 = .ok (.goto 4, 3) := by decide +kernel
theorem dX4_lightShare_68 : decode cX4_lightShare 68 = .ok (.dconst 1, 1) := by decide +kernel
theorem dX4_lightShare_69 : decode cX4_lightShare 69 = .ok (.dreturn, 1) := by decide +kernel
theorem dX4_alikePairs_0 : decode cX4_alikePairs 0 = .ok (.aload_n 0, 1) := by decide +kernel
theorem dX4_alikePairs_1 : decode cX4_alikePairs 1 = .ok (.getfield 10, 3) := by decide +kernel
theorem dX4_alikePairs_4 : decode cX4_alikePairs 4 = .ok (.getfield 65, 3) := by decide +kernel
theorem dX4_alikePairs_7 : decode cX4_alikePairs 7 = .ok (.iload_n 1, 1) := by decide +kernel
theorem dX4_alikePairs_8 : decode cX4_alikePairs 8 = .ok (.iaload, 1) := by decide +kernel
theorem dX4_alikePairs_9 : decode cX4_alikePairs 9 = .ok (.iconst (-1), 1) := by decide +kernel
theorem dX4_alikePairs_10 : decode cX4_alikePairs 10 = .ok (.ixor, 1) := by decide +kernel
theorem dX4_alikePairs_11 : decode cX4_alikePairs 11 = .ok (.istore_n 2, 1) := by decide +kernel
theorem dX4_alikePairs_12 : decode cX4_alikePairs 12 = .ok (.iconst 0, 1) := by decide +kernel
theorem dX4_alikePairs_13 : decode cX4_alikePairs 13 = .ok (.istore_n 3, 1) := by decide +kernel
theorem dX4_alikePairs_14 : decode cX4_alikePairs 14 = .ok (.iconst 0, 1) := by decide +kernel
theorem dX4_alikePairs_15 : decode cX4_alikePairs 15 = .ok (.istore 4, 2) := by decide +kernel
theorem dX4_alikePairs_17 : decode cX4_alikePairs 17 = .ok (.iload 4, 2) := by decide +kernel
theorem dX4_alikePairs_19 : decode cX4_alikePairs 19 = .ok (.bipush 12, 2) := by decide +kernel
theorem dX4_alikePairs_21 : decode cX4_alikePairs 21 = .ok (.if_icmp .ge 50, 3) := by decide +kernel
theorem dX4_alikePairs_24 : decode cX4_alikePairs 24 = .ok (.iload 4, 2) := by decide +kernel
theorem dX4_alikePairs_26 : decode cX4_alikePairs 26 = .ok (.iconst 1, 1) := by decide +kernel
theorem dX4_alikePairs_27 : decode cX4_alikePairs 27 = .ok (.iadd, 1) := by decide +kernel
theorem dX4_alikePairs_28 : decode cX4_alikePairs 28 = .ok (.istore 5, 2) := by decide +kernel
theorem dX4_alikePairs_30 : decode cX4_alikePairs 30 = .ok (.iload 5, 2) := by decide +kernel
theorem dX4_alikePairs_32 : decode cX4_alikePairs 32 = .ok (.bipush 12, 2) := by decide +kernel
theorem dX4_alikePairs_34 : decode cX4_alikePairs 34 = .ok (.if_icmp .ge 31, 3) := by decide +kernel
theorem dX4_alikePairs_37 : decode cX4_alikePairs 37 = .ok (.getstatic 272, 3) := by decide +kernel
theorem dX4_alikePairs_40 : decode cX4_alikePairs 40 = .ok (.iload 4, 2) := by decide +kernel
theorem dX4_alikePairs_42 : decode cX4_alikePairs 42 = .ok (.iaload, 1) := by decide +kernel
theorem dX4_alikePairs_43 : decode cX4_alikePairs 43 = .ok (.iload_n 2, 1) := by decide +kernel
theorem dX4_alikePairs_44 : decode cX4_alikePairs 44 = .ok (.iand, 1) := by decide +kernel
theorem dX4_alikePairs_45 : decode cX4_alikePairs 45 = .ok (.getstatic 272, 3) := by decide +kernel
theorem dX4_alikePairs_48 : decode cX4_alikePairs 48 = .ok (.iload 5, 2) := by decide +kernel
theorem dX4_alikePairs_50 : decode cX4_alikePairs 50 = .ok (.iaload, 1) := by decide +kernel
theorem dX4_alikePairs_51 : decode cX4_alikePairs 51 = .ok (.iload_n 2, 1) := by decide +kernel
theorem dX4_alikePairs_52 : decode cX4_alikePairs 52 = .ok (.iand, 1) := by decide +kernel
theorem dX4_alikePairs_53 : decode cX4_alikePairs 53 = .ok (.if_icmp .ne 6, 3) := by decide +kernel
theorem dX4_alikePairs_56 : decode cX4_alikePairs 56 = .ok (.iinc 3 1, 3) := by decide +kernel
theorem dX4_alikePairs_59 : decode cX4_alikePairs 59 = .ok (.iinc 5 1, 3) := by decide +kernel
theorem dX4_alikePairs_62 : decode cX4_alikePairs 62 = .ok (.goto (-32), 3) := by decide +kernel
theorem dX4_alikePairs_65 : decode cX4_alikePairs 65 = .ok (.iinc 4 1, 3) := by decide +kernel
theorem dX4_alikePairs_68 : decode cX4_alikePairs 68 = .ok (.goto (-51), 3) := by decide +kernel
theorem dX4_alikePairs_71 : decode cX4_alikePairs 71 = .ok (.iload_n 3, 1) := by decide +kernel
theorem dX4_alikePairs_72 : decode cX4_alikePairs 72 = .ok (.ireturn, 1) := by decide +kernel
theorem dX4_requireDigit_0 : decode cX4_requireDigit 0 = .ok (.iload_n 0, 1) := by decide +kernel
theorem dX4_requireDigit_1 : decode cX4_requireDigit 1 = .ok (.ifCond .lt 9, 3) := by decide +kernel
theorem dX4_requireDigit_4 : decode cX4_requireDigit 4 = .ok (.iload_n 0, 1) := by decide +kernel
theorem dX4_requireDigit_5 : decode cX4_requireDigit 5 = .ok (.bipush 6, 2) := by decide +kernel
theorem dX4_requireDigit_7 : decode cX4_requireDigit 7 = .ok (.if_icmp .lt 14, 3) := by decide +kernel
theorem dX4_requireDigit_10 : decode cX4_requireDigit 10 = .ok (.new 275, 3) := by decide +kernel
theorem dX4_requireDigit_13 : decode cX4_requireDigit 13 = .ok (.dup, 1) := by decide +kernel
theorem dX4_requireDigit_14 : decode cX4_requireDigit 14 = .ok (.ldc_w 277, 3) := by decide +kernel
theorem dX4_requireDigit_17 : decode cX4_requireDigit 17 = .ok (.invokespecial 279, 3) := by decide +kernel
theorem dX4_requireDigit_20 : decode cX4_requireDigit 20 = .ok (.athrow, 1) := by decide +kernel
theorem dX4_requireDigit_21 : decode cX4_requireDigit 21 = .ok (.return_, 1) := by decide +kernel
theorem dX4_requireSegment_0 : decode cX4_requireSegment 0 = .ok (.iload_n 0, 1) := by decide +kernel
theorem dX4_requireSegment_1 : decode cX4_requireSegment 1 = .ok (.ifCond .lt 9, 3) := by decide +kernel
theorem dX4_requireSegment_4 : decode cX4_requireSegment 4 = .ok (.iload_n 0, 1) := by decide +kernel
theorem dX4_requireSegment_5 : decode cX4_requireSegment 5 = .ok (.bipush 7, 2) := by decide +kernel
theorem dX4_requireSegment_7 : decode cX4_requireSegment 7 = .ok (.if_icmp .lt 14, 3) := by decide +kernel
theorem dX4_requireSegment_10 : decode cX4_requireSegment 10 = .ok (.new 275, 3) := by decide +kernel
theorem dX4_requireSegment_13 : decode cX4_requireSegment 13 = .ok (.dup, 1) := by decide +kernel
theorem dX4_requireSegment_14 : decode cX4_requireSegment 14 = .ok (.ldc_w 280, 3) := by decide +kernel
theorem dX4_requireSegment_17 : decode cX4_requireSegment 17 = .ok (.invokespecial 279, 3) := by decide +kernel
theorem dX4_requireSegment_20 : decode cX4_requireSegment 20 = .ok (.athrow, 1) := by decide +kernel
theorem dX4_requireSegment_21 : decode cX4_requireSegment 21 = .ok (.return_, 1) := by decide +kernel
theorem dX4_requireSetting_0 : decode cX4_requireSetting 0 = .ok (.iload_n 0, 1) := by decide +kernel
theorem dX4_requireSetting_1 : decode cX4_requireSetting 1 = .ok (.ifCond .lt 8, 3) := by decide +kernel
theorem dX4_requireSetting_4 : decode cX4_requireSetting 4 = .ok (.iload_n 0, 1) := by decide +kernel
theorem dX4_requireSetting_5 : decode cX4_requireSetting 5 = .ok (.iconst 5, 1) := by decide +kernel
theorem dX4_requireSetting_6 : decode cX4_requireSetting 6 = .ok (.if_icmp .lt 14, 3) := by decide +kernel
theorem dX4_requireSetting_9 : decode cX4_requireSetting 9 = .ok (.new 275, 3) := by decide +kernel
theorem dX4_requireSetting_12 : decode cX4_requireSetting 12 = .ok (.dup, 1) := by decide +kernel
theorem dX4_requireSetting_13 : decode cX4_requireSetting 13 = .ok (.ldc_w 282, 3) := by decide +kernel
theorem dX4_requireSetting_16 : decode cX4_requireSetting 16 = .ok (.invokespecial 279, 3) := by decide +kernel
theorem dX4_requireSetting_19 : decode cX4_requireSetting 19 = .ok (.athrow, 1) := by decide +kernel
theorem dX4_requireSetting_20 : decode cX4_requireSetting 20 = .ok (.return_, 1) := by decide +kernel
theorem dX4_requireRange_0 : decode cX4_requireRange 0 = .ok (.iload_n 0, 1) := by decide +kernel
theorem dX4_requireRange_1 : decode cX4_requireRange 1 = .ok (.iload_n 1, 1) := by decide +kernel
theorem dX4_requireRange_2 : decode cX4_requireRange 2 = .ok (.if_icmp .lt 8, 3) := by decide +kernel
theorem dX4_requireRange_5 : decode cX4_requireRange 5 = .ok (.iload_n 0, 1) := by decide +kernel
theorem dX4_requireRange_6 : decode cX4_requireRange 6 = .ok (.iload_n 2, 1) := by decide +kernel
theorem dX4_requireRange_7 : decode cX4_requireRange 7 = .ok (.if_icmp .le 14, 3) := by decide +kernel
theorem dX4_requireRange_10 : decode cX4_requireRange 10 = .ok (.new 130, 3) := by decide +kernel
theorem dX4_requireRange_13 : decode cX4_requireRange 13 = .ok (.dup, 1) := by decide +kernel
theorem dX4_requireRange_14 : decode cX4_requireRange 14 = .ok (.ldc_w 284, 3) := by decide +kernel
theorem dX4_requireRange_17 : decode cX4_requireRange 17 = .ok (.invokespecial 134, 3) := by decide +kernel
theorem dX4_requireRange_20 : decode cX4_requireRange 20 = .ok (.athrow, 1) := by decide +kernel
theorem dX4_requireRange_21 : decode cX4_requireRange 21 = .ok (.return_, 1) := by decide +kernel
theorem dX4_wearPlace_0 : decode cX4_wearPlace 0 = .ok (.iload_n 0, 1) := by decide +kernel
theorem dX4_wearPlace_1 : decode cX4_wearPlace 1 = .ok (.bipush 7, 2) := by decide +kernel
theorem dX4_wearPlace_3 : decode cX4_wearPlace 3 = .ok (.imul, 1) := by decide +kernel
theorem dX4_wearPlace_4 : decode cX4_wearPlace 4 = .ok (.iload_n 1, 1) := by decide +kernel
theorem dX4_wearPlace_5 : decode cX4_wearPlace 5 = .ok (.iadd, 1) := by decide +kernel
theorem dX4_wearPlace_6 : decode cX4_wearPlace 6 = .ok (.ireturn, 1) := by decide +kernel
theorem dX4_magnitude_0 : decode cX4_magnitude 0 = .ok (.iload_n 0, 1) := by decide +kernel
theorem dX4_magnitude_1 : decode cX4_magnitude 1 = .ok (.ifCond .ge 9, 3) := by decide +kernel
theorem dX4_magnitude_4 : decode cX4_magnitude 4 = .ok (.iload_n 0, 1) := by decide +kernel
theorem dX4_magnitude_5 : decode cX4_magnitude 5 = .ok (.i2l, 1) := by decide +kernel
theorem dX4_magnitude_6 : decode cX4_magnitude 6 = .ok (.lneg, 1) := by decide +kernel
theorem dX4_magnitude_7 : decode cX4_magnitude 7 = .ok (.goto 5, 3) := by decide +kernel
theorem dX4_magnitude_10 : decode cX4_magnitude 10 = .ok (.iload_n 0, 1) := by decide +kernel
theorem dX4_magnitude_11 : decode cX4_magnitude 11 = .ok (.i2l, 1) := by decide +kernel
theorem dX4_magnitude_12 : decode cX4_magnitude 12 = .ok (.lreturn, 1) := by decide +kernel
set_option maxRecDepth 20000 in
theorem ggX4_numberLength_X4_magnitude : GoodIn wsX4_numberLength wsX4_magnitude := goodIn_r _ [5] (by decide +kernel) (by decide +kernel)
set_option maxRecDepth 20000 in
theorem gX4_numberLength_X4_magnitude : GoodIn wsX4_numberLength (va_wsS RX4 286 yX4_magnitude wsX4_magnitude) := goodIn_app (goodIn_of _ (by decide +kernel)) ggX4_numberLength_X4_magnitude
theorem dX4_numberLength_0 : decode cX4_numberLength 0 = .ok (.iload_n 0, 1) := by decide +kernel
theorem dX4_numberLength_1 : decode cX4_numberLength 1 = .ok (.ifCond .ge 7, 3) := by decide +kernel
theorem dX4_numberLength_4 : decode cX4_numberLength 4 = .ok (.iconst 2, 1) := by decide +kernel
theorem dX4_numberLength_5 : decode cX4_numberLength 5 = .ok (.goto 4, 3) := by decide +kernel
theorem dX4_numberLength_8 : decode cX4_numberLength 8 = .ok (.iconst 1, 1) := by decide +kernel
theorem dX4_numberLength_9 : decode cX4_numberLength 9 = .ok (.istore_n 1, 1) := by decide +kernel
theorem dX4_numberLength_10 : decode cX4_numberLength 10 = .ok (.iload_n 0, 1) := by decide +kernel
theorem dX4_numberLength_11 : decode cX4_numberLength 11 = .ok (.invokestatic 286, 3) := by decide +kernel
theorem dX4_numberLength_14 : decode cX4_numberLength 14 = .ok (.ldc2_w 290, 3) := by decide +kernel
theorem dX4_numberLength_17 : decode cX4_numberLength 17 = .ok (.ldiv, 1) := by decide +kernel
theorem dX4_numberLength_18 : decode cX4_numberLength 18 = .ok (.lstore_n 2, 1) := by decide +kernel
theorem dX4_numberLength_19 : decode cX4_numberLength 19 = .ok (.lload_n 2, 1) := by decide +kernel
theorem dX4_numberLength_20 : decode cX4_numberLength 20 = .ok (.lconst 0, 1) := by decide +kernel
theorem dX4_numberLength_21 : decode cX4_numberLength 21 = .ok (.lcmp, 1) := by decide +kernel
theorem dX4_numberLength_22 : decode cX4_numberLength 22 = .ok (.ifCond .le 21, 3) := by decide +kernel
theorem dX4_numberLength_25 : decode cX4_numberLength 25 = .ok (.iload_n 1, 1) := by decide +kernel
theorem dX4_numberLength_26 : decode cX4_numberLength 26 = .ok (.bipush 6, 2) := by decide +kernel
theorem dX4_numberLength_28 : decode cX4_numberLength 28 = .ok (.if_icmp .gt 15, 3) := by decide +kernel
theorem dX4_numberLength_31 : decode cX4_numberLength 31 = .ok (.lload_n 2, 1) := by decide +kernel
theorem dX4_numberLength_32 : decode cX4_numberLength 32 = .ok (.ldc2_w 290, 3) := by decide +kernel
theorem dX4_numberLength_35 : decode cX4_numberLength 35 = .ok (.ldiv, 1) := by decide +kernel
theorem dX4_numberLength_36 : decode cX4_numberLength 36 = .ok (.lstore_n 2, 1) := by decide +kernel
theorem dX4_numberLength_37 : decode cX4_numberLength 37 = .ok (.iinc 1 1, 3) := by decide +kernel
theorem dX4_numberLength_40 : decode cX4_numberLength 40 = .ok (.goto (-21), 3) := by decide +kernel
theorem dX4_numberLength_43 : decode cX4_numberLength 43 = .ok (.iload_n 1, 1) := by decide +kernel
theorem dX4_numberLength_44 : decode cX4_numberLength 44 = .ok (.ireturn, 1) := by decide +kernel
theorem dX4_giveSlot_0 : decode cX4_giveSlot 0 = .ok (.iconst 0, 1) := by decide +kernel
theorem dX4_giveSlot_1 : decode cX4_giveSlot 1 = .ok (.istore_n 2, 1) := by decide +kernel
theorem dX4_giveSlot_2 : decode cX4_giveSlot 2 = .ok (.iconst (-1), 1) := by decide +kernel
theorem dX4_giveSlot_3 : decode cX4_giveSlot 3 = .ok (.istore_n 3, 1) := by decide +kernel
theorem dX4_giveSlot_4 : decode cX4_giveSlot 4 = .ok (.iconst 0, 1) := by decide +kernel
theorem dX4_giveSlot_5 : decode cX4_giveSlot 5 = .ok (.istore 4, 2) := by decide +kernel
theorem dX4_giveSlot_7 : decode cX4_giveSlot 7 = .ok (.iload 4, 2) := by decide +kernel
theorem dX4_giveSlot_9 : decode cX4_giveSlot 9 = .ok (.bipush 6, 2) := by decide +kernel
theorem dX4_giveSlot_11 : decode cX4_giveSlot 11 = .ok (.if_icmp .ge 52, 3) := by decide +kernel
theorem dX4_giveSlot_14 : decode cX4_giveSlot 14 = .ok (.aload_n 1, 1) := by decide +kernel
theorem dX4_giveSlot_15 : decode cX4_giveSlot 15 = .ok (.iload 4, 2) := by decide +kernel
theorem dX4_giveSlot_17 : decode cX4_giveSlot 17 = .ok (.dup2, 1) := by decide +kernel
theorem dX4_giveSlot_18 : decode cX4_giveSlot 18 = .ok (.iaload, 1) := by decide +kernel
theorem dX4_giveSlot_19 : decode cX4_giveSlot 19 = .ok (.aload_n 0, 1) := by decide +kernel
theorem dX4_giveSlot_20 : decode cX4_giveSlot 20 = .ok (.iload 4, 2) := by decide +kernel
theorem dX4_giveSlot_22 : decode cX4_giveSlot 22 = .ok (.iaload, 1) := by decide +kernel
theorem dX4_giveSlot_23 : decode cX4_giveSlot 23 = .ok (.iadd, 1) := by decide +kernel
theorem dX4_giveSlot_24 : decode cX4_giveSlot 24 = .ok (.iastore, 1) := by decide +kernel
theorem dX4_giveSlot_25 : decode cX4_giveSlot 25 = .ok (.iload_n 2, 1) := by decide +kernel
theorem dX4_giveSlot_26 : decode cX4_giveSlot 26 = .ok (.aload_n 0, 1) := by decide +kernel
theorem dX4_giveSlot_27 : decode cX4_giveSlot 27 = .ok (.iload 4, 2) := by decide +kernel
theorem dX4_giveSlot_29 : decode cX4_giveSlot 29 = .ok (.iaload, 1) := by decide +kernel
theorem dX4_giveSlot_30 : decode cX4_giveSlot 30 = .ok (.iadd, 1) := by decide +kernel
theorem dX4_giveSlot_31 : decode cX4_giveSlot 31 = .ok (.istore_n 2, 1) := by decide +kernel
theorem dX4_giveSlot_32 : decode cX4_giveSlot 32 = .ok (.aload_n 0, 1) := by decide +kernel
theorem dX4_giveSlot_33 : decode cX4_giveSlot 33 = .ok (.iload 4, 2) := by decide +kernel
theorem dX4_giveSlot_35 : decode cX4_giveSlot 35 = .ok (.iaload, 1) := by decide +kernel
theorem dX4_giveSlot_36 : decode cX4_giveSlot 36 = .ok (.ifCond .le 21, 3) := by decide +kernel
theorem dX4_giveSlot_39 : decode cX4_giveSlot 39 = .ok (.iload_n 3, 1) := by decide +kernel
theorem dX4_giveSlot_40 : decode cX4_giveSlot 40 = .ok (.iconst (-1), 1) := by decide +kernel
theorem dX4_giveSlot_41 : decode cX4_giveSlot 41 = .ok (.if_icmp .eq 13, 3) := by decide +kernel
theorem dX4_giveSlot_44 : decode cX4_giveSlot 44 = .ok (.aload_n 1, 1) := by decide +kernel
theorem dX4_giveSlot_45 : decode cX4_giveSlot 45 = .ok (.iload 4, 2) := by decide +kernel
theorem dX4_giveSlot_47 : decode cX4_giveSlot 47 = .ok (.iaload, 1) := by decide +kernel
theorem dX4_giveSlot_48 : decode cX4_giveSlot 48 = .ok (.aload_n 1, 1) := by decide +kernel
theorem dX4_giveSlot_49 : decode cX4_giveSlot 49 = .ok (.iload_n 3, 1) := by decide +kernel
theorem dX4_giveSlot_50 : decode cX4_giveSlot 50 = .ok (.iaload, 1) := by decide +kernel
theorem dX4_giveSlot_51 : decode cX4_giveSlot 51 = .ok (.if_icmp .le 6, 3) := by decide +kernel
theorem dX4_giveSlot_54 : decode cX4_giveSlot 54 = .ok (.iload 4, 2) := by decide +kernel
theorem dX4_giveSlot_56 : decode cX4_giveSlot 56 = .ok (.istore_n 3, 1) := by decide +kernel
theorem dX4_giveSlot_57 : decode cX4_giveSlot 57 = .ok (.iinc 4 1, 3) := by decide +kernel
theorem dX4_giveSlot_60 : decode cX4_giveSlot 60 = .ok (.goto (-53), 3) := by decide +kernel
theorem dX4_giveSlot_63 : decode cX4_giveSlot 63 = .ok (.iload_n 3, 1) := by decide +kernel
theorem dX4_giveSlot_64 : decode cX4_giveSlot 64 = .ok (.iconst (-1), 1) := by decide +kernel
theorem dX4_giveSlot_65 : decode cX4_giveSlot 65 = .ok (.if_icmp .eq 10, 3) := by decide +kernel
theorem dX4_giveSlot_68 : decode cX4_giveSlot 68 = .ok (.aload_n 1, 1) := by decide +kernel
theorem dX4_giveSlot_69 : decode cX4_giveSlot 69 = .ok (.iload_n 3, 1) := by decide +kernel
theorem dX4_giveSlot_70 : decode cX4_giveSlot 70 = .ok (.dup2, 1) := by decide +kernel
theorem dX4_giveSlot_71 : decode cX4_giveSlot 71 = .ok (.iaload, 1) := by decide +kernel
theorem dX4_giveSlot_72 : decode cX4_giveSlot 72 = .ok (.iload_n 2, 1) := by decide +kernel
theorem dX4_giveSlot_73 : decode cX4_giveSlot 73 = .ok (.isub, 1) := by decide +kernel
theorem dX4_giveSlot_74 : decode cX4_giveSlot 74 = .ok (.iastore, 1) := by decide +kernel
theorem dX4_giveSlot_75 : decode cX4_giveSlot 75 = .ok (.iload_n 3, 1) := by decide +kernel
theorem dX4_giveSlot_76 : decode cX4_giveSlot 76 = .ok (.ireturn, 1) := by decide +kernel
theorem dX4_litIn_0 : decode cX4_litIn 0 = .ok (.iload_n 2, 1) := by decide +kernel
theorem dX4_litIn_1 : decode cX4_litIn 1 = .ok (.ifCond .eq 12, 3) := by decide +kernel
theorem dX4_litIn_4 : decode cX4_litIn 4 = .ok (.iload_n 0, 1) := by decide +kernel
theorem dX4_litIn_5 : decode cX4_litIn 5 = .ok (.iload_n 1, 1) := by decide +kernel
theorem dX4_litIn_6 : decode cX4_litIn 6 = .ok (.if_icmp .eq 7, 3) := by decide +kernel
theorem dX4_litIn_9 : decode cX4_litIn 9 = .ok (.iconst (-1), 1) := by decide +kernel
theorem dX4_litIn_10 : decode cX4_litIn 10 = .ok (.goto 4, 3) := by decide +kernel
theorem dX4_litIn_13 : decode cX4_litIn 13 = .ok (.iload_n 0, 1) := by decide +kernel
theorem dX4_litIn_14 : decode cX4_litIn 14 = .ok (.ireturn, 1) := by decide +kernel
