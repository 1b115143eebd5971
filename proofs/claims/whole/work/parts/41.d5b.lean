theorem dX5_run_0 : decode cX5_run 0 = .ok (.aload_n 0, 1) := by decide +kernel
theorem dX5_run_1 : decode cX5_run 1 = .ok (.iconst 0, 1) := by decide +kernel
theorem dX5_run_2 : decode cX5_run 2 = .ok (.putfield 37, 3) := by decide +kernel
theorem dX5_run_5 : decode cX5_run 5 = .ok (.iload_n 1, 1) := by decide +kernel
theorem dX5_run_6 : decode cX5_run 6 = .ok (.iconst 1, 1) := by decide +kernel
theorem dX5_run_7 : decode cX5_run 7 = .ok (.sipush 500, 3) := by decide +kernel
theorem dX5_run_10 : decode cX5_run 10 = .ok (.invokestatic 41, 3) := by decide +kernel
theorem dX5_run_13 : decode cX5_run 13 = .ok (.ifCond .ne 9, 3) := by decide +kernel
theorem dX5_run_16 : decode cX5_run 16 = .ok (.aload_n 0, 1) := by decide +kernel
theorem dX5_run_17 : decode cX5_run 17 = .ok (.iconst 1, 1) := by decide +kernel
theorem dX5_run_18 : decode cX5_run 18 = .ok (.invokevirtual 48, 3) := by decide +kernel
theorem dX5_run_21 : decode cX5_run 21 = .ok (.ireturn, 1) := by decide +kernel
theorem dX5_run_22 : decode cX5_run 22 = .ok (.aload_n 0, 1) := by decide +kernel
theorem dX5_run_23 : decode cX5_run 23 = .ok (.getfield 13, 3) := by decide +kernel
theorem dX5_run_26 : decode cX5_run 26 = .ok (.iconst 0, 1) := by decide +kernel
theorem dX5_run_27 : decode cX5_run 27 = .ok (.iaload, 1) := by decide +kernel
theorem dX5_run_28 : decode cX5_run 28 = .ok (.iload_n 1, 1) := by decide +kernel
theorem dX5_run_29 : decode cX5_run 29 = .ok (.iadd, 1) := by decide +kernel
theorem dX5_run_30 : decode cX5_run 30 = .ok (.ldc 116, 2) := by decide +kernel
theorem dX5_run_32 : decode cX5_run 32 = .ok (.if_icmp .le 9, 3) := by decide +kernel
theorem dX5_run_35 : decode cX5_run 35 = .ok (.aload_n 0, 1) := by decide +kernel
theorem dX5_run_36 : decode cX5_run 36 = .ok (.iconst 2, 1) := by decide +kernel
theorem dX5_run_37 : decode cX5_run 37 = .ok (.invokevirtual 48, 3) := by decide +kernel
theorem dX5_run_40 : decode cX5_run 40 = .ok (.ireturn, 1) := by decide +kernel
theorem dX5_run_41 : decode cX5_run 41 = .ok (.aload_n 0, 1) := by decide +kernel
theorem dX5_run_42 : decode cX5_run 42 = .ok (.invokevirtual 94, 3) := by decide +kernel
theorem dX5_run_45 : decode cX5_run 45 = .ok (.iconst 0, 1) := by decide +kernel
theorem dX5_run_46 : decode cX5_run 46 = .ok (.istore_n 2, 1) := by decide +kernel
theorem dX5_run_47 : decode cX5_run 47 = .ok (.iconst 0, 1) := by decide +kernel
theorem dX5_run_48 : decode cX5_run 48 = .ok (.istore_n 3, 1) := by decide +kernel
theorem dX5_run_49 : decode cX5_run 49 = .ok (.iload_n 3, 1) := by decide +kernel
theorem dX5_run_50 : decode cX5_run 50 = .ok (.iload_n 1, 1) := by decide +kernel
theorem dX5_run_51 : decode cX5_run 51 = .ok (.if_icmp .ge 16, 3) := by decide +kernel
theorem dX5_run_54 : decode cX5_run 54 = .ok (.iload_n 2, 1) := by decide +kernel
theorem dX5_run_55 : decode cX5_run 55 = .ok (.aload_n 0, 1) := by decide +kernel
theorem dX5_run_56 : decode cX5_run 56 = .ok (.invokevirtual 117, 3) := by decide +kernel
theorem dX5_run_59 : decode cX5_run 59 = .ok (.iadd, 1) := by decide +kernel
theorem dX5_run_60 : decode cX5_run 60 = .ok (.istore_n 2, 1) := by decide +kernel
theorem dX5_run_61 : decode cX5_run 61 = .ok (.iinc 3 1, 3) := by decide +kernel
theorem dX5_run_64 : decode cX5_run 64 = .ok (.goto (-15), 3) := by decide +kernel
theorem dX5_run_67 : decode cX5_run 67 = .ok (.iload_n 2, 1) := by decide +kernel
theorem dX5_run_68 : decode cX5_run 68 = .ok (.ireturn, 1) := by decide +kernel
set_option maxRecDepth 20000 in
theorem ggX5_append_X5_in : GoodIn wsX5_append wsX5_in := goodIn_r _ [7] (by decide +kernel) (by decide +kernel)
set_option maxRecDepth 20000 in
theorem gX5_append_X5_in : GoodIn wsX5_append (va_wsS RX5 41 yX5_in wsX5_in) := goodIn_app (goodIn_of _ (by decide +kernel)) ggX5_append_X5_in
set_option maxRecDepth 20000 in
theorem ggX5_append_X5_fails : GoodIn wsX5_append wsX5_fails := goodIn_r _ [11, 1, 12, 13, 14, 15, 16, 17, 18, 19, 20, 21, 22, 23, 24, 25, 26, 27] (by decide +kernel) (by decide +kernel)
set_option maxRecDepth 20000 in
theorem gX5_append_X5_fails : GoodIn wsX5_append (wsV RX5 48 RX5 yX5_fails wsX5_fails) := goodIn_app (goodIn_of _ (by decide +kernel)) ggX5_append_X5_fails
theorem dX5_append_0 : decode cX5_append 0 = .ok (.aload_n 0, 1) := by decide +kernel
theorem dX5_append_1 : decode cX5_append 1 = .ok (.iconst 0, 1) := by decide +kernel
theorem dX5_append_2 : decode cX5_append 2 = .ok (.putfield 37, 3) := by decide +kernel
theorem dX5_append_5 : decode cX5_append 5 = .ok (.iload_n 1, 1) := by decide +kernel
theorem dX5_append_6 : decode cX5_append 6 = .ok (.bipush 33, 2) := by decide +kernel
theorem dX5_append_8 : decode cX5_append 8 = .ok (.bipush 126, 2) := by decide +kernel
theorem dX5_append_10 : decode cX5_append 10 = .ok (.invokestatic 41, 3) := by decide +kernel
theorem dX5_append_13 : decode cX5_append 13 = .ok (.ifCond .ne 9, 3) := by decide +kernel
theorem dX5_append_16 : decode cX5_append 16 = .ok (.aload_n 0, 1) := by decide +kernel
theorem dX5_append_17 : decode cX5_append 17 = .ok (.iconst 1, 1) := by decide +kernel
theorem dX5_append_18 : decode cX5_append 18 = .ok (.invokevirtual 48, 3) := by decide +kernel
theorem dX5_append_21 : decode cX5_append 21 = .ok (.ireturn, 1) := by decide +kernel
theorem dX5_append_22 : decode cX5_append 22 = .ok (.aload_n 0, 1) := by decide +kernel
theorem dX5_append_23 : decode cX5_append 23 = .ok (.getfield 121, 3) := by decide +kernel
theorem dX5_append_26 : decode cX5_append 26 = .ok (.bipush 60, 2) := by decide +kernel
theorem dX5_append_28 : decode cX5_append 28 = .ok (.if_icmp .ne 9, 3) := by decide +kernel
theorem dX5_append_31 : decode cX5_append 31 = .ok (.aload_n 0, 1) := by decide +kernel
theorem dX5_append_32 : decode cX5_append 32 = .ok (.iconst 2, 1) := by decide +kernel
theorem dX5_append_33 : decode cX5_append 33 = .ok (.invokevirtual 48, 3) := by decide +kernel
theorem dX5_append_36 : decode cX5_append 36 = .ok (.ireturn, 1) := by decide +kernel
theorem dX5_append_37 : decode cX5_append 37 = .ok (.aload_n 0, 1) := by decide +kernel
theorem dX5_append_38 : decode cX5_append 38 = .ok (.getfield 22, 3) := by decide +kernel
theorem dX5_append_41 : decode cX5_append 41 = .ok (.aload_n 0, 1) := by decide +kernel
theorem dX5_append_42 : decode cX5_append 42 = .ok (.getfield 121, 3) := by decide +kernel
theorem dX5_append_45 : decode cX5_append 45 = .ok (.iload_n 1, 1) := by decide +kernel
theorem dX5_append_46 : decode cX5_append 46 = .ok (.iastore, 1) := by decide +kernel
theorem dX5_append_47 : decode cX5_append 47 = .ok (.aload_n 0, 1) := by decide +kernel
theorem dX5_append_48 : decode cX5_append 48 = .ok (.dup, 1) := by decide +kernel
theorem dX5_append_49 : decode cX5_append 49 = .ok (.getfield 121, 3) := by decide +kernel
theorem dX5_append_52 : decode cX5_append 52 = .ok (.iconst 1, 1) := by decide +kernel
theorem dX5_append_53 : decode cX5_append 53 = .ok (.iadd, 1) := by decide +kernel
theorem dX5_append_54 : decode cX5_append 54 = .ok (.putfield 121, 3) := by decide +kernel
theorem dX5_append_57 : decode cX5_append 57 = .ok (.aload_n 0, 1) := by decide +kernel
theorem dX5_append_58 : decode cX5_append 58 = .ok (.getfield 121, 3) := by decide +kernel
theorem dX5_append_61 : decode cX5_append 61 = .ok (.ireturn, 1) := by decide +kernel
theorem dX5_clearBuffer_0 : decode cX5_clearBuffer 0 = .ok (.aload_n 0, 1) := by decide +kernel
theorem dX5_clearBuffer_1 : decode cX5_clearBuffer 1 = .ok (.iconst 0, 1) := by decide +kernel
theorem dX5_clearBuffer_2 : decode cX5_clearBuffer 2 = .ok (.putfield 37, 3) := by decide +kernel
theorem dX5_clearBuffer_5 : decode cX5_clearBuffer 5 = .ok (.aload_n 0, 1) := by decide +kernel
theorem dX5_clearBuffer_6 : decode cX5_clearBuffer 6 = .ok (.getfield 121, 3) := by decide +kernel
theorem dX5_clearBuffer_9 : decode cX5_clearBuffer 9 = .ok (.istore_n 1, 1) := by decide +kernel
theorem dX5_clearBuffer_10 : decode cX5_clearBuffer 10 = .ok (.aload_n 0, 1) := by decide +kernel
theorem dX5_clearBuffer_11 : decode cX5_clearBuffer 11 = .ok (.iconst 0, 1) := by decide +kernel
theorem dX5_clearBuffer_12 : decode cX5_clearBuffer 12 = .ok (.putfield 121, 3) := by decide +kernel
theorem dX5_clearBuffer_15 : decode cX5_clearBuffer 15 = .ok (.iload_n 1, 1) := by decide +kernel
theorem dX5_clearBuffer_16 : decode cX5_clearBuffer 16 = .ok (.ireturn, 1) := by decide +kernel
set_option maxRecDepth 20000 in
theorem ggX5_isAt_X5_in : GoodIn wsX5_isAt wsX5_in := goodIn_r _ [7] (by decide +kernel) (by decide +kernel)
set_option maxRecDepth 20000 in
theorem gX5_isAt_X5_in : GoodIn wsX5_isAt (va_wsS RX5 41 yX5_in wsX5_in) := goodIn_app (goodIn_of _ (by decide +kernel)) ggX5_isAt_X5_in
theorem dX5_isAt_0 : decode cX5_isAt 0 = .ok (.aload_n 0, 1) := by decide +kernel
theorem dX5_isAt_1 : decode cX5_isAt 1 = .ok (.getfield 124, 3) := by decide +kernel
theorem dX5_isAt_4 : decode cX5_isAt 4 = .ok (.aload_n 0, 1) := by decide +kernel
theorem dX5_isAt_5 : decode cX5_isAt 5 = .ok (.getfield 121, 3) := by decide +kernel
theorem dX5_isAt_8 : decode cX5_isAt 8 = .ok (.if_icmp .ge 24, 3) := by decide +kernel
theorem dX5_isAt_11 : decode cX5_isAt 11 = .ok (.aload_n 0, 1) := by decide +kernel
theorem dX5_isAt_12 : decode cX5_isAt 12 = .ok (.getfield 22, 3) := by decide +kernel
theorem dX5_isAt_15 : decode cX5_isAt 15 = .ok (.aload_n 0, 1) := by decide +kernel
theorem dX5_isAt_16 : decode cX5_isAt 16 = .ok (.getfield 124, 3) := by decide +kernel
theorem dX5_isAt_19 : decode cX5_isAt 19 = .ok (.iaload, 1) := by decide +kernel
theorem dX5_isAt_20 : decode cX5_isAt 20 = .ok (.iload_n 1, 1) := by decide +kernel
theorem dX5_isAt_21 : decode cX5_isAt 21 = .ok (.iload_n 2, 1) := by decide +kernel
theorem dX5_isAt_22 : decode cX5_isAt 22 = .ok (.invokestatic 41, 3) := by decide +kernel
theorem dX5_isAt_25 : decode cX5_isAt 25 = .ok (.ifCond .eq 7, 3) := by decide +kernel
theorem dX5_isAt_28 : decode cX5_isAt 28 = .ok (.iconst 1, 1) := by decide +kernel
theorem dX5_isAt_29 : decode cX5_isAt 29 = .ok (.goto 4, 3) := by decide +kernel
theorem dX5_isAt_32 : decode cX5_isAt 32 = .ok (.iconst 0, 1) := by decide +kernel
theorem dX5_isAt_33 : decode cX5_isAt 33 = .ok (.ireturn, 1) := by decide +kernel
theorem dX5_stops_0 : decode cX5_stops 0 = .ok (.aload_n 0, 1) := by decide +kernel
theorem dX5_stops_1 : decode cX5_stops 1 = .ok (.aload_n 0, 1) := by decide +kernel
theorem dX5_stops_2 : decode cX5_stops 2 = .ok (.getfield 124, 3) := by decide +kernel
theorem dX5_stops_5 : decode cX5_stops 5 = .ok (.aload_n 0, 1) := by decide +kernel
theorem dX5_stops_6 : decode cX5_stops 6 = .ok (.getfield 121, 3) := by decide +kernel
theorem dX5_stops_9 : decode cX5_stops 9 = .ok (.if_icmp .ge 7, 3) := by decide +kernel
theorem dX5_stops_12 : decode cX5_stops 12 = .ok (.iconst 1, 1) := by decide +kernel
theorem dX5_stops_13 : decode cX5_stops 13 = .ok (.goto 4, 3) := by decide +kernel
theorem dX5_stops_16 : decode cX5_stops 16 = .ok (.iconst 0, 1) := by decide +kernel
theorem dX5_stops_17 : decode cX5_stops 17 = .ok (.putfield 127, 3) := by decide +kernel
theorem dX5_stops_20 : decode cX5_stops 20 = .ok (.iconst 0, 1) := by decide +kernel
theorem dX5_stops_21 : decode cX5_stops 21 = .ok (.ireturn, 1) := by decide +kernel
set_option maxRecDepth 20000 in
theorem ggX5_isPart_X5_isAt : GoodIn wsX5_isPart wsX5_isAt := goodIn_r _ [9, 4, 10, 3, 11, 12, 8, 13, 19, 20, 21, 22, 23, 24, 25, 26, 27, 28, 29, 30, 31, 32, 33, 34] (by decide +kernel) (by decide +kernel)
set_option maxRecDepth 20000 in
theorem gX5_isPart_X5_isAt : GoodIn wsX5_isPart (wsV RX5 131 RX5 yX5_isAt wsX5_isAt) := goodIn_app (goodIn_of _ (by decide +kernel)) ggX5_isPart_X5_isAt
set_option maxRecDepth 20000 in
theorem ggX5_isPart_X5_stops : GoodIn wsX5_isPart wsX5_stops := goodIn_r _ [17, 4, 10, 18, 19, 20, 21, 22, 23, 24, 25, 26, 27, 28, 29, 30, 31, 32, 33, 34] (by decide +kernel) (by decide +kernel)
set_option maxRecDepth 20000 in
theorem gX5_isPart_X5_stops : GoodIn wsX5_isPart (wsV RX5 134 RX5 yX5_stops wsX5_stops) := goodIn_app (goodIn_of _ (by decide +kernel)) ggX5_isPart_X5_stops
theorem dX5_isPart_0 : decode cX5_isPart 0 = .ok (.aload_n 0, 1) := by decide +kernel
theorem dX5_isPart_1 : decode cX5_isPart 1 = .ok (.bipush 48, 2) := by decide +kernel
theorem dX5_isPart_3 : decode cX5_isPart 3 = .ok (.bipush 57, 2) := by decide +kernel
theorem dX5_isPart_5 : decode cX5_isPart 5 = .ok (.invokevirtual 131, 3) := by decide +kernel
theorem dX5_isPart_8 : decode cX5_isPart 8 = .ok (.istore_n 1, 1) := by decide +kernel
theorem dX5_isPart_9 : decode cX5_isPart 9 = .ok (.iload_n 1, 1) := by decide +kernel
theorem dX5_isPart_10 : decode cX5_isPart 10 = .ok (.ifCond .ne 30, 3) := by decide +kernel
theorem dX5_isPart_13 : decode cX5_isPart 13 = .ok (.aload_n 0, 1) := by decide +kernel
theorem dX5_isPart_14 : decode cX5_isPart 14 = .ok (.bipush 45, 2) := by decide +kernel
theorem dX5_isPart_16 : decode cX5_isPart 16 = .ok (.bipush 45, 2) := by decide +kernel
theorem dX5_isPart_18 : decode cX5_isPart 18 = .ok (.invokevirtual 131, 3) := by decide +kernel
theorem dX5_isPart_21 : decode cX5_isPart 21 = .ok (.ifCond .ne 19, 3) := by decide +kernel
theorem dX5_isPart_24 : decode cX5_isPart 24 = .ok (.aload_n 0, 1) := by decide +kernel
theorem dX5_isPart_25 : decode cX5_isPart 25 = .ok (.bipush 95, 2) := by decide +kernel
theorem dX5_isPart_27 : decode cX5_isPart 27 = .ok (.bipush 95, 2) := by decide +kernel
theorem dX5_isPart_29 : decode cX5_isPart 29 = .ok (.invokevirtual 131, 3) := by decide +kernel
theorem dX5_isPart_32 : decode cX5_isPart 32 = .ok (.ifCond .ne 8, 3) := by decide +kernel
theorem dX5_isPart_35 : decode cX5_isPart 35 = .ok (.aload_n 0, 1) := by decide +kernel
theorem dX5_isPart_36 : decode cX5_isPart 36 = .ok (.invokevirtual 134, 3) := by decide +kernel
theorem dX5_isPart_39 : decode cX5_isPart 39 = .ok (.ireturn, 1) := by decide +kernel
theorem dX5_isPart_40 : decode cX5_isPart 40 = .ok (.aload_n 0, 1) := by decide +kernel
theorem dX5_isPart_41 : decode cX5_isPart 41 = .ok (.getfield 25, 3) := by decide +kernel
theorem dX5_isPart_44 : decode cX5_isPart 44 = .ok (.iconst 2, 1) := by decide +kernel
theorem dX5_isPart_45 : decode cX5_isPart 45 = .ok (.aload_n 0, 1) := by decide +kernel
theorem dX5_isPart_46 : decode cX5_isPart 46 = .ok (.getfield 138, 3) := by decide +kernel
theorem dX5_isPart_49 : decode cX5_isPart 49 = .ok (.imul, 1) := by decide +kernel
theorem dX5_isPart_50 : decode cX5_isPart 50 = .ok (.iload_n 1, 1) := by decide +kernel
theorem dX5_isPart_51 : decode cX5_isPart 51 = .ok (.ifCond .eq 18, 3) := by decide +kernel
theorem dX5_isPart_54 : decode cX5_isPart 54 = .ok (.aload_n 0, 1) := by decide +kernel
theorem dX5_isPart_55 : decode cX5_isPart 55 = .ok (.getfield 22, 3) := by decide +kernel
theorem dX5_isPart_58 : decode cX5_isPart 58 = .ok (.aload_n 0, 1) := by decide +kernel
theorem dX5_isPart_59 : decode cX5_isPart 59 = .ok (.getfield 124, 3) := by decide +kernel
theorem dX5_isPart_62 : decode cX5_isPart 62 = .ok (.iaload, 1) := by decide +kernel
theorem dX5_isPart_63 : decode cX5_isPart 63 = .ok (.bipush 48, 2) := by decide +kernel
theorem dX5_isPart_65 : decode cX5_isPart 65 = .ok (.isub, 1) := by decide +kernel
theorem dX5_isPart_66 : decode cX5_isPart 66 = .ok (.goto 21, 3) := by decide +kernel
theorem dX5_isPart_69 : decode cX5_isPart 69 = .ok (.aload_n 0, 1) := by decide +kernel
theorem dX5_isPart_70 : decode cX5_isPart 70 = .ok (.bipush 45, 2) := by decide +kernel
theorem dX5_isPart_72 : decode cX5_isPart 72 = .ok (.bipush 45, 2) := by decide +kernel
theorem dX5_isPart_74 : decode cX5_isPart 74 = .ok (.invokevirtual 131, 3) := by decide +kernel
theorem dX5_isPart_77 : decode cX5_isPart 77 = .ok (.ifCond .eq 8, 3) := by decide +kernel
theorem dX5_isPart_80 : decode cX5_isPart 80 = .ok (.bipush 10, 2) := by decide +kernel
theorem dX5_isPart_82 : decode cX5_isPart 82 = .ok (.goto 5, 3) := by decide +kernel
theorem dX5_isPart_85 : decode cX5_isPart 85 = .ok (.bipush 11, 2) := by decide +kernel
theorem dX5_isPart_87 : decode cX5_isPart 87 = .ok (.iastore, 1) := by decide +kernel
theorem dX5_isPart_88 : decode cX5_isPart 88 = .ok (.aload_n 0, 1) := by decide +kernel
theorem dX5_isPart_89 : decode cX5_isPart 89 = .ok (.getfield 25, 3) := by decide +kernel
theorem dX5_isPart_92 : decode cX5_isPart 92 = .ok (.iconst 2, 1) := by decide +kernel
theorem dX5_isPart_93 : decode cX5_isPart 93 = .ok (.aload_n 0, 1) := by decide +kernel
theorem dX5_isPart_94 : decode cX5_isPart 94 = .ok (.getfield 138, 3) := by decide +kernel
theorem dX5_isPart_97 : decode cX5_isPart 97 = .ok (.imul, 1) := by decide +kernel
theorem dX5_isPart_98 : decode cX5_isPart 98 = .ok (.iconst 1, 1) := by decide +kernel
theorem dX5_isPart_99 : decode cX5_isPart 99 = .ok (.iadd, 1) := by decide +kernel
theorem dX5_isPart_100 : decode cX5_isPart 100 = .ok (.iconst (-1), 1) := by decide +kernel
theorem dX5_isPart_101 : decode cX5_isPart 101 = .ok (.iastore, 1) := by decide +kernel
theorem dX5_isPart_102 : decode cX5_isPart 102 = .ok (.aload_n 0, 1) := by decide +kernel
theorem dX5_isPart_103 : decode cX5_isPart 103 = .ok (.dup, 1) := by decide +kernel
theorem dX5_isPart_104 : decode cX5_isPart 104 = .ok (.getfield 124, 3) := by decide +kernel
theorem dX5_isPart_107 : decode cX5_isPart 107 = .ok (.iconst 1, 1) := by decide +kernel
theorem dX5_isPart_108 : decode cX5_isPart 108 = .ok (.iadd, 1) := by decide +kernel
theorem dX5_isPart_109 : decode cX5_isPart 109 = .ok (.putfield 124, 3) := by decide +kernel
theorem dX5_isPart_112 : decode cX5_isPart 112 = .ok (.aload_n 0, 1) := by decide +kernel
theorem dX5_isPart_113 : decode cX5_isPart 113 = .ok (.bipush 42, 2) := by decide +kernel
theorem dX5_isPart_115 : decode cX5_isPart 115 = .ok (.bipush 42, 2) := by decide +kernel
theorem dX5_isPart_117 : decode cX5_isPart 117 = .ok (.invokevirtual 131, 3) := by decide +kernel
theorem dX5_isPart_120 : decode cX5_isPart 120 = .ok (.ifCond .ne 5, 3) := by decide +kernel
theorem dX5_isPart_123 : decode cX5_isPart 123 = .ok (.iconst 1, 1) := by decide +kernel
theorem dX5_isPart_124 : decode cX5_isPart 124 = .ok (.ireturn, 1) := by decide +kernel
theorem dX5_isPart_125 : decode cX5_isPart 125 = .ok (.aload_n 0, 1) := by decide +kernel
theorem dX5_isPart_126 : decode cX5_isPart 126 = .ok (.dup, 1) := by decide +kernel
theorem dX5_isPart_127 : decode cX5_isPart 127 = .ok (.getfield 124, 3) := by decide +kernel
theorem dX5_isPart_130 : decode cX5_isPart 130 = .ok (.iconst 1, 1) := by decide +kernel
theorem dX5_isPart_131 : decode cX5_isPart 131 = .ok (.iadd, 1) := by decide +kernel
theorem dX5_isPart_132 : decode cX5_isPart 132 = .ok (.putfield 124, 3) := by decide +kernel
theorem dX5_isPart_135 : decode cX5_isPart 135 = .ok (.aload_n 0, 1) := by decide +kernel
theorem dX5_isPart_136 : decode cX5_isPart 136 = .ok (.bipush 48, 2) := by decide +kernel
theorem dX5_isPart_138 : decode cX5_isPart 138 = .ok (.bipush 57, 2) := by decide +kernel
theorem dX5_isPart_140 : decode cX5_isPart 140 = .ok (.invokevirtual 131, 3) := by decide +kernel
theorem dX5_isPart_143 : decode cX5_isPart 143 = .ok (.ifCond .ne 8, 3) := by decide +kernel
theorem dX5_isPart_146 : decode cX5_isPart 146 = .ok (.aload_n 0, 1) := by decide +kernel
theorem dX5_isPart_147 : decode cX5_isPart 147 = .ok (.invokevirtual 134, 3) := by decide +kernel
theorem dX5_isPart_150 : decode cX5_isPart 150 = .ok (.ireturn, 1) := by decide +kernel
theorem dX5_isPart_151 : decode cX5_isPart 151 = .ok (.aload_n 0, 1) := by decide +kernel
theorem dX5_isPart_152 : decode cX5_isPart 152 = .ok (.getfield 22, 3) := by decide +kernel
theorem dX5_isPart_155 : decode cX5_isPart 155 = .ok (.aload_n 0, 1) := by decide +kernel
theorem dX5_isPart_156 : decode cX5_isPart 156 = .ok (.getfield 124, 3) := by decide +kernel
theorem dX5_isPart_159 : decode cX5_isPart 159 = .ok (.iaload, 1) := by decide +kernel
theorem dX5_isPart_160 : decode cX5_isPart 160 = .ok (.bipush 48, 2) := by decide +kernel
theorem dX5_isPart_162 : decode cX5_isPart 162 = .ok (.isub, 1) := by decide +kernel
theorem dX5_isPart_163 : decode cX5_isPart 163 = .ok (.istore_n 2, 1) := by decide +kernel
theorem dX5_isPart_164 : decode cX5_isPart 164 = .ok (.aload_n 0, 1) := by decide +kernel
theorem dX5_isPart_165 : decode cX5_isPart 165 = .ok (.dup, 1) := by decide +kernel
theorem dX5_isPart_166 : decode cX5_isPart 166 = .ok (.getfield 124, 3) := by decide +kernel
theorem dX5_isPart_169 : decode cX5_isPart 169 = .ok (.iconst 1, 1) := by decide +kernel
theorem dX5_isPart_170 : decode cX5_isPart 170 = .ok (.iadd, 1) := by decide +kernel
theorem dX5_isPart_171 : decode cX5_isPart 171 = .ok (.putfield 124, 3) := by decide +kernel
theorem dX5_isPart_174 : decode cX5_isPart 174 = .ok (.iload_n 2, 1) := by decide +kernel
theorem dX5_isPart_175 : decode cX5_isPart 175 = .ok (.iconst 1, 1) := by decide +kernel
theorem dX5_isPart_176 : decode cX5_isPart 176 = .ok (.if_icmp .ne 40, 3) := by decide +kernel
theorem dX5_isPart_179 : decode cX5_isPart 179 = .ok (.aload_n 0, 1) := by decide +kernel
theorem dX5_isPart_180 : decode cX5_isPart 180 = .ok (.bipush 48, 2) := by decide +kernel
theorem dX5_isPart_182 : decode cX5_isPart 182 = .ok (.bipush 53, 2) := by decide +kernel
theorem dX5_isPart_184 : decode cX5_isPart 184 = .ok (.invokevirtual 131, 3) := by decide +kernel
theorem dX5_isPart_187 : decode cX5_isPart 187 = .ok (.ifCond .eq 29, 3) := by decide +kernel
theorem dX5_isPart_190 : decode cX5_isPart 190 = .ok (.bipush 10, 2) := by decide +kernel
theorem dX5_isPart_192 : decode cX5_isPart 192 = .ok (.aload_n 0, 1) := by decide +kernel
theorem dX5_isPart_193 : decode cX5_isPart 193 = .ok (.getfield 22, 3) := by decide +kernel
theorem dX5_isPart_196 : decode cX5_isPart 196 = .ok (.aload_n 0, 1) := by decide +kernel
theorem dX5_isPart_197 : decode cX5_isPart 197 = .ok (.getfield 124, 3) := by decide +kernel
theorem dX5_isPart_200 : decode cX5_isPart 200 = .ok (.iaload, 1) := by decide +kernel
theorem dX5_isPart_201 : decode cX5_isPart 201 = .ok (.iadd, 1) := by decide +kernel
theorem dX5_isPart_202 : decode cX5_isPart 202 = .ok (.bipush 48, 2) := by decide +kernel
theorem dX5_isPart_204 : decode cX5_isPart 204 = .ok (.isub, 1) := by decide +kernel
theorem dX5_isPart_205 : decode cX5_isPart 205 = .ok (.istore_n 2, 1) := by decide +kernel
theorem dX5_isPart_206 : decode cX5_isPart 206 = .ok (.aload_n 0, 1) := by decide +kernel
theorem dX5_isPart_207 : decode cX5_isPart 207 = .ok (.dup, 1) := by decide +kernel
theorem dX5_isPart_208 : decode cX5_isPart 208 = .ok (.getfield 124, 3) := by decide +kernel
theorem dX5_isPart_211 : decode cX5_isPart 211 = .ok (.iconst 1, 1) := by decide +kernel
theorem dX5_isPart_212 : decode cX5_isPart 212 = .ok (.iadd, 1) := by decide +kernel
theorem dX5_isPart_213 : decode cX5_isPart 213 = .ok (.putfield 124, 3) := by decide +kernel
theorem dX5_isPart_216 : decode cX5_isPart 216 = .ok (.aload_n 0, 1) := by decide +kernel
theorem dX5_isPart_217 : decode cX5_isPart 217 = .ok (.getfield 25, 3) := by decide +kernel
theorem dX5_isPart_220 : decode cX5_isPart 220 = .ok (.iconst 2, 1) := by decide +kernel
theorem dX5_isPart_221 : decode cX5_isPart 221 = .ok (.aload_n 0, 1) := by decide +kernel
theorem dX5_isPart_222 : decode cX5_isPart 222 = .ok (.getfield 138, 3) := by decide +kernel
theorem dX5_isPart_225 : decode cX5_isPart 225 = .ok (.imul, 1) := by decide +kernel
theorem dX5_isPart_226 : decode cX5_isPart 226 = .ok (.iconst 1, 1) := by decide +kernel
theorem dX5_isPart_227 : decode cX5_isPart 227 = .ok (.iadd, 1) := by decide +kernel
theorem dX5_isPart_228 : decode cX5_isPart 228 = .ok (.iload_n 2, 1) := by decide +kernel
theorem dX5_isPart_229 : decode cX5_isPart 229 = .ok (.iastore, 1) := by decide +kernel
theorem dX5_isPart_230 : decode cX5_isPart 230 = .ok (.iconst 1, 1) := by decide +kernel
theorem dX5_isPart_231 : decode cX5_isPart 231 = .ok (.ireturn, 1) := by decide +kernel
set_option maxRecDepth 20000 in
theorem ggX5_isText_X5_isPart : GoodIn wsX5_isText wsX5_isPart := goodIn_r _ [9, 10, 2, 11, 1, 12, 13, 14, 8, 15, 4, 16, 17, 18, 19, 20, 21, 22, 3, 23, 24, 25, 26, 27, 28, 29, 30, 31, 32, 33, 34, 35, 36, 37, 38] (by decide +kernel) (by decide +kernel)
set_option maxRecDepth 20000 in
theorem gX5_isText_X5_isPart : GoodIn wsX5_isText (wsV RX5 141 RX5 yX5_isPart wsX5_isPart) := goodIn_app (goodIn_of _ (by decide +kernel)) ggX5_isText_X5_isPart
theorem dX5_isText_0 : decode cX5_isText 0 = .ok (.aload_n 0, 1) := by decide +kernel
theorem dX5_isText_1 : decode cX5_isText 1 = .ok (.iconst 0, 1) := by decide +kernel
theorem dX5_isText_2 : decode cX5_isText 2 = .ok (.putfield 124, 3) := by decide +kernel
theorem dX5_isText_5 : decode cX5_isText 5 = .ok (.aload_n 0, 1) := by decide +kernel
theorem dX5_isText_6 : decode cX5_isText 6 = .ok (.iconst 0, 1) := by decide +kernel
theorem dX5_isText_7 : decode cX5_isText 7 = .ok (.putfield 138, 3) := by decide +kernel
theorem dX5_isText_10 : decode cX5_isText 10 = .ok (.aload_n 0, 1) := by decide +kernel
theorem dX5_isText_11 : decode cX5_isText 11 = .ok (.iconst 0, 1) := by decide +kernel
theorem dX5_isText_12 : decode cX5_isText 12 = .ok (.putfield 127, 3) := by decide +kernel
theorem dX5_isText_15 : decode cX5_isText 15 = .ok (.iconst 1, 1) := by decide +kernel
theorem dX5_isText_16 : decode cX5_isText 16 = .ok (.istore_n 1, 1) := by decide +kernel
theorem dX5_isText_17 : decode cX5_isText 17 = .ok (.iload_n 1, 1) := by decide +kernel
theorem dX5_isText_18 : decode cX5_isText 18 = .ok (.ifCond .eq 51, 3) := by decide +kernel
theorem dX5_isText_21 : decode cX5_isText 21 = .ok (.aload_n 0, 1) := by decide +kernel
theorem dX5_isText_22 : decode cX5_isText 22 = .ok (.invokevirtual 141, 3) := by decide +kernel
theorem dX5_isText_25 : decode cX5_isText 25 = .ok (.ifCond .ne 5, 3) := by decide +kernel
theorem dX5_isText_28 : decode cX5_isText 28 = .ok (.iconst 0, 1) := by decide +kernel
theorem dX5_isText_29 : decode cX5_isText 29 = .ok (.ireturn, 1) := by decide +kernel
theorem dX5_isText_30 : decode cX5_isText 30 = .ok (.aload_n 0, 1) := by decide +kernel
theorem dX5_isText_31 : decode cX5_isText 31 = .ok (.dup, 1) := by decide +kernel
theorem dX5_isText_32 : decode cX5_isText 32 = .ok (.getfield 138, 3) := by decide +kernel
theorem dX5_isText_35 : decode cX5_isText 35 = .ok (.iconst 1, 1) := by decide +kernel
theorem dX5_isText_36 : decode cX5_isText 36 = .ok (.iadd, 1) := by decide +kernel
theorem dX5_isText_37 : decode cX5_isText 37 = .ok (.putfield 138, 3) := by decide +kernel
theorem dX5_isText_40 : decode cX5_isText 40 = .ok (.aload_n 0, 1) := by decide +kernel
theorem dX5_isText_41 : decode cX5_isText 41 = .ok (.getfield 138, 3) := by decide +kernel
theorem dX5_isText_44 : decode cX5_isText 44 = .ok (.bipush 6, 2) := by decide +kernel
theorem dX5_isText_46 : decode cX5_isText 46 = .ok (.if_icmp .ge 18, 3) := by decide +kernel
theorem dX5_isText_49 : decode cX5_isText 49 = .ok (.aload_n 0, 1) := by decide +kernel
theorem dX5_isText_50 : decode cX5_isText 50 = .ok (.getfield 124, 3) := by decide +kernel
theorem dX5_isText_53 : decode cX5_isText 53 = .ok (.aload_n 0, 1) := by decide +kernel
theorem dX5_isText_54 : decode cX5_isText 54 = .ok (.getfield 121, 3) := by decide +kernel
theorem dX5_isText_57 : decode cX5_isText 57 = .ok (.if_icmp .ge 7, 3) := by decide +kernel
theorem dX5_isText_60 : decode cX5_isText 60 = .ok (.iconst 1, 1) := by decide +kernel
theorem dX5_isText_61 : decode cX5_isText 61 = .ok (.goto 4, 3) := by decide +kernel
theorem dX5_isText_64 : decode cX5_isText 64 = .ok (.iconst 0, 1) := by decide +kernel
theorem dX5_isText_65 : decode cX5_isText 65 = .ok (.istore_n 1, 1) := by decide +kernel
theorem dX5_isText_66 : decode cX5_isText 66 = .ok (.goto (-49), 3) := by decide +kernel
theorem dX5_isText_69 : decode cX5_isText 69 = .ok (.aload_n 0, 1) := by decide +kernel
theorem dX5_isText_70 : decode cX5_isText 70 = .ok (.aload_n 0, 1) := by decide +kernel
theorem dX5_isText_71 : decode cX5_isText 71 = .ok (.getfield 124, 3) := by decide +kernel
theorem dX5_isText_74 : decode cX5_isText 74 = .ok (.aload_n 0, 1) := by decide +kernel
theorem dX5_isText_75 : decode cX5_isText 75 = .ok (.getfield 121, 3) := by decide +kernel
theorem dX5_isText_78 : decode cX5_isText 78 = .ok (.if_icmp .ge 7, 3) := by decide +kernel
theorem dX5_isText_81 : decode cX5_isText 81 = .ok (.iconst 1, 1) := by decide +kernel
theorem dX5_isText_82 : decode cX5_isText 82 = .ok (.goto 4, 3) := by decide +kernel
theorem dX5_isText_85 : decode cX5_isText 85 = .ok (.iconst 0, 1) := by decide +kernel
theorem dX5_isText_86 : decode cX5_isText 86 = .ok (.putfield 127, 3) := by decide +kernel
theorem dX5_isText_89 : decode cX5_isText 89 = .ok (.aload_n 0, 1) := by decide +kernel
theorem dX5_isText_90 : decode cX5_isText 90 = .ok (.getfield 124, 3) := by decide +kernel
theorem dX5_isText_93 : decode cX5_isText 93 = .ok (.aload_n 0, 1) := by decide +kernel
theorem dX5_isText_94 : decode cX5_isText 94 = .ok (.getfield 121, 3) := by decide +kernel
theorem dX5_isText_97 : decode cX5_isText 97 = .ok (.if_icmp .ne 7, 3) := by decide +kernel
theorem dX5_isText_100 : decode cX5_isText 100 = .ok (.iconst 1, 1) := by decide +kernel
theorem dX5_isText_101 : decode cX5_isText 101 = .ok (.goto 4, 3) := by decide +kernel
theorem dX5_isText_104 : decode cX5_isText 104 = .ok (.iconst 0, 1) := by decide +kernel
theorem dX5_isText_105 : decode cX5_isText 105 = .ok (.ireturn, 1) := by decide +kernel
set_option maxRecDepth 20000 in
theorem ggX5_firstError_X5_isText : GoodIn wsX5_firstError wsX5_isText := goodIn_r _ [9, 3, 10, 2, 4, 11, 12, 13, 8, 14, 15, 16, 17, 18, 19, 20, 21, 22, 23, 24, 25, 26, 27, 28, 29, 30, 31, 32, 33, 34, 35, 36, 37, 38, 39, 40, 41, 42, 43] (by decide +kernel) (by decide +kernel)
set_option maxRecDepth 20000 in
theorem gX5_firstError_X5_isText : GoodIn wsX5_firstError (wsV RX5 144 RX5 yX5_isText wsX5_isText) := goodIn_app (goodIn_of _ (by decide +kernel)) ggX5_firstError_X5_isText
theorem dX5_firstError_0 : decode cX5_firstError 0 = .ok (.aload_n 0, 1) := by decide +kernel
theorem dX5_firstError_1 : decode cX5_firstError 1 = .ok (.iconst 0, 1) := by decide +kernel
theorem dX5_firstError_2 : decode cX5_firstError 2 = .ok (.putfield 37, 3) := by decide +kernel
theorem dX5_firstError_5 : decode cX5_firstError 5 = .ok (.aload_n 0, 1) := by decide +kernel
theorem dX5_firstError_6 : decode cX5_firstError 6 = .ok (.invokevirtual 144, 3) := by decide +kernel
theorem dX5_firstError_9 : decode cX5_firstError 9 = .ok (.istore_n 1, 1) := by decide +kernel
theorem dX5_firstError_10 : decode cX5_firstError 10 = .ok (.iload_n 1, 1) := by decide +kernel
theorem dX5_firstError_11 : decode cX5_firstError 11 = .ok (.ifCond .ne 17, 3) := by decide +kernel
theorem dX5_firstError_14 : decode cX5_firstError 14 = .ok (.aload_n 0, 1) := by decide +kernel
theorem dX5_firstError_15 : decode cX5_firstError 15 = .ok (.getfield 127, 3) := by decide +kernel
theorem dX5_firstError_18 : decode cX5_firstError 18 = .ok (.ifCond .eq 10, 3) := by decide +kernel
theorem dX5_firstError_21 : decode cX5_firstError 21 = .ok (.aload_n 0, 1) := by decide +kernel
theorem dX5_firstError_22 : decode cX5_firstError 22 = .ok (.getfield 124, 3) := by decide +kernel
theorem dX5_firstError_25 : decode cX5_firstError 25 = .ok (.goto 7, 3) := by decide +kernel
theorem dX5_firstError_28 : decode cX5_firstError 28 = .ok (.aload_n 0, 1) := by decide +kernel
theorem dX5_firstError_29 : decode cX5_firstError 29 = .ok (.getfield 121, 3) := by decide +kernel
theorem dX5_firstError_32 : decode cX5_firstError 32 = .ok (.ireturn, 1) := by decide +kernel
set_option maxRecDepth 20000 in
theorem ggX5_read_X5_isText : GoodIn wsX5_read wsX5_isText := goodIn_r _ [10, 11, 3, 12, 2, 13, 14, 15, 9, 16, 5, 17, 18, 19, 20, 21, 22, 23, 24, 25, 26, 27, 28, 43, 44, 45, 46, 47, 48, 49, 50, 51, 52, 53, 54, 55, 56, 57, 58] (by decide +kernel) (by decide +kernel)
set_option maxRecDepth 20000 in
theorem gX5_read_X5_isText : GoodIn wsX5_read (wsV RX5 144 RX5 yX5_isText wsX5_isText) := goodIn_app (goodIn_of _ (by decide +kernel)) ggX5_read_X5_isText
set_option maxRecDepth 20000 in
theorem ggX5_read_X5_fails : GoodIn wsX5_read wsX5_fails := goodIn_r _ [32, 1, 43, 44, 45, 46, 47, 48, 49, 50, 51, 52, 53, 54, 55, 56, 57, 58] (by decide +kernel) (by decide +kernel)
set_option maxRecDepth 20000 in
theorem gX5_read_X5_fails : GoodIn wsX5_read (wsV RX5 48 RX5 yX5_fails wsX5_fails) := goodIn_app (goodIn_of _ (by decide +kernel)) ggX5_read_X5_fails
set_option maxRecDepth 20000 in
theorem ggX5_read_X5_saves : GoodIn wsX5_read wsX5_saves := goodIn_r _ [36, 37, 38, 4, 43, 44, 45, 46, 47, 48, 49, 50, 51, 52, 53, 54, 55, 56, 57, 58] (by decide +kernel) (by decide +kernel)
set_option maxRecDepth 20000 in
theorem gX5_read_X5_saves : GoodIn wsX5_read (wsV RX5 94 RX5 yX5_saves wsX5_saves) := goodIn_app (goodIn_of _ (by decide +kernel)) ggX5_read_X5_saves
set_option maxRecDepth 20000 in
theorem ggX5_read_X5_noCredits : GoodIn wsX5_read wsX5_noCredits := goodIn_r _ [42, 4, 43, 44, 45, 46, 47, 48, 49, 50, 51, 52, 53, 54, 55, 56, 57, 58] (by decide +kernel) (by decide +kernel)
set_option maxRecDepth 20000 in
theorem gX5_read_X5_noCredits : GoodIn wsX5_read (wsV RX5 103 RX5 yX5_noCredits wsX5_noCredits) := goodIn_app (goodIn_of _ (by decide +kernel)) ggX5_read_X5_noCredits
theorem dX5_read_0 : decode cX5_read 0 = .ok (.aload_n 0, 1) := by decide +kernel
theorem dX5_read_1 : decode cX5_read 1 = .ok (.iconst 0, 1) := by decide +kernel
theorem dX5_read_2 : decode cX5_read 2 = .ok (.putfield 37, 3) := by decide +kernel
theorem dX5_read_5 : decode cX5_read 5 = .ok (.aload_n 0, 1) := by decide +kernel
theorem dX5_read_6 : decode cX5_read 6 = .ok (.invokevirtual 144, 3) := by decide +kernel
theorem dX5_read_9 : decode cX5_read 9 = .ok (.ifCond .ne 9, 3) := by decide +kernel
theorem dX5_read_12 : decode cX5_read 12 = .ok (.aload_n 0, 1) := by decide +kernel
theorem dX5_read_13 : decode cX5_read 13 = .ok (.iconst 1, 1) := by decide +kernel
theorem dX5_read_14 : decode cX5_read 14 = .ok (.invokevirtual 48, 3) := by decide +kernel
theorem dX5_read_17 : decode cX5_read 17 = .ok (.ireturn, 1) := by decide +kernel
theorem dX5_read_18 : decode cX5_read 18 = .ok (.aload_n 0, 1) := by decide +kernel
theorem dX5_read_19 : decode cX5_read 19 = .ok (.invokevirtual 94, 3) := by decide +kernel
theorem dX5_read_22 : decode cX5_read 22 = .ok (.aload_n 0, 1) := by decide +kernel
theorem dX5_read_23 : decode cX5_read 23 = .ok (.iconst 0, 1) := by decide +kernel
theorem dX5_read_24 : decode cX5_read 24 = .ok (.putfield 121, 3) := by decide +kernel
theorem dX5_read_27 : decode cX5_read 27 = .ok (.iconst 0, 1) := by decide +kernel
theorem dX5_read_28 : decode cX5_read 28 = .ok (.istore_n 1, 1) := by decide +kernel
theorem dX5_read_29 : decode cX5_read 29 = .ok (.iload_n 1, 1) := by decide +kernel
theorem dX5_read_30 : decode cX5_read 30 = .ok (.aload_n 0, 1) := by decide +kernel
theorem dX5_read_31 : decode cX5_read 31 = .ok (.getfield 138, 3) := by decide +kernel
theorem dX5_read_34 : decode cX5_read 34 = .ok (.if_icmp .ge 63, 3) := by decide +kernel
theorem dX5_read_37 : decode cX5_read 37 = .ok (.aload_n 0, 1) := by decide +kernel
theorem dX5_read_38 : decode cX5_read 38 = .ok (.getfield 13, 3) := by decide +kernel
theorem dX5_read_41 : decode cX5_read 41 = .ok (.bipush 8, 2) := by decide +kernel
theorem dX5_read_43 : decode cX5_read 43 = .ok (.iload_n 1, 1) := by decide +kernel
theorem dX5_read_44 : decode cX5_read 44 = .ok (.iadd, 1) := by decide +kernel
theorem dX5_read_45 : decode cX5_read 45 = .ok (.aload_n 0, 1) := by decide +kernel
theorem dX5_read_46 : decode cX5_read 46 = .ok (.getfield 25, 3) := by decide +kernel
theorem dX5_read_49 : decode cX5_read 49 = .ok (.iconst 2, 1) := by decide +kernel
theorem dX5_read_50 : decode cX5_read 50 = .ok (.iload_n 1, 1) := by decide +kernel
theorem dX5_read_51 : decode cX5_read 51 = .ok (.imul, 1) := by decide +kernel
theorem dX5_read_52 : decode cX5_read 52 = .ok (.iaload, 1) := by decide +kernel
theorem dX5_read_53 : decode cX5_read 53 = .ok (.iastore, 1) := by decide +kernel
theorem dX5_read_54 : decode cX5_read 54 = .ok (.aload_n 0, 1) := by decide +kernel
theorem dX5_read_55 : decode cX5_read 55 = .ok (.getfield 25, 3) := by decide +kernel
theorem dX5_read_58 : decode cX5_read 58 = .ok (.iconst 2, 1) := by decide +kernel
theorem dX5_read_59 : decode cX5_read 59 = .ok (.iload_n 1, 1) := by decide +kernel
theorem dX5_read_60 : decode cX5_read 60 = .ok (.imul, 1) := by decide +kernel
theorem dX5_read_61 : decode cX5_read 61 = .ok (.iconst 1, 1) := by decide +kernel
theorem dX5_read_62 : decode cX5_read 62 = .ok (.iadd, 1) := by decide +kernel
theorem dX5_read_63 : decode cX5_read 63 = .ok (.iaload, 1) := by decide +kernel
theorem dX5_read_64 : decode cX5_read 64 = .ok (.iconst (-1), 1) := by decide +kernel
theorem dX5_read_65 : decode cX5_read 65 = .ok (.if_icmp .eq 26, 3) := by decide +kernel
theorem dX5_read_68 : decode cX5_read 68 = .ok (.aload_n 0, 1) := by decide +kernel
theorem dX5_read_69 : decode cX5_read 69 = .ok (.getfield 13, 3) := by decide +kernel
theorem dX5_read_72 : decode cX5_read 72 = .ok (.bipush 14, 2) := by decide +kernel
theorem dX5_read_74 : decode cX5_read 74 = .ok (.iload_n 1, 1) := by decide +kernel
theorem dX5_read_75 : decode cX5_read 75 = .ok (.iadd, 1) := by decide +kernel
theorem dX5_read_76 : decode cX5_read 76 = .ok (.aload_n 0, 1) := by decide +kernel
theorem dX5_read_77 : decode cX5_read 77 = .ok (.getfield 25, 3) := by decide +kernel
theorem dX5_read_80 : decode cX5_read 80 = .ok (.iconst 2, 1) := by decide +kernel
theorem dX5_read_81 : decode cX5_read 81 = .ok (.iload_n 1, 1) := by decide +kernel
theorem dX5_read_82 : decode cX5_read 82 = .ok (.imul, 1) := by decide +kernel
theorem dX5_read_83 : decode cX5_read 83 = .ok (.iconst 1, 1) := by decide +kernel
theorem dX5_read_84 : decode cX5_read 84 = .ok (.iadd, 1) := by decide +kernel
theorem dX5_read_85 : decode cX5_read 85 = .ok (.iaload, 1) := by decide +kernel
theorem dX5_read_86 : decode cX5_read 86 = .ok (.iastore, 1) := by decide +kernel
theorem dX5_read_87 : decode cX5_read 87 = .ok (.aload_n 0, 1) := by decide +kernel
theorem dX5_read_88 : decode cX5_read 88 = .ok (.invokevirtual 103, 3) := by decide +kernel
theorem dX5_read_91 : decode cX5_read 91 = .ok (.iinc 1 1, 3) := by decide +kernel
theorem dX5_read_94 : decode cX5_read 94 = .ok (.goto (-65), 3) := by decide +kernel
theorem dX5_read_97 : decode cX5_read 97 = .ok (.aload_n 0, 1) := by decide +kernel
theorem dX5_read_98 : decode cX5_read 98 = .ok (.getfield 138, 3) := by decide +kernel
theorem dX5_read_101 : decode cX5_read 101 = .ok (.ireturn, 1) := by decide +kernel
set_option maxRecDepth 20000 in
theorem ggX5_ofDigit_X5_shownAs : GoodIn wsX5_ofDigit wsX5_shownAs := goodIn_r _ [6, 7, 1, 49, 50, 51, 52, 53, 54, 55, 56, 57, 58, 59, 60, 61, 62, 63, 64] (by decide +kernel) (by decide +kernel)
set_option maxRecDepth 20000 in
theorem gX5_ofDigit_X5_shownAs : GoodIn wsX5_ofDigit (wsV RX5 77 RX5 yX5_shownAs wsX5_shownAs) := goodIn_app (goodIn_of _ (by decide +kernel)) ggX5_ofDigit_X5_shownAs
set_option maxRecDepth 20000 in
theorem ggX5_ofDigit_X5_readable : GoodIn wsX5_ofDigit wsX5_readable := goodIn_r _ [11, 1, 2, 3, 4, 5, 6, 7, 49, 50, 51, 52, 53, 54, 55, 56, 57, 58, 59, 60, 61, 62, 63, 64] (by decide +kernel) (by decide +kernel)
set_option maxRecDepth 20000 in
theorem gX5_ofDigit_X5_readable : GoodIn wsX5_ofDigit (wsV RX5 81 RX5 yX5_readable wsX5_readable) := goodIn_app (goodIn_of _ (by decide +kernel)) ggX5_ofDigit_X5_readable
set_option maxRecDepth 20000 in
theorem ggX5_ofDigit_X5_frames : GoodIn wsX5_ofDigit wsX5_frames := goodIn_r _ [15, 16, 17, 18, 19, 20, 21, 5, 22, 23, 24, 25, 26, 27, 28, 49, 50, 51, 52, 53, 54, 55, 56, 57, 58, 59, 60, 61, 62, 63, 64] (by decide +kernel) (by decide +kernel)
set_option maxRecDepth 20000 in
theorem gX5_ofDigit_X5_frames : GoodIn wsX5_ofDigit (wsV RX5 147 RX5 yX5_frames wsX5_frames) := goodIn_app (goodIn_of _ (by decide +kernel)) ggX5_ofDigit_X5_frames
set_option maxRecDepth 20000 in
theorem ggX5_ofDigit_X5_light : GoodIn wsX5_ofDigit wsX5_light := goodIn_r _ [32, 16, 19, 49, 50, 51, 52, 53, 54, 55, 56, 57, 58, 59, 60, 61, 62, 63, 64] (by decide +kernel) (by decide +kernel)
set_option maxRecDepth 20000 in
theorem gX5_ofDigit_X5_light : GoodIn wsX5_ofDigit (wsV RX5 70 RX5 yX5_light wsX5_light) := goodIn_app (goodIn_of _ (by decide +kernel)) ggX5_ofDigit_X5_light
set_option maxRecDepth 20000 in
theorem ggX5_ofDigit_X5_gap : GoodIn wsX5_ofDigit wsX5_gap := goodIn_r _ [36, 16, 19, 49, 50, 51, 52, 53, 54, 55, 56, 57, 58, 59, 60, 61, 62, 63, 64] (by decide +kernel) (by decide +kernel)
set_option maxRecDepth 20000 in
theorem gX5_ofDigit_X5_gap : GoodIn wsX5_ofDigit (wsV RX5 67 RX5 yX5_gap wsX5_gap) := goodIn_app (goodIn_of _ (by decide +kernel)) ggX5_ofDigit_X5_gap
set_option maxRecDepth 20000 in
theorem ggX5_ofDigit_X5_flickers : GoodIn wsX5_ofDigit wsX5_flickers := goodIn_r _ [40, 16, 33, 34, 35, 5, 36, 19, 49, 50, 51, 52, 53, 54, 55, 56, 57, 58, 59, 60, 61, 62, 63, 64] (by decide +kernel) (by decide +kernel)
set_option maxRecDepth 20000 in
theorem gX5_ofDigit_X5_flickers : GoodIn wsX5_ofDigit (wsV RX5 73 RX5 yX5_flickers wsX5_flickers) := goodIn_app (goodIn_of _ (by decide +kernel)) ggX5_ofDigit_X5_flickers
set_option maxRecDepth 20000 in
theorem ggX5_ofDigit_X5_isSeen : GoodIn wsX5_ofDigit wsX5_isSeen := goodIn_r _ [44, 29, 30, 31, 5, 32, 16, 19, 37, 38, 39, 40, 33, 34, 35, 36, 49, 50, 51, 52, 53, 54, 55, 56, 57, 58, 59, 60, 61, 62, 63, 64] (by decide +kernel) (by decide +kernel)
set_option maxRecDepth 20000 in
theorem gX5_ofDigit_X5_isSeen : GoodIn wsX5_ofDigit (wsV RX5 84 RX5 yX5_isSeen wsX5_isSeen) := goodIn_app (goodIn_of _ (by decide +kernel)) ggX5_ofDigit_X5_isSeen
set_option maxRecDepth 20000 in
theorem ggX5_ofDigit_X5_isClear : GoodIn wsX5_ofDigit wsX5_isClear := goodIn_r _ [48, 1, 8, 9, 10, 5, 11, 2, 3, 4, 6, 7, 41, 42, 43, 44, 29, 30, 31, 32, 16, 19, 37, 38, 39, 40, 33, 34, 35, 36, 49, 50, 51, 52, 53, 54, 55, 56, 57, 58, 59, 60, 61, 62, 63, 64] (by decide +kernel) (by decide +kernel)
set_option maxRecDepth 20000 in
theorem gX5_ofDigit_X5_isClear : GoodIn wsX5_ofDigit (wsV RX5 151 RX5 yX5_isClear wsX5_isClear) := goodIn_app (goodIn_of _ (by decide +kernel)) ggX5_ofDigit_X5_isClear
theorem dX5_ofDigit_0 : decode cX5_ofDigit 0 = .ok (.iload_n 2, 1) := by decide +kernel
theorem dX5_ofDigit_1 : decode cX5_ofDigit 1 = .ok (.iconst 5, 1) := by decide +kernel
theorem dX5_ofDigit_2 : decode cX5_ofDigit 2 = .ok (.if_icmp .ge 57, 3) := by decide +kernel
theorem dX5_ofDigit_5 : decode cX5_ofDigit 5 = .ok (.iload_n 2, 1) := by decide +kernel
theorem dX5_ofDigit_6 : decode cX5_ofDigit 6 = .ok (.iconst 3, 1) := by decide +kernel
theorem dX5_ofDigit_7 : decode cX5_ofDigit 7 = .ok (.if_icmp .ge 20, 3) := by decide +kernel
theorem dX5_ofDigit_10 : decode cX5_ofDigit 10 = .ok (.aload_n 0, 1) := by decide +kernel
theorem dX5_ofDigit_11 : decode cX5_ofDigit 11 = .ok (.getfield 13, 3) := by decide +kernel
theorem dX5_ofDigit_14 : decode cX5_ofDigit 14 = .ok (.bipush 8, 2) := by decide +kernel
theorem dX5_ofDigit_16 : decode cX5_ofDigit 16 = .ok (.bipush 6, 2) := by decide +kernel
theorem dX5_ofDigit_18 : decode cX5_ofDigit 18 = .ok (.iload_n 2, 1) := by decide +kernel
theorem dX5_ofDigit_19 : decode cX5_ofDigit 19 = .ok (.imul, 1) := by decide +kernel
theorem dX5_ofDigit_20 : decode cX5_ofDigit 20 = .ok (.iadd, 1) := by decide +kernel
theorem dX5_ofDigit_21 : decode cX5_ofDigit 21 = .ok (.iload_n 1, 1) := by decide +kernel
theorem dX5_ofDigit_22 : decode cX5_ofDigit 22 = .ok (.iadd, 1) := by decide +kernel
theorem dX5_ofDigit_23 : decode cX5_ofDigit 23 = .ok (.iaload, 1) := by decide +kernel
theorem dX5_ofDigit_24 : decode cX5_ofDigit 24 = .ok (.goto 34, 3) := by decide +kernel
theorem dX5_ofDigit_27 : decode cX5_ofDigit 27 = .ok (.iload_n 2, 1) := by decide +kernel
theorem dX5_ofDigit_28 : decode cX5_ofDigit 28 = .ok (.iconst 3, 1) := by decide +kernel
theorem dX5_ofDigit_29 : decode cX5_ofDigit 29 = .ok (.if_icmp .ne 20, 3) := by decide +kernel
theorem dX5_ofDigit_32 : decode cX5_ofDigit 32 = .ok (.aload_n 0, 1) := by decide +kernel
theorem dX5_ofDigit_33 : decode cX5_ofDigit 33 = .ok (.iload_n 1, 1) := by decide +kernel
theorem dX5_ofDigit_34 : decode cX5_ofDigit 34 = .ok (.aload_n 0, 1) := by decide +kernel
theorem dX5_ofDigit_35 : decode cX5_ofDigit 35 = .ok (.getfield 13, 3) := by decide +kernel
theorem dX5_ofDigit_38 : decode cX5_ofDigit 38 = .ok (.bipush 8, 2) := by decide +kernel
theorem dX5_ofDigit_40 : decode cX5_ofDigit 40 = .ok (.iload_n 1, 1) := by decide +kernel
theorem dX5_ofDigit_41 : decode cX5_ofDigit 41 = .ok (.iadd, 1) := by decide +kernel
theorem dX5_ofDigit_42 : decode cX5_ofDigit 42 = .ok (.iaload, 1) := by decide +kernel
theorem dX5_ofDigit_43 : decode cX5_ofDigit 43 = .ok (.invokevirtual 77, 3) := by decide +kernel
theorem dX5_ofDigit_46 : decode cX5_ofDigit 46 = .ok (.goto 12, 3) := by decide +kernel
theorem dX5_ofDigit_49 : decode cX5_ofDigit 49 = .ok (.aload_n 0, 1) := by decide +kernel
theorem dX5_ofDigit_50 : decode cX5_ofDigit 50 = .ok (.getfield 13, 3) := by decide +kernel
theorem dX5_ofDigit_53 : decode cX5_ofDigit 53 = .ok (.bipush 26, 2) := by decide +kernel
theorem dX5_ofDigit_55 : decode cX5_ofDigit 55 = .ok (.iload_n 1, 1) := by decide +kernel
theorem dX5_ofDigit_56 : decode cX5_ofDigit 56 = .ok (.iadd, 1) := by decide +kernel
theorem dX5_ofDigit_57 : decode cX5_ofDigit 57 = .ok (.iaload, 1) := by decide +kernel
theorem dX5_ofDigit_58 : decode cX5_ofDigit 58 = .ok (.ireturn, 1) := by decide +kernel
theorem dX5_ofDigit_59 : decode cX5_ofDigit 59 = .ok (.iload_n 2, 1) := by decide +kernel
theorem dX5_ofDigit_60 : decode cX5_ofDigit 60 = .ok (.bipush 9, 2) := by decide +kernel
theorem dX5_ofDigit_62 : decode cX5_ofDigit 62 = .ok (.if_icmp .le 27, 3) := by decide +kernel
theorem dX5_ofDigit_65 : decode cX5_ofDigit 65 = .ok (.iload_n 2, 1) := by decide +kernel
theorem dX5_ofDigit_66 : decode cX5_ofDigit 66 = .ok (.bipush 10, 2) := by decide +kernel
theorem dX5_ofDigit_68 : decode cX5_ofDigit 68 = .ok (.if_icmp .ne 11, 3) := by decide +kernel
theorem dX5_ofDigit_71 : decode cX5_ofDigit 71 = .ok (.aload_n 0, 1) := by decide +kernel
theorem dX5_ofDigit_72 : decode cX5_ofDigit 72 = .ok (.iload_n 1, 1) := by decide +kernel
theorem dX5_ofDigit_73 : decode cX5_ofDigit 73 = .ok (.invokevirtual 81, 3) := by decide +kernel
theorem dX5_ofDigit_76 : decode cX5_ofDigit 76 = .ok (.goto 12, 3) := by decide +kernel
theorem dX5_ofDigit_79 : decode cX5_ofDigit 79 = .ok (.aload_n 0, 1) := by decide +kernel
theorem dX5_ofDigit_80 : decode cX5_ofDigit 80 = .ok (.getfield 13, 3) := by decide +kernel
theorem dX5_ofDigit_83 : decode cX5_ofDigit 83 = .ok (.bipush 32, 2) := by decide +kernel
theorem dX5_ofDigit_85 : decode cX5_ofDigit 85 = .ok (.iload_n 1, 1) := by decide +kernel
theorem dX5_ofDigit_86 : decode cX5_ofDigit 86 = .ok (.iadd, 1) := by decide +kernel
theorem dX5_ofDigit_87 : decode cX5_ofDigit 87 = .ok (.iaload, 1) := by decide +kernel
theorem dX5_ofDigit_88 : decode cX5_ofDigit 88 = .ok (.ireturn, 1) := by decide +kernel
theorem dX5_ofDigit_89 : decode cX5_ofDigit 89 = .ok (.aload_n 0, 1) := by decide +kernel
theorem dX5_ofDigit_90 : decode cX5_ofDigit 90 = .ok (.aload_n 0, 1) := by decide +kernel
theorem dX5_ofDigit_91 : decode cX5_ofDigit 91 = .ok (.getfield 13, 3) := by decide +kernel
theorem dX5_ofDigit_94 : decode cX5_ofDigit 94 = .ok (.invokevirtual 147, 3) := by decide +kernel
theorem dX5_ofDigit_97 : decode cX5_ofDigit 97 = .ok (.iload_n 2, 1) := by decide +kernel
theorem dX5_ofDigit_98 : decode cX5_ofDigit 98 = .ok (.bipush 7, 2) := by decide +kernel
theorem dX5_ofDigit_100 : decode cX5_ofDigit 100 = .ok (.if_icmp .ge 22, 3) := by decide +kernel
theorem dX5_ofDigit_103 : decode cX5_ofDigit 103 = .ok (.iload_n 2, 1) := by decide +kernel
theorem dX5_ofDigit_104 : decode cX5_ofDigit 104 = .ok (.iconst 5, 1) := by decide +kernel
theorem dX5_ofDigit_105 : decode cX5_ofDigit 105 = .ok (.if_icmp .ne 11, 3) := by decide +kernel
theorem dX5_ofDigit_108 : decode cX5_ofDigit 108 = .ok (.aload_n 0, 1) := by decide +kernel
theorem dX5_ofDigit_109 : decode cX5_ofDigit 109 = .ok (.iload_n 1, 1) := by decide +kernel
theorem dX5_ofDigit_110 : decode cX5_ofDigit 110 = .ok (.invokevirtual 70, 3) := by decide +kernel
theorem dX5_ofDigit_113 : decode cX5_ofDigit 113 = .ok (.goto 8, 3) := by decide +kernel
theorem dX5_ofDigit_116 : decode cX5_ofDigit 116 = .ok (.aload_n 0, 1) := by decide +kernel
theorem dX5_ofDigit_117 : decode cX5_ofDigit 117 = .ok (.iload_n 1, 1) := by decide +kernel
theorem dX5_ofDigit_118 : decode cX5_ofDigit 118 = .ok (.invokevirtual 67, 3) := by decide +kernel
theorem dX5_ofDigit_121 : decode cX5_ofDigit 121 = .ok (.ireturn, 1) := by decide +kernel
theorem dX5_ofDigit_122 : decode cX5_ofDigit 122 = .ok (.iload_n 2, 1) := by decide +kernel
theorem dX5_ofDigit_123 : decode cX5_ofDigit 123 = .ok (.bipush 7, 2) := by decide +kernel
theorem dX5_ofDigit_125 : decode cX5_ofDigit 125 = .ok (.if_icmp .ne 18, 3) := by decide +kernel
theorem dX5_ofDigit_128 : decode cX5_ofDigit 128 = .ok (.aload_n 0, 1) := by decide +kernel
theorem dX5_ofDigit_129 : decode cX5_ofDigit 129 = .ok (.aload_n 0, 1) := by decide +kernel
theorem dX5_ofDigit_130 : decode cX5_ofDigit 130 = .ok (.getfield 13, 3) := by decide +kernel
theorem dX5_ofDigit_133 : decode cX5_ofDigit 133 = .ok (.iload_n 1, 1) := by decide +kernel
theorem dX5_ofDigit_134 : decode cX5_ofDigit 134 = .ok (.invokevirtual 73, 3) := by decide +kernel
theorem dX5_ofDigit_137 : decode cX5_ofDigit 137 = .ok (.ifCond .eq 39, 3) := by decide +kernel
theorem dX5_ofDigit_140 : decode cX5_ofDigit 140 = .ok (.goto 32, 3) := by decide +kernel
theorem dX5_ofDigit_143 : decode cX5_ofDigit 143 = .ok (.iload_n 2, 1) := by decide +kernel
theorem dX5_ofDigit_144 : decode cX5_ofDigit 144 = .ok (.bipush 8, 2) := by decide +kernel
theorem dX5_ofDigit_146 : decode cX5_ofDigit 146 = .ok (.if_icmp .ne 18, 3) := by decide +kernel
theorem dX5_ofDigit_149 : decode cX5_ofDigit 149 = .ok (.aload_n 0, 1) := by decide +kernel
theorem dX5_ofDigit_150 : decode cX5_ofDigit 150 = .ok (.aload_n 0, 1) := by decide +kernel
theorem dX5_ofDigit_151 : decode cX5_ofDigit 151 = .ok (.getfield 13, 3) := by decide +kernel
theorem dX5_ofDigit_154 : decode cX5_ofDigit 154 = .ok (.iload_n 1, 1) := by decide +kernel
theorem dX5_ofDigit_155 : decode cX5_ofDigit 155 = .ok (.invokevirtual 84, 3) := by decide +kernel
theorem dX5_ofDigit_158 : decode cX5_ofDigit 158 = .ok (.ifCond .eq 18, 3) := by decide +kernel
theorem dX5_ofDigit_161 : decode cX5_ofDigit 161 = .ok (.goto 11, 3) := by decide +kernel
theorem dX5_ofDigit_164 : decode cX5_ofDigit 164 = .ok (.aload_n 0, 1) := by decide +kernel
theorem dX5_ofDigit_165 : decode cX5_ofDigit 165 = .ok (.iload_n 1, 1) := by decide +kernel
theorem dX5_ofDigit_166 : decode cX5_ofDigit 166 = .ok (.invokevirtual 151, 3) := by decide +kernel
theorem dX5_ofDigit_169 : decode cX5_ofDigit 169 = .ok (.ifCond .eq 7, 3) := by decide +kernel
theorem dX5_ofDigit_172 : decode cX5_ofDigit 172 = .ok (.iconst 1, 1) := by decide +kernel
theorem dX5_ofDigit_173 : decode cX5_ofDigit 173 = .ok (.goto 4, 3) := by decide +kernel
theorem dX5_ofDigit_176 : decode cX5_ofDigit 176 = .ok (.iconst 0, 1) := by decide +kernel
theorem dX5_ofDigit_177 : decode cX5_ofDigit 177 = .ok (.ireturn, 1) := by decide +kernel
set_option maxRecDepth 20000 in
theorem ggX5_digit_X5_isDigit : GoodIn wsX5_digit wsX5_isDigit := goodIn_r _ [5, 6, 7, 4, 8] (by decide +kernel) (by decide +kernel)
set_option maxRecDepth 20000 in
theorem gX5_digit_X5_isDigit : GoodIn wsX5_digit (va_wsS RX5 87 yX5_isDigit wsX5_isDigit) := goodIn_app (goodIn_of _ (by decide +kernel)) ggX5_digit_X5_isDigit
set_option maxRecDepth 20000 in
theorem ggX5_digit_X5_fails : GoodIn wsX5_digit wsX5_fails := goodIn_r _ [12, 1, 64, 65, 66, 67, 68, 69, 70, 71, 72, 73, 74, 75, 76, 77, 78, 79] (by decide +kernel) (by decide +kernel)
set_option maxRecDepth 20000 in
theorem gX5_digit_X5_fails : GoodIn wsX5_digit (wsV RX5 48 RX5 yX5_fails wsX5_fails) := goodIn_app (goodIn_of _ (by decide +kernel)) ggX5_digit_X5_fails
set_option maxRecDepth 20000 in
theorem ggX5_digit_X5_in : GoodIn wsX5_digit wsX5_in := goodIn_r _ [8] (by decide +kernel) (by decide +kernel)
set_option maxRecDepth 20000 in
theorem gX5_digit_X5_in : GoodIn wsX5_digit (va_wsS RX5 41 yX5_in wsX5_in) := goodIn_app (goodIn_of _ (by decide +kernel)) ggX5_digit_X5_in
set_option maxRecDepth 20000 in
theorem ggX5_digit_X5_ofDigit : GoodIn wsX5_digit wsX5_ofDigit := goodIn_r _ [16, 17, 18, 19, 20, 4, 21, 22, 23, 24, 25, 26, 27, 28, 29, 30, 31, 32, 33, 34, 35, 36, 37, 38, 39, 40, 41, 42, 43, 44, 45, 46, 47, 48, 49, 50, 51, 52, 53, 54, 55, 56, 57, 58, 59, 60, 61, 62, 63, 64, 65, 66, 67, 68, 69, 70, 71, 72, 73, 74, 75, 76, 77, 78, 79] (by decide +kernel) (by decide +kernel)
set_option maxRecDepth 20000 in
theorem gX5_digit_X5_ofDigit : GoodIn wsX5_digit (wsV RX5 154 RX5 yX5_ofDigit wsX5_ofDigit) := goodIn_app (goodIn_of _ (by decide +kernel)) ggX5_digit_X5_ofDigit
theorem dX5_digit_0 : decode cX5_digit 0 = .ok (.aload_n 0, 1) := by decide +kernel
theorem dX5_digit_1 : decode cX5_digit 1 = .ok (.iconst 0, 1) := by decide +kernel
theorem dX5_digit_2 : decode cX5_digit 2 = .ok (.putfield 37, 3) := by decide +kernel
theorem dX5_digit_5 : decode cX5_digit 5 = .ok (.iload_n 1, 1) := by decide +kernel
theorem dX5_digit_6 : decode cX5_digit 6 = .ok (.invokestatic 87, 3) := by decide +kernel
theorem dX5_digit_9 : decode cX5_digit 9 = .ok (.ifCond .ne 9, 3) := by decide +kernel
theorem dX5_digit_12 : decode cX5_digit 12 = .ok (.aload_n 0, 1) := by decide +kernel
theorem dX5_digit_13 : decode cX5_digit 13 = .ok (.iconst 1, 1) := by decide +kernel
theorem dX5_digit_14 : decode cX5_digit 14 = .ok (.invokevirtual 48, 3) := by decide +kernel
theorem dX5_digit_17 : decode cX5_digit 17 = .ok (.ireturn, 1) := by decide +kernel
theorem dX5_digit_18 : decode cX5_digit 18 = .ok (.iload_n 2, 1) := by decide +kernel
theorem dX5_digit_19 : decode cX5_digit 19 = .ok (.iconst 0, 1) := by decide +kernel
theorem dX5_digit_20 : decode cX5_digit 20 = .ok (.bipush 11, 2) := by decide +kernel
theorem dX5_digit_22 : decode cX5_digit 22 = .ok (.invokestatic 41, 3) := by decide +kernel
theorem dX5_digit_25 : decode cX5_digit 25 = .ok (.ifCond .eq 12, 3) := by decide +kernel
theorem dX5_digit_28 : decode cX5_digit 28 = .ok (.aload_n 0, 1) := by decide +kernel
theorem dX5_digit_29 : decode cX5_digit 29 = .ok (.iload_n 1, 1) := by decide +kernel
theorem dX5_digit_30 : decode cX5_digit 30 = .ok (.iload_n 2, 1) := by decide +kernel
theorem dX5_digit_31 : decode cX5_digit 31 = .ok (.invokevirtual 154, 3) := by decide +kernel
theorem dX5_digit_34 : decode cX5_digit 34 = .ok (.goto 8, 3) := by decide +kernel
theorem dX5_digit_37 : decode cX5_digit 37 = .ok (.aload_n 0, 1) := by decide +kernel
theorem dX5_digit_38 : decode cX5_digit 38 = .ok (.iconst 2, 1) := by decide +kernel
theorem dX5_digit_39 : decode cX5_digit 39 = .ok (.invokevirtual 48, 3) := by decide +kernel
theorem dX5_digit_42 : decode cX5_digit 42 = .ok (.ireturn, 1) := by decide +kernel
set_option maxRecDepth 20000 in
theorem ggX5_wear_X5_isDigit : GoodIn wsX5_wear wsX5_isDigit := goodIn_r _ [6, 7, 8, 5, 9] (by decide +kernel) (by decide +kernel)
set_option maxRecDepth 20000 in
theorem gX5_wear_X5_isDigit : GoodIn wsX5_wear (va_wsS RX5 87 yX5_isDigit wsX5_isDigit) := goodIn_app (goodIn_of _ (by decide +kernel)) ggX5_wear_X5_isDigit
set_option maxRecDepth 20000 in
theorem ggX5_wear_X5_isSegment : GoodIn wsX5_wear wsX5_isSegment := goodIn_r _ [12, 7, 8, 5, 9] (by decide +kernel) (by decide +kernel)
set_option maxRecDepth 20000 in
theorem gX5_wear_X5_isSegment : GoodIn wsX5_wear (va_wsS RX5 106 yX5_isSegment wsX5_isSegment) := goodIn_app (goodIn_of _ (by decide +kernel)) ggX5_wear_X5_isSegment
set_option maxRecDepth 20000 in
theorem ggX5_wear_X5_fails : GoodIn wsX5_wear wsX5_fails := goodIn_r _ [16, 1, 17, 18, 19, 20, 21, 22, 23, 24, 25, 26, 27, 28, 29, 30, 31, 32] (by decide +kernel) (by decide +kernel)
set_option maxRecDepth 20000 in
theorem gX5_wear_X5_fails : GoodIn wsX5_wear (wsV RX5 48 RX5 yX5_fails wsX5_fails) := goodIn_app (goodIn_of _ (by decide +kernel)) ggX5_wear_X5_fails
theorem dX5_wear_0 : decode cX5_wear 0 = .ok (.aload_n 0, 1) := by decide +kernel
theorem dX5_wear_1 : decode cX5_wear 1 = .ok (.iconst 0, 1) := by decide +kernel
theorem dX5_wear_2 : decode cX5_wear 2 = .ok (.putfield 37, 3) := by decide +kernel
theorem dX5_wear_5 : decode cX5_wear 5 = .ok (.iload_n 1, 1) := by decide +kernel
theorem dX5_wear_6 : decode cX5_wear 6 = .ok (.invokestatic 87, 3) := by decide +kernel
theorem dX5_wear_9 : decode cX5_wear 9 = .ok (.ifCond .eq 27, 3) := by decide +kernel
theorem dX5_wear_12 : decode cX5_wear 12 = .ok (.iload_n 2, 1) := by decide +kernel
theorem dX5_wear_13 : decode cX5_wear 13 = .ok (.invokestatic 106, 3) := by decide +kernel
theorem dX5_wear_16 : decode cX5_wear 16 = .ok (.ifCond .eq 20, 3) := by decide +kernel
theorem dX5_wear_19 : decode cX5_wear 19 = .ok (.aload_n 0, 1) := by decide +kernel
theorem dX5_wear_20 : decode cX5_wear 20 = .ok (.getfield 13, 3) := by decide +kernel
theorem dX5_wear_23 : decode cX5_wear 23 = .ok (.bipush 38, 2) := by decide +kernel
theorem dX5_wear_25 : decode cX5_wear 25 = .ok (.bipush 7, 2) := by decide +kernel
theorem dX5_wear_27 : decode cX5_wear 27 = .ok (.iload_n 1, 1) := by decide +kernel
theorem dX5_wear_28 : decode cX5_wear 28 = .ok (.imul, 1) := by decide +kernel
theorem dX5_wear_29 : decode cX5_wear 29 = .ok (.iadd, 1) := by decide +kernel
theorem dX5_wear_30 : decode cX5_wear 30 = .ok (.iload_n 2, 1) := by decide +kernel
theorem dX5_wear_31 : decode cX5_wear 31 = .ok (.iadd, 1) := by decide +kernel
theorem dX5_wear_32 : decode cX5_wear 32 = .ok (.iaload, 1) := by decide +kernel
theorem dX5_wear_33 : decode cX5_wear 33 = .ok (.goto 8, 3) := by decide +kernel
theorem dX5_wear_36 : decode cX5_wear 36 = .ok (.aload_n 0, 1) := by decide +kernel
theorem dX5_wear_37 : decode cX5_wear 37 = .ok (.iconst 1, 1) := by decide +kernel
theorem dX5_wear_38 : decode cX5_wear 38 = .ok (.invokevirtual 48, 3) := by decide +kernel
theorem dX5_wear_41 : decode cX5_wear 41 = .ok (.ireturn, 1) := by decide +kernel
set_option maxRecDepth 20000 in
theorem ggX5_slot_X5_in : GoodIn wsX5_slot wsX5_in := goodIn_r _ [8] (by decide +kernel) (by decide +kernel)
set_option maxRecDepth 20000 in
theorem gX5_slot_X5_in : GoodIn wsX5_slot (va_wsS RX5 41 yX5_in wsX5_in) := goodIn_app (goodIn_of _ (by decide +kernel)) ggX5_slot_X5_in
set_option maxRecDepth 20000 in
theorem ggX5_slot_X5_fails : GoodIn wsX5_slot wsX5_fails := goodIn_r _ [12, 1, 28, 29, 30, 31, 32, 33, 34, 35, 36, 37, 38, 39, 40, 41, 42, 43] (by decide +kernel) (by decide +kernel)
set_option maxRecDepth 20000 in
theorem gX5_slot_X5_fails : GoodIn wsX5_slot (wsV RX5 48 RX5 yX5_fails wsX5_fails) := goodIn_app (goodIn_of _ (by decide +kernel)) ggX5_slot_X5_fails
set_option maxRecDepth 20000 in
theorem ggX5_slot_X5_frames : GoodIn wsX5_slot wsX5_frames := goodIn_r _ [16, 17, 18, 4, 3, 19, 20, 7, 21, 22, 23, 24, 25, 26, 27, 28, 29, 30, 31, 32, 33, 34, 35, 36, 37, 38, 39, 40, 41, 42, 43] (by decide +kernel) (by decide +kernel)
set_option maxRecDepth 20000 in
theorem gX5_slot_X5_frames : GoodIn wsX5_slot (wsV RX5 147 RX5 yX5_frames wsX5_frames) := goodIn_app (goodIn_of _ (by decide +kernel)) ggX5_slot_X5_frames
theorem dX5_slot_0 : decode cX5_slot 0 = .ok (.aload_n 0, 1) := by decide +kernel
theorem dX5_slot_1 : decode cX5_slot 1 = .ok (.iconst 0, 1) := by decide +kernel
theorem dX5_slot_2 : decode cX5_slot 2 = .ok (.putfield 37, 3) := by decide +kernel
theorem dX5_slot_5 : decode cX5_slot 5 = .ok (.iload_n 1, 1) := by decide +kernel
theorem dX5_slot_6 : decode cX5_slot 6 = .ok (.iconst 0, 1) := by decide +kernel
theorem dX5_slot_7 : decode cX5_slot 7 = .ok (.aload_n 0, 1) := by decide +kernel
theorem dX5_slot_8 : decode cX5_slot 8 = .ok (.getfield 13, 3) := by decide +kernel
theorem dX5_slot_11 : decode cX5_slot 11 = .ok (.iconst 2, 1) := by decide +kernel
theorem dX5_slot_12 : decode cX5_slot 12 = .ok (.iaload, 1) := by decide +kernel
theorem dX5_slot_13 : decode cX5_slot 13 = .ok (.iconst 1, 1) := by decide +kernel
theorem dX5_slot_14 : decode cX5_slot 14 = .ok (.isub, 1) := by decide +kernel
theorem dX5_slot_15 : decode cX5_slot 15 = .ok (.invokestatic 41, 3) := by decide +kernel
theorem dX5_slot_18 : decode cX5_slot 18 = .ok (.ifCond .ne 9, 3) := by decide +kernel
theorem dX5_slot_21 : decode cX5_slot 21 = .ok (.aload_n 0, 1) := by decide +kernel
theorem dX5_slot_22 : decode cX5_slot 22 = .ok (.iconst 1, 1) := by decide +kernel
theorem dX5_slot_23 : decode cX5_slot 23 = .ok (.invokevirtual 48, 3) := by decide +kernel
theorem dX5_slot_26 : decode cX5_slot 26 = .ok (.ireturn, 1) := by decide +kernel
theorem dX5_slot_27 : decode cX5_slot 27 = .ok (.aload_n 0, 1) := by decide +kernel
theorem dX5_slot_28 : decode cX5_slot 28 = .ok (.aload_n 0, 1) := by decide +kernel
theorem dX5_slot_29 : decode cX5_slot 29 = .ok (.getfield 13, 3) := by decide +kernel
theorem dX5_slot_32 : decode cX5_slot 32 = .ok (.invokevirtual 147, 3) := by decide +kernel
theorem dX5_slot_35 : decode cX5_slot 35 = .ok (.iload_n 2, 1) := by decide +kernel
theorem dX5_slot_36 : decode cX5_slot 36 = .ok (.ifCond .eq 12, 3) := by decide +kernel
theorem dX5_slot_39 : decode cX5_slot 39 = .ok (.aload_n 0, 1) := by decide +kernel
theorem dX5_slot_40 : decode cX5_slot 40 = .ok (.getfield 31, 3) := by decide +kernel
theorem dX5_slot_43 : decode cX5_slot 43 = .ok (.iload_n 1, 1) := by decide +kernel
theorem dX5_slot_44 : decode cX5_slot 44 = .ok (.iaload, 1) := by decide +kernel
theorem dX5_slot_45 : decode cX5_slot 45 = .ok (.goto 9, 3) := by decide +kernel
theorem dX5_slot_48 : decode cX5_slot 48 = .ok (.aload_n 0, 1) := by decide +kernel
theorem dX5_slot_49 : decode cX5_slot 49 = .ok (.getfield 28, 3) := by decide +kernel
theorem dX5_slot_52 : decode cX5_slot 52 = .ok (.iload_n 1, 1) := by decide +kernel
theorem dX5_slot_53 : decode cX5_slot 53 = .ok (.iaload, 1) := by decide +kernel
theorem dX5_slot_54 : decode cX5_slot 54 = .ok (.ireturn, 1) := by decide +kernel
theorem dX5_inFrame_0 : decode cX5_inFrame 0 = .ok (.iconst 0, 1) := by decide +kernel
theorem dX5_inFrame_1 : decode cX5_inFrame 1 = .ok (.istore_n 2, 1) := by decide +kernel
theorem dX5_inFrame_2 : decode cX5_inFrame 2 = .ok (.iconst 0, 1) := by decide +kernel
theorem dX5_inFrame_3 : decode cX5_inFrame 3 = .ok (.istore_n 3, 1) := by decide +kernel
theorem dX5_inFrame_4 : decode cX5_inFrame 4 = .ok (.iload_n 3, 1) := by decide +kernel
theorem dX5_inFrame_5 : decode cX5_inFrame 5 = .ok (.aload_n 0, 1) := by decide +kernel
theorem dX5_inFrame_6 : decode cX5_inFrame 6 = .ok (.getfield 56, 3) := by decide +kernel
theorem dX5_inFrame_9 : decode cX5_inFrame 9 = .ok (.if_icmp .ge 55, 3) := by decide +kernel
theorem dX5_inFrame_12 : decode cX5_inFrame 12 = .ok (.iload_n 2, 1) := by decide +kernel
theorem dX5_inFrame_13 : decode cX5_inFrame 13 = .ok (.iload_n 1, 1) := by decide +kernel
theorem dX5_inFrame_14 : decode cX5_inFrame 14 = .ok (.ifCond .eq 16, 3) := by decide +kernel
theorem dX5_inFrame_17 : decode cX5_inFrame 17 = .ok (.aload_n 0, 1) := by decide +kernel
theorem dX5_inFrame_18 : decode cX5_inFrame 18 = .ok (.getfield 31, 3) := by decide +kernel
theorem dX5_inFrame_21 : decode cX5_inFrame 21 = .ok (.iload_n 3, 1) := by decide +kernel
theorem dX5_inFrame_22 : decode cX5_inFrame 22 = .ok (.iaload, 1) := by decide +kernel
theorem dX5_inFrame_23 : decode cX5_inFrame 23 = .ok (.iconst (-1), 1) := by decide +kernel
theorem dX5_inFrame_24 : decode cX5_inFrame 24 = .ok (.if_icmp .ne 31, 3) := by decide +kernel
theorem dX5_inFrame_27 : decode cX5_inFrame 27 = .ok (.goto 24, 3) := by decide +kernel
theorem dX5_inFrame_30 : decode cX5_inFrame 30 = .ok (.iload_n 3, 1) := by decide +kernel
theorem dX5_inFrame_31 : decode cX5_inFrame 31 = .ok (.ifCond .le 24, 3) := by decide +kernel
theorem dX5_inFrame_34 : decode cX5_inFrame 34 = .ok (.aload_n 0, 1) := by decide +kernel
theorem dX5_inFrame_35 : decode cX5_inFrame 35 = .ok (.getfield 28, 3) := by decide +kernel
theorem dX5_inFrame_38 : decode cX5_inFrame 38 = .ok (.iload_n 3, 1) := by decide +kernel
theorem dX5_inFrame_39 : decode cX5_inFrame 39 = .ok (.iaload, 1) := by decide +kernel
theorem dX5_inFrame_40 : decode cX5_inFrame 40 = .ok (.aload_n 0, 1) := by decide +kernel
theorem dX5_inFrame_41 : decode cX5_inFrame 41 = .ok (.getfield 28, 3) := by decide +kernel
theorem dX5_inFrame_44 : decode cX5_inFrame 44 = .ok (.iload_n 3, 1) := by decide +kernel
theorem dX5_inFrame_45 : decode cX5_inFrame 45 = .ok (.iconst 1, 1) := by decide +kernel
theorem dX5_inFrame_46 : decode cX5_inFrame 46 = .ok (.isub, 1) := by decide +kernel
theorem dX5_inFrame_47 : decode cX5_inFrame 47 = .ok (.iaload, 1) := by decide +kernel
theorem dX5_inFrame_48 : decode cX5_inFrame 48 = .ok (.if_icmp .eq 7, 3) := by decide +kernel
theorem dX5_inFrame_51 : decode cX5_inFrame 51 = .ok (.iconst 1, 1) := by decide +kernel
theorem dX5_inFrame_52 : decode cX5_inFrame 52 = .ok (.goto 4, 3) := by decide +kernel
theorem dX5_inFrame_55 : decode cX5_inFrame 55 = .ok (.iconst 0, 1) := by decide +kernel
theorem dX5_inFrame_56 : decode cX5_inFrame 56 = .ok (.iadd, 1) := by decide +kernel
theorem dX5_inFrame_57 : decode cX5_inFrame 57 = .ok (.istore_n 2, 1) := by decide +kernel
theorem dX5_inFrame_58 : decode cX5_inFrame 58 = .ok (.iinc 3 1, 3) := by decide +kernel
theorem dX5_inFrame_61 : decode cX5_inFrame 61 = .ok (.goto (-57), 3) := by decide +kernel
theorem dX5_inFrame_64 : decode cX5_inFrame 64 = .ok (.iload_n 2, 1) := by decide +kernel
theorem dX5_inFrame_65 : decode cX5_inFrame 65 = .ok (.ireturn, 1) := by decide +kernel
set_option maxRecDepth 20000 in
theorem ggX5_those_X5_flickers : GoodIn wsX5_those wsX5_flickers := goodIn_r _ [5, 6, 7, 8, 9, 4, 10, 11, 34, 35, 36, 37, 38, 39, 40, 41, 42, 43, 44, 45, 46, 47, 48, 49] (by decide +kernel) (by decide +kernel)
set_option maxRecDepth 20000 in
theorem gX5_those_X5_flickers : GoodIn wsX5_those (wsV RX5 73 RX5 yX5_flickers wsX5_flickers) := goodIn_app (goodIn_of _ (by decide +kernel)) ggX5_those_X5_flickers
set_option maxRecDepth 20000 in
theorem ggX5_those_X5_isSeen : GoodIn wsX5_those wsX5_isSeen := goodIn_r _ [15, 16, 17, 18, 4, 19, 6, 11, 1, 2, 3, 5, 7, 8, 9, 10, 34, 35, 36, 37, 38, 39, 40, 41, 42, 43, 44, 45, 46, 47, 48, 49] (by decide +kernel) (by decide +kernel)
set_option maxRecDepth 20000 in
theorem gX5_those_X5_isSeen : GoodIn wsX5_those (wsV RX5 84 RX5 yX5_isSeen wsX5_isSeen) := goodIn_app (goodIn_of _ (by decide +kernel)) ggX5_those_X5_isSeen
set_option maxRecDepth 20000 in
theorem ggX5_those_X5_isClear : GoodIn wsX5_those wsX5_isClear := goodIn_r _ [23, 24, 25, 26, 27, 4, 28, 29, 30, 31, 32, 33, 12, 13, 14, 15, 16, 17, 18, 19, 6, 11, 1, 2, 3, 5, 7, 8, 9, 10, 34, 35, 36, 37, 38, 39, 40, 41, 42, 43, 44, 45, 46, 47, 48, 49] (by decide +kernel) (by decide +kernel)
set_option maxRecDepth 20000 in
theorem gX5_those_X5_isClear : GoodIn wsX5_those (wsV RX5 151 RX5 yX5_isClear wsX5_isClear) := goodIn_app (goodIn_of _ (by decide +kernel)) ggX5_those_X5_isClear
theorem dX5_those_0 : decode cX5_those 0 = .ok (.iconst 0, 1) := by decide +kernel
theorem dX5_those_1 : decode cX5_those 1 = .ok (.istore_n 3, 1) := by decide +kernel
theorem dX5_those_2 : decode cX5_those 2 = .ok (.iconst 0, 1) := by decide +kernel
theorem dX5_those_3 : decode cX5_those 3 = .ok (.istore 4, 2) := by decide +kernel
theorem dX5_those_5 : decode cX5_those 5 = .ok (.iload 4, 2) := by decide +kernel
theorem dX5_those_7 : decode cX5_those 7 = .ok (.bipush 6, 2) := by decide +kernel
theorem dX5_those_9 : decode cX5_those 9 = .ok (.if_icmp .ge 62, 3) := by decide +kernel
theorem dX5_those_12 : decode cX5_those 12 = .ok (.iload_n 3, 1) := by decide +kernel
theorem dX5_those_13 : decode cX5_those 13 = .ok (.iload_n 2, 1) := by decide +kernel
theorem dX5_those_14 : decode cX5_those 14 = .ok (.iconst 4, 1) := by decide +kernel
theorem dX5_those_15 : decode cX5_those 15 = .ok (.if_icmp .ne 16, 3) := by decide +kernel
theorem dX5_those_18 : decode cX5_those 18 = .ok (.aload_n 0, 1) := by decide +kernel
theorem dX5_those_19 : decode cX5_those 19 = .ok (.aload_n 1, 1) := by decide +kernel
theorem dX5_those_20 : decode cX5_those 20 = .ok (.iload 4, 2) := by decide +kernel
theorem dX5_those_22 : decode cX5_those 22 = .ok (.invokevirtual 73, 3) := by decide +kernel
theorem dX5_those_25 : decode cX5_those 25 = .ok (.ifCond .eq 37, 3) := by decide +kernel
theorem dX5_those_28 : decode cX5_those 28 = .ok (.goto 30, 3) := by decide +kernel
theorem dX5_those_31 : decode cX5_those 31 = .ok (.iload_n 2, 1) := by decide +kernel
theorem dX5_those_32 : decode cX5_those 32 = .ok (.iconst 5, 1) := by decide +kernel
theorem dX5_those_33 : decode cX5_those 33 = .ok (.if_icmp .ne 16, 3) := by decide +kernel
theorem dX5_those_36 : decode cX5_those 36 = .ok (.aload_n 0, 1) := by decide +kernel
theorem dX5_those_37 : decode cX5_those 37 = .ok (.aload_n 1, 1) := by decide +kernel
theorem dX5_those_38 : decode cX5_those 38 = .ok (.iload 4, 2) := by decide +kernel
theorem dX5_those_40 : decode cX5_those 40 = .ok (.invokevirtual 84, 3) := by decide +kernel
theorem dX5_those_43 : decode cX5_those 43 = .ok (.ifCond .eq 19, 3) := by decide +kernel
theorem dX5_those_46 : decode cX5_those 46 = .ok (.goto 12, 3) := by decide +kernel
theorem dX5_those_49 : decode cX5_those 49 = .ok (.aload_n 0, 1) := by decide +kernel
theorem dX5_those_50 : decode cX5_those 50 = .ok (.iload 4, 2) := by decide +kernel
theorem dX5_those_52 : decode cX5_those 52 = .ok (.invokevirtual 151, 3) := by decide +kernel
theorem dX5_those_55 : decode cX5_those 55 = .ok (.ifCond .eq 7, 3) := by decide +kernel
theorem dX5_those_58 : decode cX5_those 58 = .ok (.iconst 1, 1) := by decide +kernel
theorem dX5_those_59 : decode cX5_those 59 = .ok (.goto 4, 3) := by decide +kernel
theorem dX5_those_62 : decode cX5_those 62 = .ok (.iconst 0, 1) := by decide +kernel
theorem dX5_those_63 : decode cX5_those 63 = .ok (.iadd, 1) := by decide +kernel
theorem dX5_those_64 : decode cX5_those 64 = .ok (.istore_n 3, 1) := by decide +kernel
theorem dX5_those_65 : decode cX5_those 65 = .ok (.iinc 4 1, 3) := by decide +kernel
theorem dX5_those_68 : decode cX5_those 68 = .ok (.goto (-63), 3) := by decide +kernel
theorem dX5_those_71 : decode cX5_those 71 = .ok (.iload_n 3, 1) := by decide +kernel
theorem dX5_those_72 : decode cX5_those 72 = .ok (.ireturn, 1) := by decide +kernel
set_option maxRecDepth 20000 in
theorem ggX5_burnt_X5_ones : GoodIn wsX5_burnt wsX5_ones := goodIn_r _ [5] (by decide +kernel) (by decide +kernel)
set_option maxRecDepth 20000 in
theorem gX5_burnt_X5_ones : GoodIn wsX5_burnt (va_wsS RX5 157 yX5_ones wsX5_ones) := goodIn_app (goodIn_of _ (by decide +kernel)) ggX5_burnt_X5_ones
theorem dX5_burnt_0 : decode cX5_burnt 0 = .ok (.iconst 0, 1) := by decide +kernel
theorem dX5_burnt_1 : decode cX5_burnt 1 = .ok (.istore_n 1, 1) := by decide +kernel
theorem dX5_burnt_2 : decode cX5_burnt 2 = .ok (.iconst 0, 1) := by decide +kernel
theorem dX5_burnt_3 : decode cX5_burnt 3 = .ok (.istore_n 2, 1) := by decide +kernel
theorem dX5_burnt_4 : decode cX5_burnt 4 = .ok (.iload_n 2, 1) := by decide +kernel
theorem dX5_burnt_5 : decode cX5_burnt 5 = .ok (.bipush 6, 2) := by decide +kernel
theorem dX5_burnt_7 : decode cX5_burnt 7 = .ok (.if_icmp .ge 24, 3) := by decide +kernel
theorem dX5_burnt_10 : decode cX5_burnt 10 = .ok (.iload_n 1, 1) := by decide +kernel
theorem dX5_burnt_11 : decode cX5_burnt 11 = .ok (.aload_n 0, 1) := by decide +kernel
theorem dX5_burnt_12 : decode cX5_burnt 12 = .ok (.getfield 13, 3) := by decide +kernel
theorem dX5_burnt_15 : decode cX5_burnt 15 = .ok (.bipush 20, 2) := by decide +kernel
theorem dX5_burnt_17 : decode cX5_burnt 17 = .ok (.iload_n 2, 1) := by decide +kernel
theorem dX5_burnt_18 : decode cX5_burnt 18 = .ok (.iadd, 1) := by decide +kernel
theorem dX5_burnt_19 : decode cX5_burnt 19 = .ok (.iaload, 1) := by decide +kernel
theorem dX5_burnt_20 : decode cX5_burnt 20 = .ok (.invokestatic 157, 3) := by decide +kernel
theorem dX5_burnt_23 : decode cX5_burnt 23 = .ok (.iadd, 1) := by decide +kernel
theorem dX5_burnt_24 : decode cX5_burnt 24 = .ok (.istore_n 1, 1) := by decide +kernel
theorem dX5_burnt_25 : decode cX5_burnt 25 = .ok (.iinc 2 1, 3) := by decide +kernel
theorem dX5_burnt_28 : decode cX5_burnt 28 = .ok (.goto (-24), 3) := by decide +kernel
theorem dX5_burnt_31 : decode cX5_burnt 31 = .ok (.iload_n 1, 1) := by decide +kernel
theorem dX5_burnt_32 : decode cX5_burnt 32 = .ok (.ireturn, 1) := by decide +kernel
set_option maxRecDepth 20000 in
theorem ggX5_counted_X5_frames : GoodIn wsX5_counted wsX5_frames := goodIn_r _ [7, 8, 9, 10, 11, 12, 13, 6, 14, 15, 16, 17, 18, 19, 20, 65, 66, 67, 68, 69, 70, 71, 72, 73, 74, 75, 76, 77, 78, 79, 80] (by decide +kernel) (by decide +kernel)
set_option maxRecDepth 20000 in
theorem gX5_counted_X5_frames : GoodIn wsX5_counted (wsV RX5 147 RX5 yX5_frames wsX5_frames) := goodIn_app (goodIn_of _ (by decide +kernel)) ggX5_counted_X5_frames
set_option maxRecDepth 20000 in
theorem ggX5_counted_X5_levels : GoodIn wsX5_counted wsX5_levels := goodIn_r _ [17] (by decide +kernel) (by decide +kernel)
set_option maxRecDepth 20000 in
theorem gX5_counted_X5_levels : GoodIn wsX5_counted (va_wsS RX5 52 yX5_levels wsX5_levels) := goodIn_app (goodIn_of _ (by decide +kernel)) ggX5_counted_X5_levels
set_option maxRecDepth 20000 in
theorem ggX5_counted_X5_inFrame : GoodIn wsX5_counted wsX5_inFrame := goodIn_r _ [24, 8, 11, 10, 65, 66, 67, 68, 69, 70, 71, 72, 73, 74, 75, 76, 77, 78, 79, 80] (by decide +kernel) (by decide +kernel)
set_option maxRecDepth 20000 in
theorem gX5_counted_X5_inFrame : GoodIn wsX5_counted (wsV RX5 160 RX5 yX5_inFrame wsX5_inFrame) := goodIn_app (goodIn_of _ (by decide +kernel)) ggX5_counted_X5_inFrame
set_option maxRecDepth 20000 in
theorem ggX5_counted_X5_those : GoodIn wsX5_counted wsX5_those := goodIn_r _ [28, 29, 30, 31, 6, 32, 8, 33, 34, 35, 36, 11, 37, 38, 39, 40, 41, 42, 43, 44, 45, 46, 47, 48, 1, 49, 50, 51, 52, 53, 54, 55, 56, 57, 65, 66, 67, 68, 69, 70, 71, 72, 73, 74, 75, 76, 77, 78, 79, 80] (by decide +kernel) (by decide +kernel)
set_option maxRecDepth 20000 in
theorem gX5_counted_X5_those : GoodIn wsX5_counted (wsV RX5 164 RX5 yX5_those wsX5_those) := goodIn_app (goodIn_of _ (by decide +kernel)) ggX5_counted_X5_those
set_option maxRecDepth 20000 in
theorem ggX5_counted_X5_burnt : GoodIn wsX5_counted wsX5_burnt := goodIn_r _ [61, 1, 62, 63, 6, 64, 65, 66, 67, 68, 69, 70, 71, 72, 73, 74, 75, 76, 77, 78, 79, 80] (by decide +kernel) (by decide +kernel)
set_option maxRecDepth 20000 in
theorem gX5_counted_X5_burnt : GoodIn wsX5_counted (wsV RX5 168 RX5 yX5_burnt wsX5_burnt) := goodIn_app (goodIn_of _ (by decide +kernel)) ggX5_counted_X5_burnt
theorem dX5_counted_0 : decode cX5_counted 0 = .ok (.aload_n 0, 1) := by decide +kernel
theorem dX5_counted_1 : decode cX5_counted 1 = .ok (.aload_n 0, 1) := by decide +kernel
theorem dX5_counted_2 : decode cX5_counted 2 = .ok (.getfield 13, 3) := by decide +kernel
theorem dX5_counted_5 : decode cX5_counted 5 = .ok (.invokevirtual 147, 3) := by decide +kernel
theorem dX5_counted_8 : decode cX5_counted 8 = .ok (.iload_n 1, 1) := by decide +kernel
theorem dX5_counted_9 : decode cX5_counted 9 = .ok (.iconst 4, 1) := by decide +kernel
theorem dX5_counted_10 : decode cX5_counted 10 = .ok (.if_icmp .ge 46, 3) := by decide +kernel
theorem dX5_counted_13 : decode cX5_counted 13 = .ok (.iload_n 1, 1) := by decide +kernel
theorem dX5_counted_14 : decode cX5_counted 14 = .ok (.ifCond .ne 12, 3) := by decide +kernel
theorem dX5_counted_17 : decode cX5_counted 17 = .ok (.aload_n 0, 1) := by decide +kernel
theorem dX5_counted_18 : decode cX5_counted 18 = .ok (.getfield 13, 3) := by decide +kernel
theorem dX5_counted_21 : decode cX5_counted 21 = .ok (.iconst 0, 1) := by decide +kernel
theorem dX5_counted_22 : decode cX5_counted 22 = .ok (.iaload, 1) := by decide +kernel
theorem dX5_counted_23 : decode cX5_counted 23 = .ok (.goto 32, 3) := by decide +kernel
theorem dX5_counted_26 : decode cX5_counted 26 = .ok (.iload_n 1, 1) := by decide +kernel
theorem dX5_counted_27 : decode cX5_counted 27 = .ok (.iconst 1, 1) := by decide +kernel
theorem dX5_counted_28 : decode cX5_counted 28 = .ok (.if_icmp .ne 13, 3) := by decide +kernel
theorem dX5_counted_31 : decode cX5_counted 31 = .ok (.aload_n 0, 1) := by decide +kernel
theorem dX5_counted_32 : decode cX5_counted 32 = .ok (.getfield 13, 3) := by decide +kernel
theorem dX5_counted_35 : decode cX5_counted 35 = .ok (.invokestatic 52, 3) := by decide +kernel
theorem dX5_counted_38 : decode cX5_counted 38 = .ok (.goto 17, 3) := by decide +kernel
theorem dX5_counted_41 : decode cX5_counted 41 = .ok (.aload_n 0, 1) := by decide +kernel
theorem dX5_counted_42 : decode cX5_counted 42 = .ok (.iload_n 1, 1) := by decide +kernel
theorem dX5_counted_43 : decode cX5_counted 43 = .ok (.iconst 2, 1) := by decide +kernel
theorem dX5_counted_44 : decode cX5_counted 44 = .ok (.if_icmp .ne 7, 3) := by decide +kernel
theorem dX5_counted_47 : decode cX5_counted 47 = .ok (.iconst 1, 1) := by decide +kernel
theorem dX5_counted_48 : decode cX5_counted 48 = .ok (.goto 4, 3) := by decide +kernel
theorem dX5_counted_51 : decode cX5_counted 51 = .ok (.iconst 0, 1) := by decide +kernel
theorem dX5_counted_52 : decode cX5_counted 52 = .ok (.invokevirtual 160, 3) := by decide +kernel
theorem dX5_counted_55 : decode cX5_counted 55 = .ok (.ireturn, 1) := by decide +kernel
theorem dX5_counted_56 : decode cX5_counted 56 = .ok (.iload_n 1, 1) := by decide +kernel
theorem dX5_counted_57 : decode cX5_counted 57 = .ok (.bipush 7, 2) := by decide +kernel
theorem dX5_counted_59 : decode cX5_counted 59 = .ok (.if_icmp .ge 13, 3) := by decide +kernel
theorem dX5_counted_62 : decode cX5_counted 62 = .ok (.aload_n 0, 1) := by decide +kernel
theorem dX5_counted_63 : decode cX5_counted 63 = .ok (.aload_n 0, 1) := by decide +kernel
theorem dX5_counted_64 : decode cX5_counted 64 = .ok (.getfield 13, 3) := by decide +kernel
theorem dX5_counted_67 : decode cX5_counted 67 = .ok (.iload_n 1, 1) := by decide +kernel
theorem dX5_counted_68 : decode cX5_counted 68 = .ok (.invokevirtual 164, 3) := by decide +kernel
theorem dX5_counted_71 : decode cX5_counted 71 = .ok (.ireturn, 1) := by decide +kernel
theorem dX5_counted_72 : decode cX5_counted 72 = .ok (.iload_n 1, 1) := by decide +kernel
theorem dX5_counted_73 : decode cX5_counted 73 = .ok (.bipush 7, 2) := by decide +kernel
theorem dX5_counted_75 : decode cX5_counted 75 = .ok (.if_icmp .ne 10, 3) := by decide +kernel
theorem dX5_counted_78 : decode cX5_counted 78 = .ok (.aload_n 0, 1) := by decide +kernel
theorem dX5_counted_79 : decode cX5_counted 79 = .ok (.invokevirtual 168, 3) := by decide +kernel
theorem dX5_counted_82 : decode cX5_counted 82 = .ok (.goto 38, 3) := by decide +kernel
theorem dX5_counted_85 : decode cX5_counted 85 = .ok (.iload_n 1, 1) := by decide +kernel
theorem dX5_counted_86 : decode cX5_counted 86 = .ok (.bipush 8, 2) := by decide +kernel
theorem dX5_counted_88 : decode cX5_counted 88 = .ok (.if_icmp .ne 12, 3) := by decide +kernel
theorem dX5_counted_91 : decode cX5_counted 91 = .ok (.aload_n 0, 1) := by decide +kernel
theorem dX5_counted_92 : decode cX5_counted 92 = .ok (.getfield 13, 3) := by decide +kernel
theorem dX5_counted_95 : decode cX5_counted 95 = .ok (.iconst 1, 1) := by decide +kernel
theorem dX5_counted_96 : decode cX5_counted 96 = .ok (.iaload, 1) := by decide +kernel
theorem dX5_counted_97 : decode cX5_counted 97 = .ok (.goto 23, 3) := by decide +kernel
theorem dX5_counted_100 : decode cX5_counted 100 = .ok (.iload_n 1, 1) := by decide +kernel
theorem dX5_counted_101 : decode cX5_counted 101 = .ok (.bipush 9, 2) := by decide +kernel
theorem dX5_counted_103 : decode cX5_counted 103 = .ok (.if_icmp .ne 13, 3) := by decide +kernel
theorem dX5_counted_106 : decode cX5_counted 106 = .ok (.aload_n 0, 1) := by decide +kernel
theorem dX5_counted_107 : decode cX5_counted 107 = .ok (.getfield 13, 3) := by decide +kernel
theorem dX5_counted_110 : decode cX5_counted 110 = .ok (.bipush 7, 2) := by decide +kernel
theorem dX5_counted_112 : decode cX5_counted 112 = .ok (.iaload, 1) := by decide +kernel
theorem dX5_counted_113 : decode cX5_counted 113 = .ok (.goto 7, 3) := by decide +kernel
theorem dX5_counted_116 : decode cX5_counted 116 = .ok (.aload_n 0, 1) := by decide +kernel
theorem dX5_counted_117 : decode cX5_counted 117 = .ok (.getfield 45, 3) := by decide +kernel
theorem dX5_counted_120 : decode cX5_counted 120 = .ok (.ireturn, 1) := by decide +kernel
set_option maxRecDepth 20000 in
theorem ggX5_count_X5_in : GoodIn wsX5_count wsX5_in := goodIn_r _ [5] (by decide +kernel) (by decide +kernel)
set_option maxRecDepth 20000 in
theorem gX5_count_X5_in : GoodIn wsX5_count (va_wsS RX5 41 yX5_in wsX5_in) := goodIn_app (goodIn_of _ (by decide +kernel)) ggX5_count_X5_in
set_option maxRecDepth 20000 in
theorem ggX5_count_X5_counted : GoodIn wsX5_count wsX5_counted := goodIn_r _ [9, 10, 11, 12, 13, 14, 4, 15, 16, 17, 18, 19, 20, 21, 22, 23, 24, 25, 26, 27, 28, 29, 30, 31, 32, 33, 34, 35, 36, 37, 38, 39, 40, 41, 42, 43, 44, 45, 46, 47, 48, 49, 50, 51, 52, 53, 54, 55, 56, 57, 58, 59, 60, 61, 62, 63, 64, 65, 66, 67, 68, 69, 70, 71, 72, 77, 78, 79, 80, 81, 82, 83, 84, 85, 86, 87, 88, 89, 90, 91, 92] (by decide +kernel) (by decide +kernel)
set_option maxRecDepth 20000 in
theorem gX5_count_X5_counted : GoodIn wsX5_count (wsV RX5 171 RX5 yX5_counted wsX5_counted) := goodIn_app (goodIn_of _ (by decide +kernel)) ggX5_count_X5_counted
set_option maxRecDepth 20000 in
theorem ggX5_count_X5_fails : GoodIn wsX5_count wsX5_fails := goodIn_r _ [76, 1, 77, 78, 79, 80, 81, 82, 83, 84, 85, 86, 87, 88, 89, 90, 91, 92] (by decide +kernel) (by decide +kernel)
set_option maxRecDepth 20000 in
theorem gX5_count_X5_fails : GoodIn wsX5_count (wsV RX5 48 RX5 yX5_fails wsX5_fails) := goodIn_app (goodIn_of _ (by decide +kernel)) ggX5_count_X5_fails
theorem dX5_count_0 : decode cX5_count 0 = .ok (.aload_n 0, 1) := by decide +kernel
theorem dX5_count_1 : decode cX5_count 1 = .ok (.iconst 0, 1) := by decide +kernel
theorem dX5_count_2 : decode cX5_count 2 = .ok (.putfield 37, 3) := by decide +kernel
theorem dX5_count_5 : decode cX5_count 5 = .ok (.iload_n 1, 1) := by decide +kernel
theorem dX5_count_6 : decode cX5_count 6 = .ok (.iconst 0, 1) := by decide +kernel
theorem dX5_count_7 : decode cX5_count 7 = .ok (.bipush 10, 2) := by decide +kernel
theorem dX5_count_9 : decode cX5_count 9 = .ok (.invokestatic 41, 3) := by decide +kernel
theorem dX5_count_12 : decode cX5_count 12 = .ok (.ifCond .eq 11, 3) := by decide +kernel
theorem dX5_count_15 : decode cX5_count 15 = .ok (.aload_n 0, 1) := by decide +kernel
theorem dX5_count_16 : decode cX5_count 16 = .ok (.iload_n 1, 1) := by decide +kernel
theorem dX5_count_17 : decode cX5_count 17 = .ok (.invokevirtual 171, 3) := by decide +kernel
theorem dX5_count_20 : decode cX5_count 20 = .ok (.goto 8, 3) := by decide +kernel
theorem dX5_count_23 : decode cX5_count 23 = .ok (.aload_n 0, 1) := by decide +kernel
theorem dX5_count_24 : decode cX5_count 24 = .ok (.iconst 1, 1) := by decide +kernel
theorem dX5_count_25 : decode cX5_count 25 = .ok (.invokevirtual 48, 3) := by decide +kernel
theorem dX5_count_28 : decode cX5_count 28 = .ok (.ireturn, 1) := by decide +kernel
set_option maxRecDepth 20000 in
theorem ggX5_setting_X5_in : GoodIn wsX5_setting wsX5_in := goodIn_r _ [6] (by decide +kernel) (by decide +kernel)
set_option maxRecDepth 20000 in
theorem gX5_setting_X5_in : GoodIn wsX5_setting (va_wsS RX5 41 yX5_in wsX5_in) := goodIn_app (goodIn_of _ (by decide +kernel)) ggX5_setting_X5_in
set_option maxRecDepth 20000 in
theorem ggX5_setting_X5_fails : GoodIn wsX5_setting wsX5_fails := goodIn_r _ [10, 1, 11, 12, 13, 14, 15, 16, 17, 18, 19, 20, 21, 22, 23, 24, 25, 26] (by decide +kernel) (by decide +kernel)
set_option maxRecDepth 20000 in
theorem gX5_setting_X5_fails : GoodIn wsX5_setting (wsV RX5 48 RX5 yX5_fails wsX5_fails) := goodIn_app (goodIn_of _ (by decide +kernel)) ggX5_setting_X5_fails
theorem dX5_setting_0 : decode cX5_setting 0 = .ok (.aload_n 0, 1) := by decide +kernel
theorem dX5_setting_1 : decode cX5_setting 1 = .ok (.iconst 0, 1) := by decide +kernel
theorem dX5_setting_2 : decode cX5_setting 2 = .ok (.putfield 37, 3) := by decide +kernel
theorem dX5_setting_5 : decode cX5_setting 5 = .ok (.iload_n 1, 1) := by decide +kernel
theorem dX5_setting_6 : decode cX5_setting 6 = .ok (.iconst 0, 1) := by decide +kernel
theorem dX5_setting_7 : decode cX5_setting 7 = .ok (.iconst 4, 1) := by decide +kernel
theorem dX5_setting_8 : decode cX5_setting 8 = .ok (.invokestatic 41, 3) := by decide +kernel
theorem dX5_setting_11 : decode cX5_setting 11 = .ok (.ifCond .eq 14, 3) := by decide +kernel
theorem dX5_setting_14 : decode cX5_setting 14 = .ok (.aload_n 0, 1) := by decide +kernel
theorem dX5_setting_15 : decode cX5_setting 15 = .ok (.getfield 13, 3) := by decide +kernel
theorem dX5_setting_18 : decode cX5_setting 18 = .ok (.iconst 2, 1) := by decide +kernel
theorem dX5_setting_19 : decode cX5_setting 19 = .ok (.iload_n 1, 1) := by decide +kernel
theorem dX5_setting_20 : decode cX5_setting 20 = .ok (.iadd, 1) := by decide +kernel
theorem dX5_setting_21 : decode cX5_setting 21 = .ok (.iaload, 1) := by decide +kernel
theorem dX5_setting_22 : decode cX5_setting 22 = .ok (.goto 8, 3) := by decide +kernel
theorem dX5_setting_25 : decode cX5_setting 25 = .ok (.aload_n 0, 1) := by decide +kernel
theorem dX5_setting_26 : decode cX5_setting 26 = .ok (.iconst 1, 1) := by decide +kernel
theorem dX5_setting_27 : decode cX5_setting 27 = .ok (.invokevirtual 48, 3) := by decide +kernel
theorem dX5_setting_30 : decode cX5_setting 30 = .ok (.ireturn, 1) := by decide +kernel
set_option maxRecDepth 20000 in
theorem ggX5_tries_X5_frames : GoodIn wsX5_tries wsX5_frames := goodIn_r _ [7, 8, 9, 10, 11, 12, 13, 6, 14, 15, 16, 17, 18, 19, 20, 21, 22, 23, 24, 25, 26, 27, 28, 29, 30, 31, 32, 33, 34, 35, 36] (by decide +kernel) (by decide +kernel)
set_option maxRecDepth 20000 in
theorem gX5_tries_X5_frames : GoodIn wsX5_tries (wsV RX5 147 RX5 yX5_frames wsX5_frames) := goodIn_app (goodIn_of _ (by decide +kernel)) ggX5_tries_X5_frames
theorem dX5_tries_0 : decode cX5_tries 0 = .ok (.iconst 0, 1) := by decide +kernel
theorem dX5_tries_1 : decode cX5_tries 1 = .ok (.istore_n 3, 1) := by decide +kernel
theorem dX5_tries_2 : decode cX5_tries 2 = .ok (.iload_n 3, 1) := by decide +kernel
theorem dX5_tries_3 : decode cX5_tries 3 = .ok (.bipush 80, 2) := by decide +kernel
theorem dX5_tries_5 : decode cX5_tries 5 = .ok (.if_icmp .ge 21, 3) := by decide +kernel
theorem dX5_tries_8 : decode cX5_tries 8 = .ok (.aload_n 0, 1) := by decide +kernel
theorem dX5_tries_9 : decode cX5_tries 9 = .ok (.getfield 16, 3) := by decide +kernel
theorem dX5_tries_12 : decode cX5_tries 12 = .ok (.iload_n 3, 1) := by decide +kernel
theorem dX5_tries_13 : decode cX5_tries 13 = .ok (.aload_n 0, 1) := by decide +kernel
theorem dX5_tries_14 : decode cX5_tries 14 = .ok (.getfield 13, 3) := by decide +kernel
theorem dX5_tries_17 : decode cX5_tries 17 = .ok (.iload_n 3, 1) := by decide +kernel
theorem dX5_tries_18 : decode cX5_tries 18 = .ok (.iaload, 1) := by decide +kernel
theorem dX5_tries_19 : decode cX5_tries 19 = .ok (.iastore, 1) := by decide +kernel
theorem dX5_tries_20 : decode cX5_tries 20 = .ok (.iinc 3 1, 3) := by decide +kernel
theorem dX5_tries_23 : decode cX5_tries 23 = .ok (.goto (-21), 3) := by decide +kernel
theorem dX5_tries_26 : decode cX5_tries 26 = .ok (.iconst 0, 1) := by decide +kernel
theorem dX5_tries_27 : decode cX5_tries 27 = .ok (.istore_n 3, 1) := by decide +kernel
theorem dX5_tries_28 : decode cX5_tries 28 = .ok (.iload_n 3, 1) := by decide +kernel
theorem dX5_tries_29 : decode cX5_tries 29 = .ok (.bipush 6, 2) := by decide +kernel
theorem dX5_tries_31 : decode cX5_tries 31 = .ok (.if_icmp .ge 19, 3) := by decide +kernel
theorem dX5_tries_34 : decode cX5_tries 34 = .ok (.aload_n 0, 1) := by decide +kernel
theorem dX5_tries_35 : decode cX5_tries 35 = .ok (.getfield 16, 3) := by decide +kernel
theorem dX5_tries_38 : decode cX5_tries 38 = .ok (.bipush 26, 2) := by decide +kernel
theorem dX5_tries_40 : decode cX5_tries 40 = .ok (.iload_n 3, 1) := by decide +kernel
theorem dX5_tries_41 : decode cX5_tries 41 = .ok (.iadd, 1) := by decide +kernel
theorem dX5_tries_42 : decode cX5_tries 42 = .ok (.iconst 0, 1) := by decide +kernel
theorem dX5_tries_43 : decode cX5_tries 43 = .ok (.iastore, 1) := by decide +kernel
theorem dX5_tries_44 : decode cX5_tries 44 = .ok (.iinc 3 1, 3) := by decide +kernel
theorem dX5_tries_47 : decode cX5_tries 47 = .ok (.goto (-19), 3) := by decide +kernel
theorem dX5_tries_50 : decode cX5_tries 50 = .ok (.aload_n 0, 1) := by decide +kernel
theorem dX5_tries_51 : decode cX5_tries 51 = .ok (.getfield 16, 3) := by decide +kernel
theorem dX5_tries_54 : decode cX5_tries 54 = .ok (.bipush 14, 2) := by decide +kernel
theorem dX5_tries_56 : decode cX5_tries 56 = .ok (.iload_n 1, 1) := by decide +kernel
theorem dX5_tries_57 : decode cX5_tries 57 = .ok (.iadd, 1) := by decide +kernel
theorem dX5_tries_58 : decode cX5_tries 58 = .ok (.iload_n 2, 1) := by decide +kernel
theorem dX5_tries_59 : decode cX5_tries 59 = .ok (.iastore, 1) := by decide +kernel
theorem dX5_tries_60 : decode cX5_tries 60 = .ok (.aload_n 0, 1) := by decide +kernel
theorem dX5_tries_61 : decode cX5_tries 61 = .ok (.aload_n 0, 1) := by decide +kernel
theorem dX5_tries_62 : decode cX5_tries 62 = .ok (.getfield 16, 3) := by decide +kernel
theorem dX5_tries_65 : decode cX5_tries 65 = .ok (.invokevirtual 147, 3) := by decide +kernel
theorem dX5_tries_68 : decode cX5_tries 68 = .ok (.return_, 1) := by decide +kernel
set_option maxRecDepth 20000 in
theorem ggX5_byLevel_X5_tries : GoodIn wsX5_byLevel wsX5_tries := goodIn_r _ [6, 1, 7, 8, 9, 10, 5, 11, 12, 13, 14, 15, 16, 17, 18, 19, 20, 21, 22, 23, 24, 58, 59, 60, 61, 62, 63, 64, 65, 66, 67, 68, 69, 70, 71, 72, 73] (by decide +kernel) (by decide +kernel)
set_option maxRecDepth 20000 in
theorem gX5_byLevel_X5_tries : GoodIn wsX5_byLevel (wsV RX5 174 RX5 yX5_tries wsX5_tries) := goodIn_app (goodIn_of _ (by decide +kernel)) ggX5_byLevel_X5_tries
set_option maxRecDepth 20000 in
theorem ggX5_byLevel_X5_light : GoodIn wsX5_byLevel wsX5_light := goodIn_r _ [28, 12, 15, 58, 59, 60, 61, 62, 63, 64, 65, 66, 67, 68, 69, 70, 71, 72, 73] (by decide +kernel) (by decide +kernel)
set_option maxRecDepth 20000 in
theorem gX5_byLevel_X5_light : GoodIn wsX5_byLevel (wsV RX5 70 RX5 yX5_light wsX5_light) := goodIn_app (goodIn_of _ (by decide +kernel)) ggX5_byLevel_X5_light
set_option maxRecDepth 20000 in
theorem ggX5_byLevel_X5_those : GoodIn wsX5_byLevel wsX5_those := goodIn_r _ [32, 33, 34, 35, 5, 36, 12, 37, 38, 39, 40, 15, 41, 42, 43, 44, 25, 26, 27, 28, 45, 46, 47, 48, 7, 49, 50, 51, 52, 53, 54, 55, 56, 57, 58, 59, 60, 61, 62, 63, 64, 65, 66, 67, 68, 69, 70, 71, 72, 73] (by decide +kernel) (by decide +kernel)
set_option maxRecDepth 20000 in
theorem gX5_byLevel_X5_those : GoodIn wsX5_byLevel (wsV RX5 164 RX5 yX5_those wsX5_those) := goodIn_app (goodIn_of _ (by decide +kernel)) ggX5_byLevel_X5_those
theorem dX5_byLevel_0 : decode cX5_byLevel 0 = .ok (.aload_n 0, 1) := by decide +kernel
theorem dX5_byLevel_1 : decode cX5_byLevel 1 = .ok (.iload_n 1, 1) := by decide +kernel
theorem dX5_byLevel_2 : decode cX5_byLevel 2 = .ok (.iload_n 2, 1) := by decide +kernel
theorem dX5_byLevel_3 : decode cX5_byLevel 3 = .ok (.invokevirtual 174, 3) := by decide +kernel
theorem dX5_byLevel_6 : decode cX5_byLevel 6 = .ok (.iload_n 3, 1) := by decide +kernel
theorem dX5_byLevel_7 : decode cX5_byLevel 7 = .ok (.ifCond .ne 11, 3) := by decide +kernel
theorem dX5_byLevel_10 : decode cX5_byLevel 10 = .ok (.aload_n 0, 1) := by decide +kernel
theorem dX5_byLevel_11 : decode cX5_byLevel 11 = .ok (.iload_n 1, 1) := by decide +kernel
theorem dX5_byLevel_12 : decode cX5_byLevel 12 = .ok (.invokevirtual 70, 3) := by decide +kernel
theorem dX5_byLevel_15 : decode cX5_byLevel 15 = .ok (.goto 21, 3) := by decide +kernel
theorem dX5_byLevel_18 : decode cX5_byLevel 18 = .ok (.aload_n 0, 1) := by decide +kernel
theorem dX5_byLevel_19 : decode cX5_byLevel 19 = .ok (.aload_n 0, 1) := by decide +kernel
theorem dX5_byLevel_20 : decode cX5_byLevel 20 = .ok (.getfield 16, 3) := by decide +kernel
theorem dX5_byLevel_23 : decode cX5_byLevel 23 = .ok (.iload_n 3, 1) := by decide +kernel
theorem dX5_byLevel_24 : decode cX5_byLevel 24 = .ok (.iconst 1, 1) := by decide +kernel
theorem dX5_byLevel_25 : decode cX5_byLevel 25 = .ok (.if_icmp .ne 7, 3) := by decide +kernel
theorem dX5_byLevel_28 : decode cX5_byLevel 28 = .ok (.iconst 5, 1) := by decide +kernel
theorem dX5_byLevel_29 : decode cX5_byLevel 29 = .ok (.goto 4, 3) := by decide +kernel
theorem dX5_byLevel_32 : decode cX5_byLevel 32 = .ok (.iconst 4, 1) := by decide +kernel
theorem dX5_byLevel_33 : decode cX5_byLevel 33 = .ok (.invokevirtual 164, 3) := by decide +kernel
theorem dX5_byLevel_36 : decode cX5_byLevel 36 = .ok (.ireturn, 1) := by decide +kernel
set_option maxRecDepth 20000 in
theorem ggX5_ifLevel_X5_isDigit : GoodIn wsX5_ifLevel wsX5_isDigit := goodIn_r _ [5, 6, 7, 4, 8] (by decide +kernel) (by decide +kernel)
set_option maxRecDepth 20000 in
theorem gX5_ifLevel_X5_isDigit : GoodIn wsX5_ifLevel (va_wsS RX5 87 yX5_isDigit wsX5_isDigit) := goodIn_app (goodIn_of _ (by decide +kernel)) ggX5_ifLevel_X5_isDigit
set_option maxRecDepth 20000 in
theorem ggX5_ifLevel_X5_fails : GoodIn wsX5_ifLevel wsX5_fails := goodIn_r _ [12, 1, 76, 77, 78, 79, 80, 81, 82, 83, 84, 85, 86, 87, 88, 89, 90, 91] (by decide +kernel) (by decide +kernel)
set_option maxRecDepth 20000 in
theorem gX5_ifLevel_X5_fails : GoodIn wsX5_ifLevel (wsV RX5 48 RX5 yX5_fails wsX5_fails) := goodIn_app (goodIn_of _ (by decide +kernel)) ggX5_ifLevel_X5_fails
set_option maxRecDepth 20000 in
theorem ggX5_ifLevel_X5_isLevel : GoodIn wsX5_ifLevel wsX5_isLevel := goodIn_r _ [15, 6, 7, 4, 8] (by decide +kernel) (by decide +kernel)
set_option maxRecDepth 20000 in
theorem gX5_ifLevel_X5_isLevel : GoodIn wsX5_ifLevel (va_wsS RX5 100 yX5_isLevel wsX5_isLevel) := goodIn_app (goodIn_of _ (by decide +kernel)) ggX5_ifLevel_X5_isLevel
set_option maxRecDepth 20000 in
theorem ggX5_ifLevel_X5_in : GoodIn wsX5_ifLevel wsX5_in := goodIn_r _ [8] (by decide +kernel) (by decide +kernel)
set_option maxRecDepth 20000 in
theorem gX5_ifLevel_X5_in : GoodIn wsX5_ifLevel (va_wsS RX5 41 yX5_in wsX5_in) := goodIn_app (goodIn_of _ (by decide +kernel)) ggX5_ifLevel_X5_in
set_option maxRecDepth 20000 in
theorem ggX5_ifLevel_X5_byLevel : GoodIn wsX5_ifLevel wsX5_byLevel := goodIn_r _ [19, 20, 21, 22, 23, 4, 24, 25, 26, 27, 28, 29, 30, 31, 32, 33, 34, 35, 36, 37, 38, 39, 40, 41, 42, 43, 44, 45, 46, 47, 48, 49, 50, 51, 52, 53, 54, 55, 56, 57, 58, 59, 60, 61, 62, 63, 64, 65, 66, 67, 68, 69, 70, 71, 72, 73, 74, 75, 76, 77, 78, 79, 80, 81, 82, 83, 84, 85, 86, 87, 88, 89, 90, 91] (by decide +kernel) (by decide +kernel)
set_option maxRecDepth 20000 in
theorem gX5_ifLevel_X5_byLevel : GoodIn wsX5_ifLevel (wsV RX5 178 RX5 yX5_byLevel wsX5_byLevel) := goodIn_app (goodIn_of _ (by decide +kernel)) ggX5_ifLevel_X5_byLevel
theorem dX5_ifLevel_0 : decode cX5_ifLevel 0 = .ok (.aload_n 0, 1) := by decide +kernel
theorem dX5_ifLevel_1 : decode cX5_ifLevel 1 = .ok (.iconst 0, 1) := by decide +kernel
theorem dX5_ifLevel_2 : decode cX5_ifLevel 2 = .ok (.putfield 37, 3) := by decide +kernel
theorem dX5_ifLevel_5 : decode cX5_ifLevel 5 = .ok (.iload_n 1, 1) := by decide +kernel
theorem dX5_ifLevel_6 : decode cX5_ifLevel 6 = .ok (.invokestatic 87, 3) := by decide +kernel
theorem dX5_ifLevel_9 : decode cX5_ifLevel 9 = .ok (.ifCond .ne 9, 3) := by decide +kernel
theorem dX5_ifLevel_12 : decode cX5_ifLevel 12 = .ok (.aload_n 0, 1) := by decide +kernel
theorem dX5_ifLevel_13 : decode cX5_ifLevel 13 = .ok (.iconst 1, 1) := by decide +kernel
theorem dX5_ifLevel_14 : decode cX5_ifLevel 14 = .ok (.invokevirtual 48, 3) := by decide +kernel
theorem dX5_ifLevel_17 : decode cX5_ifLevel 17 = .ok (.ireturn, 1) := by decide +kernel
theorem dX5_ifLevel_18 : decode cX5_ifLevel 18 = .ok (.iload_n 2, 1) := by decide +kernel
theorem dX5_ifLevel_19 : decode cX5_ifLevel 19 = .ok (.invokestatic 100, 3) := by decide +kernel
theorem dX5_ifLevel_22 : decode cX5_ifLevel 22 = .ok (.ifCond .eq 22, 3) := by decide +kernel
theorem dX5_ifLevel_25 : decode cX5_ifLevel 25 = .ok (.iload_n 3, 1) := by decide +kernel
theorem dX5_ifLevel_26 : decode cX5_ifLevel 26 = .ok (.iconst 0, 1) := by decide +kernel
theorem dX5_ifLevel_27 : decode cX5_ifLevel 27 = .ok (.iconst 2, 1) := by decide +kernel
theorem dX5_ifLevel_28 : decode cX5_ifLevel 28 = .ok (.invokestatic 41, 3) := by decide +kernel
theorem dX5_ifLevel_31 : decode cX5_ifLevel 31 = .ok (.ifCond .eq 13, 3) := by decide +kernel
theorem dX5_ifLevel_34 : decode cX5_ifLevel 34 = .ok (.aload_n 0, 1) := by decide +kernel
theorem dX5_ifLevel_35 : decode cX5_ifLevel 35 = .ok (.iload_n 1, 1) := by decide +kernel
theorem dX5_ifLevel_36 : decode cX5_ifLevel 36 = .ok (.iload_n 2, 1) := by decide +kernel
theorem dX5_ifLevel_37 : decode cX5_ifLevel 37 = .ok (.iload_n 3, 1) := by decide +kernel
theorem dX5_ifLevel_38 : decode cX5_ifLevel 38 = .ok (.invokevirtual 178, 3) := by decide +kernel
theorem dX5_ifLevel_41 : decode cX5_ifLevel 41 = .ok (.goto 8, 3) := by decide +kernel
theorem dX5_ifLevel_44 : decode cX5_ifLevel 44 = .ok (.aload_n 0, 1) := by decide +kernel
theorem dX5_ifLevel_45 : decode cX5_ifLevel 45 = .ok (.iconst 2, 1) := by decide +kernel
theorem dX5_ifLevel_46 : decode cX5_ifLevel 46 = .ok (.invokevirtual 48, 3) := by decide +kernel
theorem dX5_ifLevel_49 : decode cX5_ifLevel 49 = .ok (.ireturn, 1) := by decide +kernel
set_option maxRecDepth 20000 in
theorem ggX5_least_X5_tries : GoodIn wsX5_least wsX5_tries := goodIn_r _ [6, 1, 7, 8, 9, 10, 5, 11, 12, 13, 14, 15, 16, 17, 18, 19, 20, 21, 22, 23, 24, 41, 42, 43, 44, 45, 46, 47, 48, 49, 50, 51, 52, 53, 54, 55, 56] (by decide +kernel) (by decide +kernel)
set_option maxRecDepth 20000 in
theorem gX5_least_X5_tries : GoodIn wsX5_least (wsV RX5 174 RX5 yX5_tries wsX5_tries) := goodIn_app (goodIn_of _ (by decide +kernel)) ggX5_least_X5_tries
set_option maxRecDepth 20000 in
theorem ggX5_least_X5_isSeen : GoodIn wsX5_least wsX5_isSeen := goodIn_r _ [28, 29, 30, 31, 5, 32, 12, 15, 33, 34, 35, 36, 37, 38, 39, 40, 41, 42, 43, 44, 45, 46, 47, 48, 49, 50, 51, 52, 53, 54, 55, 56] (by decide +kernel) (by decide +kernel)
set_option maxRecDepth 20000 in
theorem gX5_least_X5_isSeen : GoodIn wsX5_least (wsV RX5 84 RX5 yX5_isSeen wsX5_isSeen) := goodIn_app (goodIn_of _ (by decide +kernel)) ggX5_least_X5_isSeen
theorem dX5_least_0 : decode cX5_least 0 = .ok (.iconst 0, 1) := by decide +kernel
theorem dX5_least_1 : decode cX5_least 1 = .ok (.istore_n 2, 1) := by decide +kernel
theorem dX5_least_2 : decode cX5_least 2 = .ok (.iload_n 2, 1) := by decide +kernel
theorem dX5_least_3 : decode cX5_least 3 = .ok (.bipush 15, 2) := by decide +kernel
theorem dX5_least_5 : decode cX5_least 5 = .ok (.if_icmp .gt 29, 3) := by decide +kernel
theorem dX5_least_8 : decode cX5_least 8 = .ok (.aload_n 0, 1) := by decide +kernel
theorem dX5_least_9 : decode cX5_least 9 = .ok (.iload_n 1, 1) := by decide +kernel
theorem dX5_least_10 : decode cX5_least 10 = .ok (.iload_n 2, 1) := by decide +kernel
theorem dX5_least_11 : decode cX5_least 11 = .ok (.invokevirtual 174, 3) := by decide +kernel
theorem dX5_least_14 : decode cX5_least 14 = .ok (.aload_n 0, 1) := by decide +kernel
theorem dX5_least_15 : decode cX5_least 15 = .ok (.aload_n 0, 1) := by decide +kernel
theorem dX5_least_16 : decode cX5_least 16 = .ok (.getfield 16, 3) := by decide +kernel
theorem dX5_least_19 : decode cX5_least 19 = .ok (.iload_n 1, 1) := by decide +kernel
theorem dX5_least_20 : decode cX5_least 20 = .ok (.invokevirtual 84, 3) := by decide +kernel
theorem dX5_least_23 : decode cX5_least 23 = .ok (.ifCond .eq 5, 3) := by decide +kernel
theorem dX5_least_26 : decode cX5_least 26 = .ok (.iload_n 2, 1) := by decide +kernel
theorem dX5_least_27 : decode cX5_least 27 = .ok (.ireturn, 1) := by decide +kernel
theorem dX5_least_28 : decode cX5_least 28 = .ok (.iinc 2 1, 3) := by decide +kernel
theorem dX5_least_31 : decode cX5_least 31 = .ok (.goto (-29), 3) := by decide +kernel
theorem dX5_least_34 : decode cX5_least 34 = .ok (.iconst (-1), 1) := by decide +kernel
theorem dX5_least_35 : decode cX5_least 35 = .ok (.ireturn, 1) := by decide +kernel
set_option maxRecDepth 20000 in
theorem ggX5_leastLevel_X5_isDigit : GoodIn wsX5_leastLevel wsX5_isDigit := goodIn_r _ [5, 6, 7, 4, 8] (by decide +kernel) (by decide +kernel)
set_option maxRecDepth 20000 in
theorem gX5_leastLevel_X5_isDigit : GoodIn wsX5_leastLevel (va_wsS RX5 87 yX5_isDigit wsX5_isDigit) := goodIn_app (goodIn_of _ (by decide +kernel)) ggX5_leastLevel_X5_isDigit
set_option maxRecDepth 20000 in
theorem ggX5_leastLevel_X5_least : GoodIn wsX5_leastLevel wsX5_least := goodIn_r _ [12, 13, 14, 15, 16, 4, 17, 18, 19, 20, 21, 22, 23, 24, 25, 26, 27, 28, 29, 30, 31, 32, 33, 34, 35, 36, 37, 38, 39, 40, 41, 42, 43, 44, 45, 46, 47, 48, 49, 50, 51, 56, 57, 58, 59, 60, 61, 62, 63, 64, 65, 66, 67, 68, 69, 70, 71] (by decide +kernel) (by decide +kernel)
set_option maxRecDepth 20000 in
theorem gX5_leastLevel_X5_least : GoodIn wsX5_leastLevel (wsV RX5 182 RX5 yX5_least wsX5_least) := goodIn_app (goodIn_of _ (by decide +kernel)) ggX5_leastLevel_X5_least
set_option maxRecDepth 20000 in
theorem ggX5_leastLevel_X5_fails : GoodIn wsX5_leastLevel wsX5_fails := goodIn_r _ [55, 1, 56, 57, 58, 59, 60, 61, 62, 63, 64, 65, 66, 67, 68, 69, 70, 71] (by decide +kernel) (by decide +kernel)
set_option maxRecDepth 20000 in
theorem gX5_leastLevel_X5_fails : GoodIn wsX5_leastLevel (wsV RX5 48 RX5 yX5_fails wsX5_fails) := goodIn_app (goodIn_of _ (by decide +kernel)) ggX5_leastLevel_X5_fails
theorem dX5_leastLevel_0 : decode cX5_leastLevel 0 = .ok (.aload_n 0, 1) := by decide +kernel
theorem dX5_leastLevel_1 : decode cX5_leastLevel 1 = .ok (.iconst 0, 1) := by decide +kernel
theorem dX5_leastLevel_2 : decode cX5_leastLevel 2 = .ok (.putfield 37, 3) := by decide +kernel
theorem dX5_leastLevel_5 : decode cX5_leastLevel 5 = .ok (.iload_n 1, 1) := by decide +kernel
theorem dX5_leastLevel_6 : decode cX5_leastLevel 6 = .ok (.invokestatic 87, 3) := by decide +kernel
theorem dX5_leastLevel_9 : decode cX5_leastLevel 9 = .ok (.ifCond .eq 11, 3) := by decide +kernel
theorem dX5_leastLevel_12 : decode cX5_leastLevel 12 = .ok (.aload_n 0, 1) := by decide +kernel
theorem dX5_leastLevel_13 : decode cX5_leastLevel 13 = .ok (.iload_n 1, 1) := by decide +kernel
theorem dX5_leastLevel_14 : decode cX5_leastLevel 14 = .ok (.invokevirtual 182, 3) := by decide +kernel
theorem dX5_leastLevel_17 : decode cX5_leastLevel 17 = .ok (.goto 8, 3) := by decide +kernel
theorem dX5_leastLevel_20 : decode cX5_leastLevel 20 = .ok (.aload_n 0, 1) := by decide +kernel
theorem dX5_leastLevel_21 : decode cX5_leastLevel 21 = .ok (.iconst 1, 1) := by decide +kernel
theorem dX5_leastLevel_22 : decode cX5_leastLevel 22 = .ok (.invokevirtual 48, 3) := by decide +kernel
theorem dX5_leastLevel_25 : decode cX5_leastLevel 25 = .ok (.ireturn, 1) := by decide +kernel
set_option maxRecDepth 20000 in
theorem ggX5_alike_X5_shownAs : GoodIn wsX5_alike wsX5_shownAs := goodIn_r _ [5, 6, 7, 8, 9, 10, 11, 12, 13, 14, 15, 16, 17, 18, 19, 20, 21, 22, 23] (by decide +kernel) (by decide +kernel)
set_option maxRecDepth 20000 in
theorem gX5_alike_X5_shownAs : GoodIn wsX5_alike (wsV RX5 77 RX5 yX5_shownAs wsX5_shownAs) := goodIn_app (goodIn_of _ (by decide +kernel)) ggX5_alike_X5_shownAs
theorem dX5_alike_0 : decode cX5_alike 0 = .ok (.iconst 0, 1) := by decide +kernel
theorem dX5_alike_1 : decode cX5_alike 1 = .ok (.istore_n 2, 1) := by decide +kernel
theorem dX5_alike_2 : decode cX5_alike 2 = .ok (.iconst 0, 1) := by decide +kernel
theorem dX5_alike_3 : decode cX5_alike 3 = .ok (.istore_n 3, 1) := by decide +kernel
theorem dX5_alike_4 : decode cX5_alike 4 = .ok (.iload_n 3, 1) := by decide +kernel
theorem dX5_alike_5 : decode cX5_alike 5 = .ok (.bipush 12, 2) := by decide +kernel
theorem dX5_alike_7 : decode cX5_alike 7 = .ok (.if_icmp .ge 51, 3) := by decide +kernel
theorem dX5_alike_10 : decode cX5_alike 10 = .ok (.iload_n 3, 1) := by decide +kernel
theorem dX5_alike_11 : decode cX5_alike 11 = .ok (.iconst 1, 1) := by decide +kernel
theorem dX5_alike_12 : decode cX5_alike 12 = .ok (.iadd, 1) := by decide +kernel
theorem dX5_alike_13 : decode cX5_alike 13 = .ok (.istore 4, 2) := by decide +kernel
theorem dX5_alike_15 : decode cX5_alike 15 = .ok (.iload 4, 2) := by decide +kernel
theorem dX5_alike_17 : decode cX5_alike 17 = .ok (.bipush 12, 2) := by decide +kernel
theorem dX5_alike_19 : decode cX5_alike 19 = .ok (.if_icmp .ge 33, 3) := by decide +kernel
theorem dX5_alike_22 : decode cX5_alike 22 = .ok (.iload_n 2, 1) := by decide +kernel
theorem dX5_alike_23 : decode cX5_alike 23 = .ok (.aload_n 0, 1) := by decide +kernel
theorem dX5_alike_24 : decode cX5_alike 24 = .ok (.iload_n 1, 1) := by decide +kernel
theorem dX5_alike_25 : decode cX5_alike 25 = .ok (.iload_n 3, 1) := by decide +kernel
theorem dX5_alike_26 : decode cX5_alike 26 = .ok (.invokevirtual 77, 3) := by decide +kernel
theorem dX5_alike_29 : decode cX5_alike 29 = .ok (.aload_n 0, 1) := by decide +kernel
theorem dX5_alike_30 : decode cX5_alike 30 = .ok (.iload_n 1, 1) := by decide +kernel
theorem dX5_alike_31 : decode cX5_alike 31 = .ok (.iload 4, 2) := by decide +kernel
theorem dX5_alike_33 : decode cX5_alike 33 = .ok (.invokevirtual 77, 3) := by decide +kernel
theorem dX5_alike_36 : decode cX5_alike 36 = .ok (.if_icmp .ne 7, 3) := by decide +kernel
theorem dX5_alike_39 : decode cX5_alike 39 = .ok (.iconst 1, 1) := by decide +kernel
theorem dX5_alike_40 : decode cX5_alike 40 = .ok (.goto 4, 3) := by decide +kernel
theorem dX5_alike_43 : decode cX5_alike 43 = .ok (.iconst 0, 1) := by decide +kernel
theorem dX5_alike_44 : decode cX5_alike 44 = .ok (.iadd, 1) := by decide +kernel
theorem dX5_alike_45 : decode cX5_alike 45 = .ok (.istore_n 2, 1) := by decide +kernel
theorem dX5_alike_46 : decode cX5_alike 46 = .ok (.iinc 4 1, 3) := by decide +kernel
theorem dX5_alike_49 : decode cX5_alike 49 = .ok (.goto (-34), 3) := by decide +kernel
theorem dX5_alike_52 : decode cX5_alike 52 = .ok (.iinc 3 1, 3) := by decide +kernel
theorem dX5_alike_55 : decode cX5_alike 55 = .ok (.goto (-51), 3) := by decide +kernel
theorem dX5_alike_58 : decode cX5_alike 58 = .ok (.iload_n 2, 1) := by decide +kernel
theorem dX5_alike_59 : decode cX5_alike 59 = .ok (.ireturn, 1) := by decide +kernel
set_option maxRecDepth 20000 in
theorem ggX5_alikeSigns_X5_isDigit : GoodIn wsX5_alikeSigns wsX5_isDigit := goodIn_r _ [5, 6, 7, 4, 8] (by decide +kernel) (by decide +kernel)
set_option maxRecDepth 20000 in
theorem gX5_alikeSigns_X5_isDigit : GoodIn wsX5_alikeSigns (va_wsS RX5 87 yX5_isDigit wsX5_isDigit) := goodIn_app (goodIn_of _ (by decide +kernel)) ggX5_alikeSigns_X5_isDigit
set_option maxRecDepth 20000 in
theorem ggX5_alikeSigns_X5_alike : GoodIn wsX5_alikeSigns wsX5_alike := goodIn_r _ [12, 13, 14, 15, 4, 16, 17, 18, 23, 24, 25, 26, 27, 28, 29, 30, 31, 32, 33, 34, 35, 36, 37, 38] (by decide +kernel) (by decide +kernel)
set_option maxRecDepth 20000 in
theorem gX5_alikeSigns_X5_alike : GoodIn wsX5_alikeSigns (wsV RX5 185 RX5 yX5_alike wsX5_alike) := goodIn_app (goodIn_of _ (by decide +kernel)) ggX5_alikeSigns_X5_alike
set_option maxRecDepth 20000 in
theorem ggX5_alikeSigns_X5_fails : GoodIn wsX5_alikeSigns wsX5_fails := goodIn_r _ [22, 1, 23, 24, 25, 26, 27, 28, 29, 30, 31, 32, 33, 34, 35, 36, 37, 38] (by decide +kernel) (by decide +kernel)
set_option maxRecDepth 20000 in
theorem gX5_alikeSigns_X5_fails : GoodIn wsX5_alikeSigns (wsV RX5 48 RX5 yX5_fails wsX5_fails) := goodIn_app (goodIn_of _ (by decide +kernel)) ggX5_alikeSigns_X5_fails
theorem dX5_alikeSigns_0 : decode cX5_alikeSigns 0 = .ok (.aload_n 0, 1) := by decide +kernel
theorem dX5_alikeSigns_1 : decode cX5_alikeSigns 1 = .ok (.iconst 0, 1) := by decide +kernel
theorem dX5_alikeSigns_2 : decode cX5_alikeSigns 2 = .ok (.putfield 37, 3) := by decide +kernel
theorem dX5_alikeSigns_5 : decode cX5_alikeSigns 5 = .ok (.iload_n 1, 1) := by decide +kernel
theorem dX5_alikeSigns_6 : decode cX5_alikeSigns 6 = .ok (.invokestatic 87, 3) := by decide +kernel
theorem dX5_alikeSigns_9 : decode cX5_alikeSigns 9 = .ok (.ifCond .eq 11, 3) := by decide +kernel
theorem dX5_alikeSigns_12 : decode cX5_alikeSigns 12 = .ok (.aload_n 0, 1) := by decide +kernel
theorem dX5_alikeSigns_13 : decode cX5_alikeSigns 13 = .ok (.iload_n 1, 1) := by decide +kernel
theorem dX5_alikeSigns_14 : decode cX5_alikeSigns 14 = .ok (.invokevirtual 185, 3) := by decide +kernel
theorem dX5_alikeSigns_17 : decode cX5_alikeSigns 17 = .ok (.goto 8, 3) := by decide +kernel
theorem dX5_alikeSigns_20 : decode cX5_alikeSigns 20 = .ok (.aload_n 0, 1) := by decide +kernel
theorem dX5_alikeSigns_21 : decode cX5_alikeSigns 21 = .ok (.iconst 1, 1) := by decide +kernel
theorem dX5_alikeSigns_22 : decode cX5_alikeSigns 22 = .ok (.invokevirtual 48, 3) := by decide +kernel
theorem dX5_alikeSigns_25 : decode cX5_alikeSigns 25 = .ok (.ireturn, 1) := by decide +kernel
set_option maxRecDepth 20000 in
theorem ggX5_shownNumber_X5_frames : GoodIn wsX5_shownNumber wsX5_frames := goodIn_r _ [6, 7, 8, 9, 10, 11, 12, 5, 13, 14, 15, 16, 17, 18, 19, 49, 50, 51, 52, 53, 54, 55, 56, 57, 58, 59, 60, 61, 62, 63, 64] (by decide +kernel) (by decide +kernel)
set_option maxRecDepth 20000 in
theorem gX5_shownNumber_X5_frames : GoodIn wsX5_shownNumber (wsV RX5 147 RX5 yX5_frames wsX5_frames) := goodIn_app (goodIn_of _ (by decide +kernel)) ggX5_shownNumber_X5_frames
set_option maxRecDepth 20000 in
theorem ggX5_shownNumber_X5_isClear : GoodIn wsX5_shownNumber wsX5_isClear := goodIn_r _ [23, 1, 24, 25, 26, 5, 27, 28, 29, 30, 31, 32, 33, 34, 35, 36, 37, 38, 39, 40, 7, 10, 41, 42, 43, 44, 45, 46, 47, 48, 49, 50, 51, 52, 53, 54, 55, 56, 57, 58, 59, 60, 61, 62, 63, 64] (by decide +kernel) (by decide +kernel)
set_option maxRecDepth 20000 in
theorem gX5_shownNumber_X5_isClear : GoodIn wsX5_shownNumber (wsV RX5 151 RX5 yX5_isClear wsX5_isClear) := goodIn_app (goodIn_of _ (by decide +kernel)) ggX5_shownNumber_X5_isClear
theorem dX5_shownNumber_0 : decode cX5_shownNumber 0 = .ok (.aload_n 0, 1) := by decide +kernel
theorem dX5_shownNumber_1 : decode cX5_shownNumber 1 = .ok (.aload_n 0, 1) := by decide +kernel
theorem dX5_shownNumber_2 : decode cX5_shownNumber 2 = .ok (.getfield 13, 3) := by decide +kernel
theorem dX5_shownNumber_5 : decode cX5_shownNumber 5 = .ok (.invokevirtual 147, 3) := by decide +kernel
theorem dX5_shownNumber_8 : decode cX5_shownNumber 8 = .ok (.iconst 0, 1) := by decide +kernel
theorem dX5_shownNumber_9 : decode cX5_shownNumber 9 = .ok (.istore_n 1, 1) := by decide +kernel
theorem dX5_shownNumber_10 : decode cX5_shownNumber 10 = .ok (.iload_n 1, 1) := by decide +kernel
theorem dX5_shownNumber_11 : decode cX5_shownNumber 11 = .ok (.bipush 6, 2) := by decide +kernel
theorem dX5_shownNumber_13 : decode cX5_shownNumber 13 = .ok (.if_icmp .ge 23, 3) := by decide +kernel
theorem dX5_shownNumber_16 : decode cX5_shownNumber 16 = .ok (.aload_n 0, 1) := by decide +kernel
theorem dX5_shownNumber_17 : decode cX5_shownNumber 17 = .ok (.getfield 13, 3) := by decide +kernel
theorem dX5_shownNumber_20 : decode cX5_shownNumber 20 = .ok (.bipush 8, 2) := by decide +kernel
theorem dX5_shownNumber_22 : decode cX5_shownNumber 22 = .ok (.iload_n 1, 1) := by decide +kernel
theorem dX5_shownNumber_23 : decode cX5_shownNumber 23 = .ok (.iadd, 1) := by decide +kernel
theorem dX5_shownNumber_24 : decode cX5_shownNumber 24 = .ok (.iaload, 1) := by decide +kernel
theorem dX5_shownNumber_25 : decode cX5_shownNumber 25 = .ok (.bipush 11, 2) := by decide +kernel
theorem dX5_shownNumber_27 : decode cX5_shownNumber 27 = .ok (.if_icmp .ne 9, 3) := by decide +kernel
theorem dX5_shownNumber_30 : decode cX5_shownNumber 30 = .ok (.iinc 1 1, 3) := by decide +kernel
theorem dX5_shownNumber_33 : decode cX5_shownNumber 33 = .ok (.goto (-23), 3) := by decide +kernel
theorem dX5_shownNumber_36 : decode cX5_shownNumber 36 = .ok (.iload_n 1, 1) := by decide +kernel
theorem dX5_shownNumber_37 : decode cX5_shownNumber 37 = .ok (.bipush 6, 2) := by decide +kernel
theorem dX5_shownNumber_39 : decode cX5_shownNumber 39 = .ok (.if_icmp .ge 21, 3) := by decide +kernel
theorem dX5_shownNumber_42 : decode cX5_shownNumber 42 = .ok (.aload_n 0, 1) := by decide +kernel
theorem dX5_shownNumber_43 : decode cX5_shownNumber 43 = .ok (.getfield 13, 3) := by decide +kernel
theorem dX5_shownNumber_46 : decode cX5_shownNumber 46 = .ok (.bipush 8, 2) := by decide +kernel
theorem dX5_shownNumber_48 : decode cX5_shownNumber 48 = .ok (.iload_n 1, 1) := by decide +kernel
theorem dX5_shownNumber_49 : decode cX5_shownNumber 49 = .ok (.iadd, 1) := by decide +kernel
theorem dX5_shownNumber_50 : decode cX5_shownNumber 50 = .ok (.iaload, 1) := by decide +kernel
theorem dX5_shownNumber_51 : decode cX5_shownNumber 51 = .ok (.bipush 10, 2) := by decide +kernel
theorem dX5_shownNumber_53 : decode cX5_shownNumber 53 = .ok (.if_icmp .ne 7, 3) := by decide +kernel
theorem dX5_shownNumber_56 : decode cX5_shownNumber 56 = .ok (.iconst 1, 1) := by decide +kernel
theorem dX5_shownNumber_57 : decode cX5_shownNumber 57 = .ok (.goto 4, 3) := by decide +kernel
theorem dX5_shownNumber_60 : decode cX5_shownNumber 60 = .ok (.iconst 0, 1) := by decide +kernel
theorem dX5_shownNumber_61 : decode cX5_shownNumber 61 = .ok (.istore_n 2, 1) := by decide +kernel
theorem dX5_shownNumber_62 : decode cX5_shownNumber 62 = .ok (.iload_n 2, 1) := by decide +kernel
theorem dX5_shownNumber_63 : decode cX5_shownNumber 63 = .ok (.ifCond .eq 11, 3) := by decide +kernel
theorem dX5_shownNumber_66 : decode cX5_shownNumber 66 = .ok (.aload_n 0, 1) := by decide +kernel
theorem dX5_shownNumber_67 : decode cX5_shownNumber 67 = .ok (.iload_n 1, 1) := by decide +kernel
theorem dX5_shownNumber_68 : decode cX5_shownNumber 68 = .ok (.invokevirtual 151, 3) := by decide +kernel
theorem dX5_shownNumber_71 : decode cX5_shownNumber 71 = .ok (.ifCond .eq 7, 3) := by decide +kernel
theorem dX5_shownNumber_74 : decode cX5_shownNumber 74 = .ok (.iconst 1, 1) := by decide +kernel
theorem dX5_shownNumber_75 : decode cX5_shownNumber 75 = .ok (.goto 4, 3) := by decide +kernel
theorem dX5_shownNumber_78 : decode cX5_shownNumber 78 = .ok (.iconst 0, 1) := by decide +kernel
theorem dX5_shownNumber_79 : decode cX5_shownNumber 79 = .ok (.istore_n 3, 1) := by decide +kernel
theorem dX5_shownNumber_80 : decode cX5_shownNumber 80 = .ok (.iload_n 1, 1) := by decide +kernel
theorem dX5_shownNumber_81 : decode cX5_shownNumber 81 = .ok (.iload_n 2, 1) := by decide +kernel
theorem dX5_shownNumber_82 : decode cX5_shownNumber 82 = .ok (.ifCond .eq 7, 3) := by decide +kernel
theorem dX5_shownNumber_85 : decode cX5_shownNumber 85 = .ok (.iconst 1, 1) := by decide +kernel
theorem dX5_shownNumber_86 : decode cX5_shownNumber 86 = .ok (.goto 4, 3) := by decide +kernel
theorem dX5_shownNumber_89 : decode cX5_shownNumber 89 = .ok (.iconst 0, 1) := by decide +kernel
theorem dX5_shownNumber_90 : decode cX5_shownNumber 90 = .ok (.iadd, 1) := by decide +kernel
theorem dX5_shownNumber_91 : decode cX5_shownNumber 91 = .ok (.istore_n 1, 1) := by decide +kernel
theorem dX5_shownNumber_92 : decode cX5_shownNumber 92 = .ok (.iload_n 3, 1) := by decide +kernel
theorem dX5_shownNumber_93 : decode cX5_shownNumber 93 = .ok (.ifCond .eq 13, 3) := by decide +kernel
theorem dX5_shownNumber_96 : decode cX5_shownNumber 96 = .ok (.iload_n 1, 1) := by decide +kernel
theorem dX5_shownNumber_97 : decode cX5_shownNumber 97 = .ok (.bipush 6, 2) := by decide +kernel
theorem dX5_shownNumber_99 : decode cX5_shownNumber 99 = .ok (.if_icmp .ge 7, 3) := by decide +kernel
theorem dX5_shownNumber_102 : decode cX5_shownNumber 102 = .ok (.iconst 1, 1) := by decide +kernel
theorem dX5_shownNumber_103 : decode cX5_shownNumber 103 = .ok (.goto 4, 3) := by decide +kernel
theorem dX5_shownNumber_106 : decode cX5_shownNumber 106 = .ok (.iconst 0, 1) := by decide +kernel
theorem dX5_shownNumber_107 : decode cX5_shownNumber 107 = .ok (.istore_n 3, 1) := by decide +kernel
theorem dX5_shownNumber_108 : decode cX5_shownNumber 108 = .ok (.iconst 0, 1) := by decide +kernel
theorem dX5_shownNumber_109 : decode cX5_shownNumber 109 = .ok (.istore 4, 2) := by decide +kernel
theorem dX5_shownNumber_111 : decode cX5_shownNumber 111 = .ok (.iload_n 1, 1) := by decide +kernel
theorem dX5_shownNumber_112 : decode cX5_shownNumber 112 = .ok (.bipush 6, 2) := by decide +kernel
theorem dX5_shownNumber_114 : decode cX5_shownNumber 114 = .ok (.if_icmp .ge 58, 3) := by decide +kernel
theorem dX5_shownNumber_117 : decode cX5_shownNumber 117 = .ok (.iload_n 3, 1) := by decide +kernel
theorem dX5_shownNumber_118 : decode cX5_shownNumber 118 = .ok (.ifCond .eq 29, 3) := by decide +kernel
theorem dX5_shownNumber_121 : decode cX5_shownNumber 121 = .ok (.aload_n 0, 1) := by decide +kernel
theorem dX5_shownNumber_122 : decode cX5_shownNumber 122 = .ok (.getfield 13, 3) := by decide +kernel
theorem dX5_shownNumber_125 : decode cX5_shownNumber 125 = .ok (.bipush 8, 2) := by decide +kernel
theorem dX5_shownNumber_127 : decode cX5_shownNumber 127 = .ok (.iload_n 1, 1) := by decide +kernel
theorem dX5_shownNumber_128 : decode cX5_shownNumber 128 = .ok (.iadd, 1) := by decide +kernel
theorem dX5_shownNumber_129 : decode cX5_shownNumber 129 = .ok (.iaload, 1) := by decide +kernel
theorem dX5_shownNumber_130 : decode cX5_shownNumber 130 = .ok (.bipush 10, 2) := by decide +kernel
theorem dX5_shownNumber_132 : decode cX5_shownNumber 132 = .ok (.if_icmp .ge 15, 3) := by decide +kernel
theorem dX5_shownNumber_135 : decode cX5_shownNumber 135 = .ok (.aload_n 0, 1) := by decide +kernel
theorem dX5_shownNumber_136 : decode cX5_shownNumber 136 = .ok (.iload_n 1, 1) := by decide +kernel
theorem dX5_shownNumber_137 : decode cX5_shownNumber 137 = .ok (.invokevirtual 151, 3) := by decide +kernel
theorem dX5_shownNumber_140 : decode cX5_shownNumber 140 = .ok (.ifCond .eq 7, 3) := by decide +kernel
theorem dX5_shownNumber_143 : decode cX5_shownNumber 143 = .ok (.iconst 1, 1) := by decide +kernel
theorem dX5_shownNumber_144 : decode cX5_shownNumber 144 = .ok (.goto 4, 3) := by decide +kernel
theorem dX5_shownNumber_147 : decode cX5_shownNumber 147 = .ok (.iconst 0, 1) := by decide +kernel
theorem dX5_shownNumber_148 : decode cX5_shownNumber 148 = .ok (.istore_n 3, 1) := by decide +kernel
theorem dX5_shownNumber_149 : decode cX5_shownNumber 149 = .ok (.bipush 10, 2) := by decide +kernel
theorem dX5_shownNumber_151 : decode cX5_shownNumber 151 = .ok (.iload 4, 2) := by decide +kernel
theorem dX5_shownNumber_153 : decode cX5_shownNumber 153 = .ok (.imul, 1) := by decide +kernel
theorem dX5_shownNumber_154 : decode cX5_shownNumber 154 = .ok (.aload_n 0, 1) := by decide +kernel
theorem dX5_shownNumber_155 : decode cX5_shownNumber 155 = .ok (.getfield 13, 3) := by decide +kernel
theorem dX5_shownNumber_158 : decode cX5_shownNumber 158 = .ok (.bipush 8, 2) := by decide +kernel
theorem dX5_shownNumber_160 : decode cX5_shownNumber 160 = .ok (.iload_n 1, 1) := by decide +kernel
theorem dX5_shownNumber_161 : decode cX5_shownNumber 161 = .ok (.iadd, 1) := by decide +kernel
theorem dX5_shownNumber_162 : decode cX5_shownNumber 162 = .ok (.iaload, 1) := by decide +kernel
theorem dX5_shownNumber_163 : decode cX5_shownNumber 163 = .ok (.iadd, 1) := by decide +kernel
theorem dX5_shownNumber_164 : decode cX5_shownNumber 164 = .ok (.istore 4, 2) := by decide +kernel
theorem dX5_shownNumber_166 : decode cX5_shownNumber 166 = .ok (.iinc 1 1, 3) := by decide +kernel
theorem dX5_shownNumber_169 : decode cX5_shownNumber 169 = .ok (.goto (-58), 3) := by decide +kernel
theorem dX5_shownNumber_172 : decode cX5_shownNumber 172 = .ok (.iload_n 3, 1) := by decide +kernel
theorem dX5_shownNumber_173 : decode cX5_shownNumber 173 = .ok (.ifCond .eq 18, 3) := by decide +kernel
theorem dX5_shownNumber_176 : decode cX5_shownNumber 176 = .ok (.iload_n 2, 1) := by decide +kernel
theorem dX5_shownNumber_177 : decode cX5_shownNumber 177 = .ok (.ifCond .eq 9, 3) := by decide +kernel
theorem dX5_shownNumber_180 : decode cX5_shownNumber 180 = .ok (.iload 4, 2) := by decide +kernel
theorem dX5_shownNumber_182 : decode cX5_shownNumber 182 = .ok (.ineg, 1) := by decide +kernel
theorem dX5_shownNumber_183 : decode cX5_shownNumber 183 = .ok (.goto 9, 3) := by decide +kernel
theorem dX5_shownNumber_186 : decode cX5_shownNumber 186 = .ok (.iload 4, 2) := by decide +kernel
theorem dX5_shownNumber_188 : decode cX5_shownNumber 188 = .ok (.goto 4, 3) := by decide +kernel
theorem dX5_shownNumber_191 : decode cX5_shownNumber 191 = .ok (.iconst (-1), 1) := by decide +kernel
theorem dX5_shownNumber_192 : decode cX5_shownNumber 192 = .ok (.ireturn, 1) := by decide +kernel
set_option maxRecDepth 20000 in
theorem ggX5_numberShown_X5_shownNumber : GoodIn wsX5_numberShown wsX5_shownNumber := goodIn_r _ [6, 7, 8, 9, 10, 5, 11, 12, 13, 14, 15, 16, 17, 18, 19, 20, 21, 22, 23, 24, 25, 26, 27, 28, 29, 30, 31, 32, 33, 34, 35, 36, 37, 38, 39, 40, 41, 42, 43, 44, 45, 46, 47, 48, 49, 50, 51, 52, 53, 54, 55, 56, 57, 58, 59, 60, 61, 62, 63, 64, 65, 66, 67, 68, 69] (by decide +kernel) (by decide +kernel)
set_option maxRecDepth 20000 in
theorem gX5_numberShown_X5_shownNumber : GoodIn wsX5_numberShown (wsV RX5 188 RX5 yX5_shownNumber wsX5_shownNumber) := goodIn_app (goodIn_of _ (by decide +kernel)) ggX5_numberShown_X5_shownNumber
theorem dX5_numberShown_0 : decode cX5_numberShown 0 = .ok (.aload_n 0, 1) := by decide +kernel
theorem dX5_numberShown_1 : decode cX5_numberShown 1 = .ok (.iconst 0, 1) := by decide +kernel
theorem dX5_numberShown_2 : decode cX5_numberShown 2 = .ok (.putfield 37, 3) := by decide +kernel
theorem dX5_numberShown_5 : decode cX5_numberShown 5 = .ok (.aload_n 0, 1) := by decide +kernel
theorem dX5_numberShown_6 : decode cX5_numberShown 6 = .ok (.invokevirtual 188, 3) := by decide +kernel
theorem dX5_numberShown_9 : decode cX5_numberShown 9 = .ok (.ireturn, 1) := by decide +kernel
set_option maxRecDepth 20000 in
theorem ggX5_even_X5_frames : GoodIn wsX5_even wsX5_frames := goodIn_r _ [6, 7, 8, 9, 10, 11, 12, 5, 13, 14, 15, 16, 17, 18, 19, 24, 25, 26, 27, 28, 29, 30, 31, 32, 33, 34, 35, 36, 37, 38, 39] (by decide +kernel) (by decide +kernel)
set_option maxRecDepth 20000 in
theorem gX5_even_X5_frames : GoodIn wsX5_even (wsV RX5 147 RX5 yX5_frames wsX5_frames) := goodIn_app (goodIn_of _ (by decide +kernel)) ggX5_even_X5_frames
set_option maxRecDepth 20000 in
theorem ggX5_even_X5_light : GoodIn wsX5_even wsX5_light := goodIn_r _ [23, 7, 10, 24, 25, 26, 27, 28, 29, 30, 31, 32, 33, 34, 35, 36, 37, 38, 39] (by decide +kernel) (by decide +kernel)
set_option maxRecDepth 20000 in
theorem gX5_even_X5_light : GoodIn wsX5_even (wsV RX5 70 RX5 yX5_light wsX5_light) := goodIn_app (goodIn_of _ (by decide +kernel)) ggX5_even_X5_light
theorem dX5_even_0 : decode cX5_even 0 = .ok (.aload_n 0, 1) := by decide +kernel
theorem dX5_even_1 : decode cX5_even 1 = .ok (.aload_n 0, 1) := by decide +kernel
theorem dX5_even_2 : decode cX5_even 2 = .ok (.getfield 13, 3) := by decide +kernel
theorem dX5_even_5 : decode cX5_even 5 = .ok (.invokevirtual 147, 3) := by decide +kernel
theorem dX5_even_8 : decode cX5_even 8 = .ok (.iconst (-1), 1) := by decide +kernel
theorem dX5_even_9 : decode cX5_even 9 = .ok (.istore_n 1, 1) := by decide +kernel
theorem dX5_even_10 : decode cX5_even 10 = .ok (.iconst 0, 1) := by decide +kernel
theorem dX5_even_11 : decode cX5_even 11 = .ok (.istore_n 2, 1) := by decide +kernel
theorem dX5_even_12 : decode cX5_even 12 = .ok (.iconst 0, 1) := by decide +kernel
theorem dX5_even_13 : decode cX5_even 13 = .ok (.istore_n 3, 1) := by decide +kernel
theorem dX5_even_14 : decode cX5_even 14 = .ok (.iload_n 3, 1) := by decide +kernel
theorem dX5_even_15 : decode cX5_even 15 = .ok (.bipush 6, 2) := by decide +kernel
theorem dX5_even_17 : decode cX5_even 17 = .ok (.if_icmp .ge 59, 3) := by decide +kernel
theorem dX5_even_20 : decode cX5_even 20 = .ok (.aload_n 0, 1) := by decide +kernel
theorem dX5_even_21 : decode cX5_even 21 = .ok (.getfield 13, 3) := by decide +kernel
theorem dX5_even_24 : decode cX5_even 24 = .ok (.bipush 14, 2) := by decide +kernel
theorem dX5_even_26 : decode cX5_even 26 = .ok (.iload_n 3, 1) := by decide +kernel
theorem dX5_even_27 : decode cX5_even 27 = .ok (.iadd, 1) := by decide +kernel
theorem dX5_even_28 : decode cX5_even 28 = .ok (.iaload, 1) := by decide +kernel
theorem dX5_even_29 : decode cX5_even 29 = .ok (.ifCond .le 41, 3) := by decide +kernel
theorem dX5_even_32 : decode cX5_even 32 = .ok (.aload_n 0, 1) := by decide +kernel
theorem dX5_even_33 : decode cX5_even 33 = .ok (.iload_n 3, 1) := by decide +kernel
theorem dX5_even_34 : decode cX5_even 34 = .ok (.invokevirtual 70, 3) := by decide +kernel
theorem dX5_even_37 : decode cX5_even 37 = .ok (.istore 4, 2) := by decide +kernel
theorem dX5_even_39 : decode cX5_even 39 = .ok (.iload_n 1, 1) := by decide +kernel
theorem dX5_even_40 : decode cX5_even 40 = .ok (.iconst (-1), 1) := by decide +kernel
theorem dX5_even_41 : decode cX5_even 41 = .ok (.if_icmp .eq 9, 3) := by decide +kernel
theorem dX5_even_44 : decode cX5_even 44 = .ok (.iload 4, 2) := by decide +kernel
theorem dX5_even_46 : decode cX5_even 46 = .ok (.iload_n 1, 1) := by decide +kernel
theorem dX5_even_47 : decode cX5_even 47 = .ok (.if_icmp .ge 8, 3) := by decide +kernel
theorem dX5_even_50 : decode cX5_even 50 = .ok (.iload 4, 2) := by decide +kernel
theorem dX5_even_52 : decode cX5_even 52 = .ok (.goto 4, 3) := by decide +kernel
theorem dX5_even_55 : decode cX5_even 55 = .ok (.iload_n 1, 1) := by decide +kernel
theorem dX5_even_56 : decode cX5_even 56 = .ok (.istore_n 1, 1) := by decide +kernel
theorem dX5_even_57 : decode cX5_even 57 = .ok (.iload 4, 2) := by decide +kernel
theorem dX5_even_59 : decode cX5_even 59 = .ok (.iload_n 2, 1) := by decide +kernel
theorem dX5_even_60 : decode cX5_even 60 = .ok (.if_icmp .le 8, 3) := by decide +kernel
theorem dX5_even_63 : decode cX5_even 63 = .ok (.iload 4, 2) := by decide +kernel
theorem dX5_even_65 : decode cX5_even 65 = .ok (.goto 4, 3) := by decide +kernel
theorem dX5_even_68 : decode cX5_even 68 = .ok (.iload_n 2, 1) := by decide +kernel
theorem dX5_even_69 : decode cX5_even 69 = .ok (.istore_n 2, 1) := by decide +kernel
theorem dX5_even_70 : decode cX5_even 70 = .ok (.iinc 3 1, 3) := by decide +kernel
theorem dX5_even_73 : decode cX5_even 73 = .ok (.goto (-59), 3) := by decide +kernel
theorem dX5_even_76 : decode cX5_even 76 = .ok (.iload_n 2, 1) := by decide +kernel
theorem dX5_even_77 : decode cX5_even 77 = .ok (.ifCond .ne 7, 3) := by decide +kernel
theorem dX5_even_80 : decode cX5_even 80 = .ok (.dconst 1, 1) := by decide +kernel
theorem dX5_even_81 : decode cX5_even 81 = .ok (.goto 8, 3) := by decide +kernel
theorem dX5_even_84 : decode cX5_even 84 = .ok (.iload_n 1, 1) := by decide +kernel
theorem dX5_even_85 : decode cX5_even 85 = .ok (.i2d, 1) := by decide +kernel
theorem dX5_even_86 : decode cX5_even 86 = .ok (.iload_n 2, 1) := by decide +kernel
theorem dX5_even_87 : decode cX5_even 87 = .ok (.i2d, 1) := by decide +kernel
theorem dX5_even_88 : decode cX5_even 88 = .ok (.ddiv, 1) := by decide +kernel
theorem dX5_even_89 : decode cX5_even 89 = .ok (.dreturn, 1) := by decide +kernel
set_option maxRecDepth 20000 in
theorem ggX5_evenness_X5_even : GoodIn wsX5_evenness wsX5_even := goodIn_r _ [6, 7, 8, 9, 10, 5, 11, 12, 13, 14, 15, 16, 17, 18, 19, 20, 21, 22, 23, 24, 25, 26, 27, 28, 29, 30, 31, 32, 33, 34, 35, 36, 37, 38, 39, 40, 41, 42, 43, 44] (by decide +kernel) (by decide +kernel)
set_option maxRecDepth 20000 in
theorem gX5_evenness_X5_even : GoodIn wsX5_evenness (wsV RX5 191 RX5 yX5_even wsX5_even) := goodIn_app (goodIn_of _ (by decide +kernel)) ggX5_evenness_X5_even
theorem dX5_evenness_0 : decode cX5_evenness 0 = .ok (.aload_n 0, 1) := by decide +kernel
theorem dX5_evenness_1 : decode cX5_evenness 1 = .ok (.iconst 0, 1) := by decide +kernel
theorem dX5_evenness_2 : decode cX5_evenness 2 = .ok (.putfield 37, 3) := by decide +kernel
theorem dX5_evenness_5 : decode cX5_evenness 5 = .ok (.aload_n 0, 1) := by decide +kernel
theorem dX5_evenness_6 : decode cX5_evenness 6 = .ok (.invokevirtual 191, 3) := by decide +kernel
theorem dX5_evenness_9 : decode cX5_evenness 9 = .ok (.dreturn, 1) := by decide +kernel
set_option maxRecDepth 20000 in
theorem ggX5_digest_X5_counted : GoodIn wsX5_digest wsX5_counted := goodIn_r _ [13, 4, 14, 15, 16, 17, 12, 18, 19, 20, 6, 5, 21, 22, 23, 24, 25, 26, 27, 28, 29, 30, 31, 32, 33, 34, 35, 36, 37, 38, 39, 40, 41, 42, 43, 44, 45, 46, 47, 48, 49, 50, 51, 52, 53, 54, 55, 56, 57, 58, 59, 60, 61, 62, 63, 64, 65, 66, 67, 68, 69, 70, 71, 72, 73, 115, 116, 117, 118, 119, 120, 121, 122, 123, 124, 125, 126, 127, 128, 129, 130] (by decide +kernel) (by decide +kernel)
set_option maxRecDepth 20000 in
theorem gX5_digest_X5_counted : GoodIn wsX5_digest (wsV RX5 171 RX5 yX5_counted wsX5_counted) := goodIn_app (goodIn_of _ (by decide +kernel)) ggX5_digest_X5_counted
set_option maxRecDepth 20000 in
theorem ggX5_digest_X5_ofDigit : GoodIn wsX5_digest wsX5_ofDigit := goodIn_r _ [77, 4, 62, 63, 64, 12, 65, 66, 58, 59, 60, 61, 15, 16, 17, 18, 19, 20, 6, 5, 21, 22, 23, 24, 25, 26, 27, 28, 29, 50, 51, 52, 53, 42, 43, 44, 45, 38, 39, 40, 41, 46, 47, 48, 49, 54, 55, 56, 57, 115, 116, 117, 118, 119, 120, 121, 122, 123, 124, 125, 126, 127, 128, 129, 130] (by decide +kernel) (by decide +kernel)
set_option maxRecDepth 20000 in
theorem gX5_digest_X5_ofDigit : GoodIn wsX5_digest (wsV RX5 154 RX5 yX5_ofDigit wsX5_ofDigit) := goodIn_app (goodIn_of _ (by decide +kernel)) ggX5_digest_X5_ofDigit
set_option maxRecDepth 20000 in
theorem ggX5_digest_X5_byLevel : GoodIn wsX5_digest wsX5_byLevel := goodIn_r _ [81, 82, 83, 84, 85, 12, 86, 4, 15, 16, 17, 18, 19, 20, 6, 5, 21, 22, 23, 24, 25, 26, 27, 28, 29, 50, 51, 52, 53, 34, 35, 36, 37, 38, 39, 40, 41, 42, 43, 44, 45, 46, 47, 48, 49, 54, 55, 56, 57, 58, 59, 60, 61, 62, 63, 64, 65, 66, 115, 116, 117, 118, 119, 120, 121, 122, 123, 124, 125, 126, 127, 128, 129, 130] (by decide +kernel) (by decide +kernel)
set_option maxRecDepth 20000 in
theorem gX5_digest_X5_byLevel : GoodIn wsX5_digest (wsV RX5 178 RX5 yX5_byLevel wsX5_byLevel) := goodIn_app (goodIn_of _ (by decide +kernel)) ggX5_digest_X5_byLevel
set_option maxRecDepth 20000 in
theorem ggX5_digest_X5_least : GoodIn wsX5_digest wsX5_least := goodIn_r _ [90, 82, 83, 84, 85, 12, 86, 4, 15, 16, 17, 18, 19, 20, 6, 5, 21, 22, 23, 24, 25, 26, 27, 28, 29, 46, 47, 48, 49, 50, 51, 52, 53, 38, 39, 40, 41, 42, 43, 44, 45, 115, 116, 117, 118, 119, 120, 121, 122, 123, 124, 125, 126, 127, 128, 129, 130] (by decide +kernel) (by decide +kernel)
set_option maxRecDepth 20000 in
theorem gX5_digest_X5_least : GoodIn wsX5_digest (wsV RX5 182 RX5 yX5_least wsX5_least) := goodIn_app (goodIn_of _ (by decide +kernel)) ggX5_digest_X5_least
set_option maxRecDepth 20000 in
theorem ggX5_digest_X5_alike : GoodIn wsX5_digest wsX5_alike := goodIn_r _ [94, 62, 63, 64, 12, 65, 66, 4, 115, 116, 117, 118, 119, 120, 121, 122, 123, 124, 125, 126, 127, 128, 129, 130] (by decide +kernel) (by decide +kernel)
set_option maxRecDepth 20000 in
theorem gX5_digest_X5_alike : GoodIn wsX5_digest (wsV RX5 185 RX5 yX5_alike wsX5_alike) := goodIn_app (goodIn_of _ (by decide +kernel)) ggX5_digest_X5_alike
set_option maxRecDepth 20000 in
theorem ggX5_digest_X5_frames : GoodIn wsX5_digest wsX5_frames := goodIn_r _ [18, 19, 20, 6, 5, 21, 22, 12, 23, 24, 25, 26, 27, 28, 29, 115, 116, 117, 118, 119, 120, 121, 122, 123, 124, 125, 126, 127, 128, 129, 130] (by decide +kernel) (by decide +kernel)
set_option maxRecDepth 20000 in
theorem gX5_digest_X5_frames : GoodIn wsX5_digest (wsV RX5 147 RX5 yX5_frames wsX5_frames) := goodIn_app (goodIn_of _ (by decide +kernel)) ggX5_digest_X5_frames
set_option maxRecDepth 20000 in
theorem ggX5_digest_X5_shownNumber : GoodIn wsX5_digest wsX5_shownNumber := goodIn_r _ [98, 4, 15, 16, 17, 12, 18, 19, 20, 6, 5, 21, 22, 23, 24, 25, 26, 27, 28, 29, 54, 55, 56, 57, 58, 59, 60, 61, 62, 63, 64, 65, 66, 46, 47, 48, 49, 50, 51, 52, 53, 38, 39, 40, 41, 42, 43, 44, 45, 115, 116, 117, 118, 119, 120, 121, 122, 123, 124, 125, 126, 127, 128, 129, 130] (by decide +kernel) (by decide +kernel)
set_option maxRecDepth 20000 in
theorem gX5_digest_X5_shownNumber : GoodIn wsX5_digest (wsV RX5 188 RX5 yX5_shownNumber wsX5_shownNumber) := goodIn_app (goodIn_of _ (by decide +kernel)) ggX5_digest_X5_shownNumber
set_option maxRecDepth 20000 in
theorem ggX5_digest_X5_even : GoodIn wsX5_digest wsX5_even := goodIn_r _ [102, 4, 15, 16, 17, 12, 18, 19, 20, 6, 5, 21, 22, 23, 24, 25, 26, 27, 28, 29, 50, 51, 52, 53, 115, 116, 117, 118, 119, 120, 121, 122, 123, 124, 125, 126, 127, 128, 129, 130] (by decide +kernel) (by decide +kernel)
set_option maxRecDepth 20000 in
theorem gX5_digest_X5_even : GoodIn wsX5_digest (wsV RX5 191 RX5 yX5_even wsX5_even) := goodIn_app (goodIn_of _ (by decide +kernel)) ggX5_digest_X5_even
set_option maxRecDepth 20000 in
theorem ggX5_digest_Jxe99ae_doubleToLongBits_ccdee : GoodIn wsX5_digest wsJxe99ae_doubleToLongBits_ccdee := goodIn_r _ [106, 107, 108, 109, 110, 111, 112, 113, 105, 114] (by decide +kernel) (by decide +kernel)
set_option maxRecDepth 20000 in
theorem gX5_digest_Jxe99ae_doubleToLongBits_ccdee : GoodIn wsX5_digest (va_wsS RX5 199 yJxe99ae_doubleToLongBits_ccdee wsJxe99ae_doubleToLongBits_ccdee) := goodIn_app (goodIn_of _ (by decide +kernel)) ggX5_digest_Jxe99ae_doubleToLongBits_ccdee
theorem dX5_digest_0 : decode cX5_digest 0 = .ok (.aload_n 0, 1) := by decide +kernel
theorem dX5_digest_1 : decode cX5_digest 1 = .ok (.iconst 0, 1) := by decide +kernel
theorem dX5_digest_2 : decode cX5_digest 2 = .ok (.putfield 37, 3) := by decide +kernel
theorem dX5_digest_5 : decode cX5_digest 5 = .ok (.ldc2_w 195, 3) := by decide +kernel
theorem dX5_digest_8 : decode cX5_digest 8 = .ok (.lstore_n 1, 1) := by decide +kernel
theorem dX5_digest_9 : decode cX5_digest 9 = .ok (.iconst 0, 1) := by decide +kernel
theorem dX5_digest_10 : decode cX5_digest 10 = .ok (.istore_n 3, 1) := by decide +kernel
theorem dX5_digest_11 : decode cX5_digest 11 = .ok (.iload_n 3, 1) := by decide +kernel
theorem dX5_digest_12 : decode cX5_digest 12 = .ok (.bipush 11, 2) := by decide +kernel
theorem dX5_digest_14 : decode cX5_digest 14 = .ok (.if_icmp .ge 22, 3) := by decide +kernel
theorem dX5_digest_17 : decode cX5_digest 17 = .ok (.ldc2_w 197, 3) := by decide +kernel
theorem dX5_digest_20 : decode cX5_digest 20 = .ok (.lload_n 1, 1) := by decide +kernel
theorem dX5_digest_21 : decode cX5_digest 21 = .ok (.lmul, 1) := by decide +kernel
theorem dX5_digest_22 : decode cX5_digest 22 = .ok (.aload_n 0, 1) := by decide +kernel
theorem dX5_digest_23 : decode cX5_digest 23 = .ok (.iload_n 3, 1) := by decide +kernel
theorem dX5_digest_24 : decode cX5_digest 24 = .ok (.invokevirtual 171, 3) := by decide +kernel
theorem dX5_digest_27 : decode cX5_digest 27 = .ok (.i2l, 1) := by decide +kernel
theorem dX5_digest_28 : decode cX5_digest 28 = .ok (.ladd, 1) := by decide +kernel
theorem dX5_digest_29 : decode cX5_digest 29 = .ok (.lstore_n 1, 1) := by decide +kernel
theorem dX5_digest_30 : decode cX5_digest 30 = .ok (.iinc 3 1, 3) := by decide +kernel
theorem dX5_digest_33 : decode cX5_digest 33 = .ok (.goto (-22), 3) := by decide +kernel
theorem dX5_digest_36 : decode cX5_digest 36 = .ok (.iconst 0, 1) := by decide +kernel
theorem dX5_digest_37 : decode cX5_digest 37 = .ok (.istore_n 3, 1) := by decide +kernel
theorem dX5_digest_38 : decode cX5_digest 38 = .ok (.iload_n 3, 1) := by decide +kernel
theorem dX5_digest_39 : decode cX5_digest 39 = .ok (.iconst 5, 1) := by decide +kernel
theorem dX5_digest_40 : decode cX5_digest 40 = .ok (.if_icmp .ge 25, 3) := by decide +kernel
theorem dX5_digest_43 : decode cX5_digest 43 = .ok (.ldc2_w 197, 3) := by decide +kernel
theorem dX5_digest_46 : decode cX5_digest 46 = .ok (.lload_n 1, 1) := by decide +kernel
theorem dX5_digest_47 : decode cX5_digest 47 = .ok (.lmul, 1) := by decide +kernel
theorem dX5_digest_48 : decode cX5_digest 48 = .ok (.aload_n 0, 1) := by decide +kernel
theorem dX5_digest_49 : decode cX5_digest 49 = .ok (.getfield 13, 3) := by decide +kernel
theorem dX5_digest_52 : decode cX5_digest 52 = .ok (.iconst 2, 1) := by decide +kernel
theorem dX5_digest_53 : decode cX5_digest 53 = .ok (.iload_n 3, 1) := by decide +kernel
theorem dX5_digest_54 : decode cX5_digest 54 = .ok (.iadd, 1) := by decide +kernel
theorem dX5_digest_55 : decode cX5_digest 55 = .ok (.iaload, 1) := by decide +kernel
theorem dX5_digest_56 : decode cX5_digest 56 = .ok (.i2l, 1) := by decide +kernel
theorem dX5_digest_57 : decode cX5_digest 57 = .ok (.ladd, 1) := by decide +kernel
theorem dX5_digest_58 : decode cX5_digest 58 = .ok (.lstore_n 1, 1) := by decide +kernel
theorem dX5_digest_59 : decode cX5_digest 59 = .ok (.iinc 3 1, 3) := by decide +kernel
theorem dX5_digest_62 : decode cX5_digest 62 = .ok (.goto (-24), 3) := by decide +kernel
theorem dX5_digest_65 : decode cX5_digest 65 = .ok (.iconst 0, 1) := by decide +kernel
theorem dX5_digest_66 : decode cX5_digest 66 = .ok (.istore_n 3, 1) := by decide +kernel
theorem dX5_digest_67 : decode cX5_digest 67 = .ok (.iload_n 3, 1) := by decide +kernel
theorem dX5_digest_68 : decode cX5_digest 68 = .ok (.bipush 6, 2) := by decide +kernel
theorem dX5_digest_70 : decode cX5_digest 70 = .ok (.if_icmp .ge 135, 3) := by decide +kernel
theorem dX5_digest_73 : decode cX5_digest 73 = .ok (.iconst 0, 1) := by decide +kernel
theorem dX5_digest_74 : decode cX5_digest 74 = .ok (.istore 4, 2) := by decide +kernel
theorem dX5_digest_76 : decode cX5_digest 76 = .ok (.iload 4, 2) := by decide +kernel
theorem dX5_digest_78 : decode cX5_digest 78 = .ok (.bipush 12, 2) := by decide +kernel
theorem dX5_digest_80 : decode cX5_digest 80 = .ok (.if_icmp .ge 24, 3) := by decide +kernel
theorem dX5_digest_83 : decode cX5_digest 83 = .ok (.ldc2_w 197, 3) := by decide +kernel
theorem dX5_digest_86 : decode cX5_digest 86 = .ok (.lload_n 1, 1) := by decide +kernel
theorem dX5_digest_87 : decode cX5_digest 87 = .ok (.lmul, 1) := by decide +kernel
theorem dX5_digest_88 : decode cX5_digest 88 = .ok (.aload_n 0, 1) := by decide +kernel
theorem dX5_digest_89 : decode cX5_digest 89 = .ok (.iload_n 3, 1) := by decide +kernel
theorem dX5_digest_90 : decode cX5_digest 90 = .ok (.iload 4, 2) := by decide +kernel
theorem dX5_digest_92 : decode cX5_digest 92 = .ok (.invokevirtual 154, 3) := by decide +kernel
theorem dX5_digest_95 : decode cX5_digest 95 = .ok (.i2l, 1) := by decide +kernel
theorem dX5_digest_96 : decode cX5_digest 96 = .ok (.ladd, 1) := by decide +kernel
theorem dX5_digest_97 : decode cX5_digest 97 = .ok (.lstore_n 1, 1) := by decide +kernel
theorem dX5_digest_98 : decode cX5_digest 98 = .ok (.iinc 4 1, 3) := by decide +kernel
theorem dX5_digest_101 : decode cX5_digest 101 = .ok (.goto (-25), 3) := by decide +kernel
theorem dX5_digest_104 : decode cX5_digest 104 = .ok (.iconst 0, 1) := by decide +kernel
theorem dX5_digest_105 : decode cX5_digest 105 = .ok (.istore 4, 2) := by decide +kernel
theorem dX5_digest_107 : decode cX5_digest 107 = .ok (.iload 4, 2) := by decide +kernel
theorem dX5_digest_109 : decode cX5_digest 109 = .ok (.bipush 7, 2) := by decide +kernel
theorem dX5_digest_111 : decode cX5_digest 111 = .ok (.if_icmp .ge 32, 3) := by decide +kernel
theorem dX5_digest_114 : decode cX5_digest 114 = .ok (.ldc2_w 197, 3) := by decide +kernel
theorem dX5_digest_117 : decode cX5_digest 117 = .ok (.lload_n 1, 1) := by decide +kernel
theorem dX5_digest_118 : decode cX5_digest 118 = .ok (.lmul, 1) := by decide +kernel
theorem dX5_digest_119 : decode cX5_digest 119 = .ok (.aload_n 0, 1) := by decide +kernel
theorem dX5_digest_120 : decode cX5_digest 120 = .ok (.getfield 13, 3) := by decide +kernel
theorem dX5_digest_123 : decode cX5_digest 123 = .ok (.bipush 38, 2) := by decide +kernel
theorem dX5_digest_125 : decode cX5_digest 125 = .ok (.bipush 7, 2) := by decide +kernel
theorem dX5_digest_127 : decode cX5_digest 127 = .ok (.iload_n 3, 1) := by decide +kernel
theorem dX5_digest_128 : decode cX5_digest 128 = .ok (.imul, 1) := by decide +kernel
theorem dX5_digest_129 : decode cX5_digest 129 = .ok (.iadd, 1) := by decide +kernel
theorem dX5_digest_130 : decode cX5_digest 130 = .ok (.iload 4, 2) := by decide +kernel
theorem dX5_digest_132 : decode cX5_digest 132 = .ok (.iadd, 1) := by decide +kernel
theorem dX5_digest_133 : decode cX5_digest 133 = .ok (.iaload, 1) := by decide +kernel
theorem dX5_digest_134 : decode cX5_digest 134 = .ok (.i2l, 1) := by decide +kernel
theorem dX5_digest_135 : decode cX5_digest 135 = .ok (.ladd, 1) := by decide +kernel
theorem dX5_digest_136 : decode cX5_digest 136 = .ok (.lstore_n 1, 1) := by decide +kernel
theorem dX5_digest_137 : decode cX5_digest 137 = .ok (.iinc 4 1, 3) := by decide +kernel
theorem dX5_digest_140 : decode cX5_digest 140 = .ok (.goto (-33), 3) := by decide +kernel
theorem dX5_digest_143 : decode cX5_digest 143 = .ok (.iconst 0, 1) := by decide +kernel
theorem dX5_digest_144 : decode cX5_digest 144 = .ok (.istore 4, 2) := by decide +kernel
theorem dX5_digest_146 : decode cX5_digest 146 = .ok (.iload 4, 2) := by decide +kernel
theorem dX5_digest_148 : decode cX5_digest 148 = .ok (.iconst 3, 1) := by decide +kernel
theorem dX5_digest_149 : decode cX5_digest 149 = .ok (.if_icmp .ge 26, 3) := by decide +kernel
theorem dX5_digest_152 : decode cX5_digest 152 = .ok (.ldc2_w 197, 3) := by decide +kernel
theorem dX5_digest_155 : decode cX5_digest 155 = .ok (.lload_n 1, 1) := by decide +kernel
theorem dX5_digest_156 : decode cX5_digest 156 = .ok (.lmul, 1) := by decide +kernel
theorem dX5_digest_157 : decode cX5_digest 157 = .ok (.aload_n 0, 1) := by decide +kernel
theorem dX5_digest_158 : decode cX5_digest 158 = .ok (.iload_n 3, 1) := by decide +kernel
theorem dX5_digest_159 : decode cX5_digest 159 = .ok (.bipush 9, 2) := by decide +kernel
theorem dX5_digest_161 : decode cX5_digest 161 = .ok (.iload 4, 2) := by decide +kernel
theorem dX5_digest_163 : decode cX5_digest 163 = .ok (.invokevirtual 178, 3) := by decide +kernel
theorem dX5_digest_166 : decode cX5_digest 166 = .ok (.i2l, 1) := by decide +kernel
theorem dX5_digest_167 : decode cX5_digest 167 = .ok (.ladd, 1) := by decide +kernel
theorem dX5_digest_168 : decode cX5_digest 168 = .ok (.lstore_n 1, 1) := by decide +kernel
theorem dX5_digest_169 : decode cX5_digest 169 = .ok (.iinc 4 1, 3) := by decide +kernel
theorem dX5_digest_172 : decode cX5_digest 172 = .ok (.goto (-26), 3) := by decide +kernel
theorem dX5_digest_175 : decode cX5_digest 175 = .ok (.ldc2_w 197, 3) := by decide +kernel
theorem dX5_digest_178 : decode cX5_digest 178 = .ok (.ldc2_w 197, 3) := by decide +kernel
theorem dX5_digest_181 : decode cX5_digest 181 = .ok (.lload_n 1, 1) := by decide +kernel
theorem dX5_digest_182 : decode cX5_digest 182 = .ok (.lmul, 1) := by decide +kernel
theorem dX5_digest_183 : decode cX5_digest 183 = .ok (.aload_n 0, 1) := by decide +kernel
theorem dX5_digest_184 : decode cX5_digest 184 = .ok (.iload_n 3, 1) := by decide +kernel
theorem dX5_digest_185 : decode cX5_digest 185 = .ok (.invokevirtual 182, 3) := by decide +kernel
theorem dX5_digest_188 : decode cX5_digest 188 = .ok (.i2l, 1) := by decide +kernel
theorem dX5_digest_189 : decode cX5_digest 189 = .ok (.ladd, 1) := by decide +kernel
theorem dX5_digest_190 : decode cX5_digest 190 = .ok (.lmul, 1) := by decide +kernel
theorem dX5_digest_191 : decode cX5_digest 191 = .ok (.aload_n 0, 1) := by decide +kernel
theorem dX5_digest_192 : decode cX5_digest 192 = .ok (.iload_n 3, 1) := by decide +kernel
theorem dX5_digest_193 : decode cX5_digest 193 = .ok (.invokevirtual 185, 3) := by decide +kernel
theorem dX5_digest_196 : decode cX5_digest 196 = .ok (.i2l, 1) := by decide +kernel
theorem dX5_digest_197 : decode cX5_digest 197 = .ok (.ladd, 1) := by decide +kernel
theorem dX5_digest_198 : decode cX5_digest 198 = .ok (.lstore_n 1, 1) := by decide +kernel
theorem dX5_digest_199 : decode cX5_digest 199 = .ok (.iinc 3 1, 3) := by decide +kernel
theorem dX5_digest_202 : decode cX5_digest 202 = .ok (.goto (-135), 3) := by decide +kernel
theorem dX5_digest_205 : decode cX5_digest 205 = .ok (.aload_n 0, 1) := by decide +kernel
theorem dX5_digest_206 : decode cX5_digest 206 = .ok (.aload_n 0, 1) := by decide +kernel
theorem dX5_digest_207 : decode cX5_digest 207 = .ok (.getfield 13, 3) := by decide +kernel
theorem dX5_digest_210 : decode cX5_digest 210 = .ok (.invokevirtual 147, 3) := by decide +kernel
theorem dX5_digest_213 : decode cX5_digest 213 = .ok (.iconst 0, 1) := by decide +kernel
theorem dX5_digest_214 : decode cX5_digest 214 = .ok (.istore_n 3, 1) := by decide +kernel
theorem dX5_digest_215 : decode cX5_digest 215 = .ok (.iload_n 3, 1) := by decide +kernel
theorem dX5_digest_216 : decode cX5_digest 216 = .ok (.bipush 6, 2) := by decide +kernel
theorem dX5_digest_218 : decode cX5_digest 218 = .ok (.if_icmp .ge 35, 3) := by decide +kernel
theorem dX5_digest_221 : decode cX5_digest 221 = .ok (.ldc2_w 197, 3) := by decide +kernel
theorem dX5_digest_224 : decode cX5_digest 224 = .ok (.ldc2_w 197, 3) := by decide +kernel
theorem dX5_digest_227 : decode cX5_digest 227 = .ok (.lload_n 1, 1) := by decide +kernel
theorem dX5_digest_228 : decode cX5_digest 228 = .ok (.lmul, 1) := by decide +kernel
theorem dX5_digest_229 : decode cX5_digest 229 = .ok (.aload_n 0, 1) := by decide +kernel
theorem dX5_digest_230 : decode cX5_digest 230 = .ok (.getfield 31, 3) := by decide +kernel
theorem dX5_digest_233 : decode cX5_digest 233 = .ok (.iload_n 3, 1) := by decide +kernel
theorem dX5_digest_234 : decode cX5_digest 234 = .ok (.iaload, 1) := by decide +kernel
theorem dX5_digest_235 : decode cX5_digest 235 = .ok (.i2l, 1) := by decide +kernel
theorem dX5_digest_236 : decode cX5_digest 236 = .ok (.ladd, 1) := by decide +kernel
theorem dX5_digest_237 : decode cX5_digest 237 = .ok (.lmul, 1) := by decide +kernel
theorem dX5_digest_238 : decode cX5_digest 238 = .ok (.aload_n 0, 1) := by decide +kernel
theorem dX5_digest_239 : decode cX5_digest 239 = .ok (.getfield 28, 3) := by decide +kernel
theorem dX5_digest_242 : decode cX5_digest 242 = .ok (.iload_n 3, 1) := by decide +kernel
theorem dX5_digest_243 : decode cX5_digest 243 = .ok (.iaload, 1) := by decide +kernel
theorem dX5_digest_244 : decode cX5_digest 244 = .ok (.i2l, 1) := by decide +kernel
theorem dX5_digest_245 : decode cX5_digest 245 = .ok (.ladd, 1) := by decide +kernel
theorem dX5_digest_246 : decode cX5_digest 246 = .ok (.lstore_n 1, 1) := by decide +kernel
theorem dX5_digest_247 : decode cX5_digest 247 = .ok (.iinc 3 1, 3) := by decide +kernel
theorem dX5_digest_250 : decode cX5_digest 250 = .ok (.goto (-35), 3) := by decide +kernel
theorem dX5_digest_253 : decode cX5_digest 253 = .ok (.ldc2_w 197, 3) := by decide +kernel
theorem dX5_digest_256 : decode cX5_digest 256 = .ok (.lload_n 1, 1) := by decide +kernel
theorem dX5_digest_257 : decode cX5_digest 257 = .ok (.lmul, 1) := by decide +kernel
theorem dX5_digest_258 : decode cX5_digest 258 = .ok (.aload_n 0, 1) := by decide +kernel
theorem dX5_digest_259 : decode cX5_digest 259 = .ok (.invokevirtual 188, 3) := by decide +kernel
theorem dX5_digest_262 : decode cX5_digest 262 = .ok (.i2l, 1) := by decide +kernel
theorem dX5_digest_263 : decode cX5_digest 263 = .ok (.ladd, 1) := by decide +kernel
theorem dX5_digest_264 : decode cX5_digest 264 = .ok (.lstore_n 1, 1) := by decide +kernel
theorem dX5_digest_265 : decode cX5_digest 265 = .ok (.ldc2_w 197, 3) := by decide +kernel
theorem dX5_digest_268 : decode cX5_digest 268 = .ok (.ldc2_w 197, 3) := by decide +kernel
theorem dX5_digest_271 : decode cX5_digest 271 = .ok (.lload_n 1, 1) := by decide +kernel
theorem dX5_digest_272 : decode cX5_digest 272 = .ok (.lmul, 1) := by decide +kernel
theorem dX5_digest_273 : decode cX5_digest 273 = .ok (.aload_n 0, 1) := by decide +kernel
theorem dX5_digest_274 : decode cX5_digest 274 = .ok (.invokevirtual 191, 3) := by decide +kernel
theorem dX5_digest_277 : decode cX5_digest 277 = .ok (.invokestatic 199, 3) := by decide +kernel
theorem dX5_digest_280 : decode cX5_digest 280 = .ok (.ladd, 1) := by decide +kernel
theorem dX5_digest_281 : decode cX5_digest 281 = .ok (.lmul, 1) := by decide +kernel
theorem dX5_digest_282 : decode cX5_digest 282 = .ok (.aload_n 0, 1) := by decide +kernel
theorem dX5_digest_283 : decode cX5_digest 283 = .ok (.getfield 121, 3) := by decide +kernel
theorem dX5_digest_286 : decode cX5_digest 286 = .ok (.i2l, 1) := by decide +kernel
theorem dX5_digest_287 : decode cX5_digest 287 = .ok (.ladd, 1) := by decide +kernel
theorem dX5_digest_288 : decode cX5_digest 288 = .ok (.lstore_n 1, 1) := by decide +kernel
theorem dX5_digest_289 : decode cX5_digest 289 = .ok (.iconst 0, 1) := by decide +kernel
theorem dX5_digest_290 : decode cX5_digest 290 = .ok (.istore_n 3, 1) := by decide +kernel
theorem dX5_digest_291 : decode cX5_digest 291 = .ok (.iload_n 3, 1) := by decide +kernel
theorem dX5_digest_292 : decode cX5_digest 292 = .ok (.aload_n 0, 1) := by decide +kernel
theorem dX5_digest_293 : decode cX5_digest 293 = .ok (.getfield 121, 3) := by decide +kernel
theorem dX5_digest_296 : decode cX5_digest 296 = .ok (.if_icmp .ge 23, 3) := by decide +kernel
theorem dX5_digest_299 : decode cX5_digest 299 = .ok (.ldc2_w 197, 3) := by decide +kernel
theorem dX5_digest_302 : decode cX5_digest 302 = .ok (.lload_n 1, 1) := by decide +kernel
theorem dX5_digest_303 : decode cX5_digest 303 = .ok (.lmul, 1) := by decide +kernel
theorem dX5_digest_304 : decode cX5_digest 304 = .ok (.aload_n 0, 1) := by decide +kernel
theorem dX5_digest_305 : decode cX5_digest 305 = .ok (.getfield 22, 3) := by decide +kernel
theorem dX5_digest_308 : decode cX5_digest 308 = .ok (.iload_n 3, 1) := by decide +kernel
theorem dX5_digest_309 : decode cX5_digest 309 = .ok (.iaload, 1) := by decide +kernel
theorem dX5_digest_310 : decode cX5_digest 310 = .ok (.i2l, 1) := by decide +kernel
theorem dX5_digest_311 : decode cX5_digest 311 = .ok (.ladd, 1) := by decide +kernel
theorem dX5_digest_312 : decode cX5_digest 312 = .ok (.lstore_n 1, 1) := by decide +kernel
theorem dX5_digest_313 : decode cX5_digest 313 = .ok (.iinc 3 1, 3) := by decide +kernel
theorem dX5_digest_316 : decode cX5_digest 316 = .ok (.goto (-25), 3) := by decide +kernel
theorem dX5_digest_319 : decode cX5_digest 319 = .ok (.lload_n 1, 1) := by decide +kernel
