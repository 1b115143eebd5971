theorem dX0_init_0 : decode cX0_init 0 = .ok (.aload_n 0, 1) := by decide +kernel
theorem dX0_init_1 : decode cX0_init 1 = .ok (.invokespecial 3, 3) := by decide +kernel
theorem dX0_init_4 : decode cX0_init 4 = .ok (.aload_n 0, 1) := by decide +kernel
theorem dX0_init_5 : decode cX0_init 5 = .ok (.bipush 96, 2) := by decide +kernel
theorem dX0_init_7 : decode cX0_init 7 = .ok (.newarray .int, 2) := by decide +kernel
theorem dX0_init_9 : decode cX0_init 9 = .ok (.putfield 9, 3) := by decide +kernel
theorem dX0_init_12 : decode cX0_init 12 = .ok (.aload_n 0, 1) := by decide +kernel
theorem dX0_init_13 : decode cX0_init 13 = .ok (.bipush 96, 2) := by decide +kernel
theorem dX0_init_15 : decode cX0_init 15 = .ok (.newarray .int, 2) := by decide +kernel
theorem dX0_init_17 : decode cX0_init 17 = .ok (.putfield 15, 3) := by decide +kernel
theorem dX0_init_20 : decode cX0_init 20 = .ok (.aload_n 0, 1) := by decide +kernel
theorem dX0_init_21 : decode cX0_init 21 = .ok (.bipush 6, 2) := by decide +kernel
theorem dX0_init_23 : decode cX0_init 23 = .ok (.newarray .int, 2) := by decide +kernel
theorem dX0_init_25 : decode cX0_init 25 = .ok (.putfield 18, 3) := by decide +kernel
theorem dX0_init_28 : decode cX0_init 28 = .ok (.aload_n 0, 1) := by decide +kernel
theorem dX0_init_29 : decode cX0_init 29 = .ok (.bipush 6, 2) := by decide +kernel
theorem dX0_init_31 : decode cX0_init 31 = .ok (.newarray .int, 2) := by decide +kernel
theorem dX0_init_33 : decode cX0_init 33 = .ok (.putfield 21, 3) := by decide +kernel
theorem dX0_init_36 : decode cX0_init 36 = .ok (.aload_n 0, 1) := by decide +kernel
theorem dX0_init_37 : decode cX0_init 37 = .ok (.bipush 6, 2) := by decide +kernel
theorem dX0_init_39 : decode cX0_init 39 = .ok (.newarray .int, 2) := by decide +kernel
theorem dX0_init_41 : decode cX0_init 41 = .ok (.putfield 24, 3) := by decide +kernel
theorem dX0_init_44 : decode cX0_init 44 = .ok (.aload_n 0, 1) := by decide +kernel
theorem dX0_init_45 : decode cX0_init 45 = .ok (.bipush 6, 2) := by decide +kernel
theorem dX0_init_47 : decode cX0_init 47 = .ok (.newarray .int, 2) := by decide +kernel
theorem dX0_init_49 : decode cX0_init 49 = .ok (.putfield 27, 3) := by decide +kernel
theorem dX0_init_52 : decode cX0_init 52 = .ok (.aload_n 0, 1) := by decide +kernel
theorem dX0_init_53 : decode cX0_init 53 = .ok (.bipush 6, 2) := by decide +kernel
theorem dX0_init_55 : decode cX0_init 55 = .ok (.newarray .int, 2) := by decide +kernel
theorem dX0_init_57 : decode cX0_init 57 = .ok (.putfield 30, 3) := by decide +kernel
theorem dX0_init_60 : decode cX0_init 60 = .ok (.aload_n 0, 1) := by decide +kernel
theorem dX0_init_61 : decode cX0_init 61 = .ok (.iconst 0, 1) := by decide +kernel
theorem dX0_init_62 : decode cX0_init 62 = .ok (.putfield 33, 3) := by decide +kernel
theorem dX0_init_65 : decode cX0_init 65 = .ok (.aload_n 0, 1) := by decide +kernel
theorem dX0_init_66 : decode cX0_init 66 = .ok (.iconst 0, 1) := by decide +kernel
theorem dX0_init_67 : decode cX0_init 67 = .ok (.putfield 37, 3) := by decide +kernel
theorem dX0_init_70 : decode cX0_init 70 = .ok (.aload_n 0, 1) := by decide +kernel
theorem dX0_init_71 : decode cX0_init 71 = .ok (.iconst 0, 1) := by decide +kernel
theorem dX0_init_72 : decode cX0_init 72 = .ok (.putfield 40, 3) := by decide +kernel
theorem dX0_init_75 : decode cX0_init 75 = .ok (.return_, 1) := by decide +kernel
set_option maxRecDepth 20000 in
theorem ggX0_foresee_X0_passSlots : GoodIn wsX0_foresee wsX0_passSlots := goodIn_r _ [13, 14, 15, 16, 17, 18, 19, 20, 21, 22, 23, 2, 8, 24, 25, 26, 27, 28, 29, 30, 31, 32, 33, 34, 35, 36, 12, 37, 38, 39, 40, 41, 42, 43, 44, 45, 46, 47, 48, 49, 50, 51, 52, 53, 54, 55, 56, 57, 58, 59, 60, 61] (by decide +kernel) (by decide +kernel)
set_option maxRecDepth 20000 in
theorem gX0_foresee_X0_passSlots : GoodIn wsX0_foresee (wsV RX0 53 RX0 yX0_passSlots wsX0_passSlots) := goodIn_app (goodIn_of _ (by decide +kernel)) ggX0_foresee_X0_passSlots
theorem dX0_foresee_0 : decode cX0_foresee 0 = .ok (.aload_n 1, 1) := by decide +kernel
theorem dX0_foresee_1 : decode cX0_foresee 1 = .ok (.getfield 43, 3) := by decide +kernel
theorem dX0_foresee_4 : decode cX0_foresee 4 = .ok (.iconst 0, 1) := by decide +kernel
theorem dX0_foresee_5 : decode cX0_foresee 5 = .ok (.aload_n 0, 1) := by decide +kernel
theorem dX0_foresee_6 : decode cX0_foresee 6 = .ok (.getfield 24, 3) := by decide +kernel
theorem dX0_foresee_9 : decode cX0_foresee 9 = .ok (.iconst 0, 1) := by decide +kernel
theorem dX0_foresee_10 : decode cX0_foresee 10 = .ok (.bipush 6, 2) := by decide +kernel
theorem dX0_foresee_12 : decode cX0_foresee 12 = .ok (.invokestatic 46, 3) := by decide +kernel
theorem dX0_foresee_15 : decode cX0_foresee 15 = .ok (.aload_n 1, 1) := by decide +kernel
theorem dX0_foresee_16 : decode cX0_foresee 16 = .ok (.getfield 52, 3) := by decide +kernel
theorem dX0_foresee_19 : decode cX0_foresee 19 = .ok (.iconst 0, 1) := by decide +kernel
theorem dX0_foresee_20 : decode cX0_foresee 20 = .ok (.aload_n 0, 1) := by decide +kernel
theorem dX0_foresee_21 : decode cX0_foresee 21 = .ok (.getfield 27, 3) := by decide +kernel
theorem dX0_foresee_24 : decode cX0_foresee 24 = .ok (.iconst 0, 1) := by decide +kernel
theorem dX0_foresee_25 : decode cX0_foresee 25 = .ok (.bipush 6, 2) := by decide +kernel
theorem dX0_foresee_27 : decode cX0_foresee 27 = .ok (.invokestatic 46, 3) := by decide +kernel
theorem dX0_foresee_30 : decode cX0_foresee 30 = .ok (.aload_n 0, 1) := by decide +kernel
theorem dX0_foresee_31 : decode cX0_foresee 31 = .ok (.aload_n 1, 1) := by decide +kernel
theorem dX0_foresee_32 : decode cX0_foresee 32 = .ok (.invokevirtual 53, 3) := by decide +kernel
theorem dX0_foresee_35 : decode cX0_foresee 35 = .ok (.return_, 1) := by decide +kernel
set_option maxRecDepth 20000 in
theorem ggX0_passSlots_J7_fill_53178 : GoodIn wsX0_passSlots wsJ7_fill_53178 := goodIn_r _ [17] (by decide +kernel) (by decide +kernel)
set_option maxRecDepth 20000 in
theorem gX0_passSlots_J7_fill_53178 : GoodIn wsX0_passSlots (va_wsS RX0 57 yJ7_fill_53178 wsJ7_fill_53178) := goodIn_app (goodIn_of _ (by decide +kernel)) ggX0_passSlots_J7_fill_53178
set_option maxRecDepth 20000 in
theorem ggX0_passSlots_X4_giveSlot : GoodIn wsX0_passSlots wsX4_giveSlot := goodIn_r _ [20] (by decide +kernel) (by decide +kernel)
set_option maxRecDepth 20000 in
theorem gX0_passSlots_X4_giveSlot_n72 : GoodIn wsX0_passSlots (wsX4_giveSlot) := ggX0_passSlots_X4_giveSlot
set_option maxRecDepth 20000 in
theorem ggX0_passSlots_X4_litIn : GoodIn wsX0_passSlots wsX4_litIn := goodIn_r _ [22] (by decide +kernel) (by decide +kernel)
set_option maxRecDepth 20000 in
theorem gX0_passSlots_X4_litIn_n76 : GoodIn wsX0_passSlots (wsX4_litIn) := ggX0_passSlots_X4_litIn
set_option maxRecDepth 20000 in
theorem ggX0_passSlots_X0_noteSlot : GoodIn wsX0_passSlots wsX0_noteSlot := goodIn_r _ [27, 7, 8, 6, 28, 29, 30, 31, 42, 43, 44, 45, 46, 47, 48, 49, 50, 51] (by decide +kernel) (by decide +kernel)
set_option maxRecDepth 20000 in
theorem gX0_passSlots_X0_noteSlot : GoodIn wsX0_passSlots (wsV RX0 80 RX0 yX0_noteSlot wsX0_noteSlot) := goodIn_app (goodIn_of _ (by decide +kernel)) ggX0_passSlots_X0_noteSlot
theorem dX0_passSlots_0 : decode cX0_passSlots 0 = .ok (.aload_n 0, 1) := by decide +kernel
theorem dX0_passSlots_1 : decode cX0_passSlots 1 = .ok (.aload_n 1, 1) := by decide +kernel
theorem dX0_passSlots_2 : decode cX0_passSlots 2 = .ok (.getfield 63, 3) := by decide +kernel
theorem dX0_passSlots_5 : decode cX0_passSlots 5 = .ok (.iconst 0, 1) := by decide +kernel
theorem dX0_passSlots_6 : decode cX0_passSlots 6 = .ok (.iaload, 1) := by decide +kernel
theorem dX0_passSlots_7 : decode cX0_passSlots 7 = .ok (.putfield 33, 3) := by decide +kernel
theorem dX0_passSlots_10 : decode cX0_passSlots 10 = .ok (.aload_n 0, 1) := by decide +kernel
theorem dX0_passSlots_11 : decode cX0_passSlots 11 = .ok (.aload_n 1, 1) := by decide +kernel
theorem dX0_passSlots_12 : decode cX0_passSlots 12 = .ok (.getfield 63, 3) := by decide +kernel
theorem dX0_passSlots_15 : decode cX0_passSlots 15 = .ok (.iconst 2, 1) := by decide +kernel
theorem dX0_passSlots_16 : decode cX0_passSlots 16 = .ok (.iaload, 1) := by decide +kernel
theorem dX0_passSlots_17 : decode cX0_passSlots 17 = .ok (.putfield 37, 3) := by decide +kernel
theorem dX0_passSlots_20 : decode cX0_passSlots 20 = .ok (.aload_n 0, 1) := by decide +kernel
theorem dX0_passSlots_21 : decode cX0_passSlots 21 = .ok (.aload_n 1, 1) := by decide +kernel
theorem dX0_passSlots_22 : decode cX0_passSlots 22 = .ok (.getfield 63, 3) := by decide +kernel
theorem dX0_passSlots_25 : decode cX0_passSlots 25 = .ok (.iconst 3, 1) := by decide +kernel
theorem dX0_passSlots_26 : decode cX0_passSlots 26 = .ok (.iaload, 1) := by decide +kernel
theorem dX0_passSlots_27 : decode cX0_passSlots 27 = .ok (.aload_n 1, 1) := by decide +kernel
theorem dX0_passSlots_28 : decode cX0_passSlots 28 = .ok (.getfield 66, 3) := by decide +kernel
theorem dX0_passSlots_31 : decode cX0_passSlots 31 = .ok (.imul, 1) := by decide +kernel
theorem dX0_passSlots_32 : decode cX0_passSlots 32 = .ok (.putfield 40, 3) := by decide +kernel
theorem dX0_passSlots_35 : decode cX0_passSlots 35 = .ok (.aload_n 0, 1) := by decide +kernel
theorem dX0_passSlots_36 : decode cX0_passSlots 36 = .ok (.getfield 18, 3) := by decide +kernel
theorem dX0_passSlots_39 : decode cX0_passSlots 39 = .ok (.iconst 0, 1) := by decide +kernel
theorem dX0_passSlots_40 : decode cX0_passSlots 40 = .ok (.invokestatic 57, 3) := by decide +kernel
theorem dX0_passSlots_43 : decode cX0_passSlots 43 = .ok (.aload_n 0, 1) := by decide +kernel
theorem dX0_passSlots_44 : decode cX0_passSlots 44 = .ok (.getfield 21, 3) := by decide +kernel
theorem dX0_passSlots_47 : decode cX0_passSlots 47 = .ok (.iconst 0, 1) := by decide +kernel
theorem dX0_passSlots_48 : decode cX0_passSlots 48 = .ok (.invokestatic 57, 3) := by decide +kernel
theorem dX0_passSlots_51 : decode cX0_passSlots 51 = .ok (.aload_n 0, 1) := by decide +kernel
theorem dX0_passSlots_52 : decode cX0_passSlots 52 = .ok (.getfield 30, 3) := by decide +kernel
theorem dX0_passSlots_55 : decode cX0_passSlots 55 = .ok (.iconst 0, 1) := by decide +kernel
theorem dX0_passSlots_56 : decode cX0_passSlots 56 = .ok (.invokestatic 57, 3) := by decide +kernel
theorem dX0_passSlots_59 : decode cX0_passSlots 59 = .ok (.aload_n 1, 1) := by decide +kernel
theorem dX0_passSlots_60 : decode cX0_passSlots 60 = .ok (.getfield 63, 3) := by decide +kernel
theorem dX0_passSlots_63 : decode cX0_passSlots 63 = .ok (.iconst 1, 1) := by decide +kernel
theorem dX0_passSlots_64 : decode cX0_passSlots 64 = .ok (.iaload, 1) := by decide +kernel
theorem dX0_passSlots_65 : decode cX0_passSlots 65 = .ok (.iconst 1, 1) := by decide +kernel
theorem dX0_passSlots_66 : decode cX0_passSlots 66 = .ok (.if_icmp .ne 7, 3) := by decide +kernel
theorem dX0_passSlots_69 : decode cX0_passSlots 69 = .ok (.iconst 1, 1) := by decide +kernel
theorem dX0_passSlots_70 : decode cX0_passSlots 70 = .ok (.goto 4, 3) := by decide +kernel
theorem dX0_passSlots_73 : decode cX0_passSlots 73 = .ok (.iconst 0, 1) := by decide +kernel
theorem dX0_passSlots_74 : decode cX0_passSlots 74 = .ok (.istore_n 2, 1) := by decide +kernel
theorem dX0_passSlots_75 : decode cX0_passSlots 75 = .ok (.aload_n 1, 1) := by decide +kernel
theorem dX0_passSlots_76 : decode cX0_passSlots 76 = .ok (.getfield 69, 3) := by decide +kernel
theorem dX0_passSlots_79 : decode cX0_passSlots 79 = .ok (.istore_n 3, 1) := by decide +kernel
theorem dX0_passSlots_80 : decode cX0_passSlots 80 = .ok (.iconst 0, 1) := by decide +kernel
theorem dX0_passSlots_81 : decode cX0_passSlots 81 = .ok (.istore 4, 2) := by decide +kernel
theorem dX0_passSlots_83 : decode cX0_passSlots 83 = .ok (.iload 4, 2) := by decide +kernel
theorem dX0_passSlots_85 : decode cX0_passSlots 85 = .ok (.bipush 96, 2) := by decide +kernel
theorem dX0_passSlots_87 : decode cX0_passSlots 87 = .ok (.if_icmp .ge 74, 3) := by decide +kernel
theorem dX0_passSlots_90 : decode cX0_passSlots 90 = .ok (.iload 4, 2) := by decide +kernel
theorem dX0_passSlots_92 : decode cX0_passSlots 92 = .ok (.aload_n 0, 1) := by decide +kernel
theorem dX0_passSlots_93 : decode cX0_passSlots 93 = .ok (.getfield 33, 3) := by decide +kernel
theorem dX0_passSlots_96 : decode cX0_passSlots 96 = .ok (.if_icmp .ge 65, 3) := by decide +kernel
theorem dX0_passSlots_99 : decode cX0_passSlots 99 = .ok (.aload_n 0, 1) := by decide +kernel
theorem dX0_passSlots_100 : decode cX0_passSlots 100 = .ok (.getfield 9, 3) := by decide +kernel
theorem dX0_passSlots_103 : decode cX0_passSlots 103 = .ok (.iload 4, 2) := by decide +kernel
theorem dX0_passSlots_105 : decode cX0_passSlots 105 = .ok (.aload_n 0, 1) := by decide +kernel
theorem dX0_passSlots_106 : decode cX0_passSlots 106 = .ok (.getfield 24, 3) := by decide +kernel
theorem dX0_passSlots_109 : decode cX0_passSlots 109 = .ok (.aload_n 0, 1) := by decide +kernel
theorem dX0_passSlots_110 : decode cX0_passSlots 110 = .ok (.getfield 27, 3) := by decide +kernel
theorem dX0_passSlots_113 : decode cX0_passSlots 113 = .ok (.invokestatic 72, 3) := by decide +kernel
theorem dX0_passSlots_116 : decode cX0_passSlots 116 = .ok (.iastore, 1) := by decide +kernel
theorem dX0_passSlots_117 : decode cX0_passSlots 117 = .ok (.aload_n 0, 1) := by decide +kernel
theorem dX0_passSlots_118 : decode cX0_passSlots 118 = .ok (.getfield 15, 3) := by decide +kernel
theorem dX0_passSlots_121 : decode cX0_passSlots 121 = .ok (.iload 4, 2) := by decide +kernel
theorem dX0_passSlots_123 : decode cX0_passSlots 123 = .ok (.aload_n 0, 1) := by decide +kernel
theorem dX0_passSlots_124 : decode cX0_passSlots 124 = .ok (.getfield 9, 3) := by decide +kernel
theorem dX0_passSlots_127 : decode cX0_passSlots 127 = .ok (.iload 4, 2) := by decide +kernel
theorem dX0_passSlots_129 : decode cX0_passSlots 129 = .ok (.iaload, 1) := by decide +kernel
theorem dX0_passSlots_130 : decode cX0_passSlots 130 = .ok (.iload_n 3, 1) := by decide +kernel
theorem dX0_passSlots_131 : decode cX0_passSlots 131 = .ok (.iload_n 2, 1) := by decide +kernel
theorem dX0_passSlots_132 : decode cX0_passSlots 132 = .ok (.invokestatic 76, 3) := by decide +kernel
theorem dX0_passSlots_135 : decode cX0_passSlots 135 = .ok (.iastore, 1) := by decide +kernel
theorem dX0_passSlots_136 : decode cX0_passSlots 136 = .ok (.aload_n 0, 1) := by decide +kernel
theorem dX0_passSlots_137 : decode cX0_passSlots 137 = .ok (.aload_n 0, 1) := by decide +kernel
theorem dX0_passSlots_138 : decode cX0_passSlots 138 = .ok (.getfield 15, 3) := by decide +kernel
theorem dX0_passSlots_141 : decode cX0_passSlots 141 = .ok (.iload 4, 2) := by decide +kernel
theorem dX0_passSlots_143 : decode cX0_passSlots 143 = .ok (.iaload, 1) := by decide +kernel
theorem dX0_passSlots_144 : decode cX0_passSlots 144 = .ok (.invokevirtual 80, 3) := by decide +kernel
theorem dX0_passSlots_147 : decode cX0_passSlots 147 = .ok (.aload_n 0, 1) := by decide +kernel
theorem dX0_passSlots_148 : decode cX0_passSlots 148 = .ok (.getfield 9, 3) := by decide +kernel
theorem dX0_passSlots_151 : decode cX0_passSlots 151 = .ok (.iload 4, 2) := by decide +kernel
theorem dX0_passSlots_153 : decode cX0_passSlots 153 = .ok (.iaload, 1) := by decide +kernel
theorem dX0_passSlots_154 : decode cX0_passSlots 154 = .ok (.istore_n 3, 1) := by decide +kernel
theorem dX0_passSlots_155 : decode cX0_passSlots 155 = .ok (.iinc 4 1, 3) := by decide +kernel
theorem dX0_passSlots_158 : decode cX0_passSlots 158 = .ok (.goto (-75), 3) := by decide +kernel
theorem dX0_passSlots_161 : decode cX0_passSlots 161 = .ok (.return_, 1) := by decide +kernel
theorem dX0_noteSlot_0 : decode cX0_noteSlot 0 = .ok (.iconst 0, 1) := by decide +kernel
theorem dX0_noteSlot_1 : decode cX0_noteSlot 1 = .ok (.istore_n 2, 1) := by decide +kernel
theorem dX0_noteSlot_2 : decode cX0_noteSlot 2 = .ok (.iload_n 2, 1) := by decide +kernel
theorem dX0_noteSlot_3 : decode cX0_noteSlot 3 = .ok (.bipush 6, 2) := by decide +kernel
theorem dX0_noteSlot_5 : decode cX0_noteSlot 5 = .ok (.if_icmp .ge 65, 3) := by decide +kernel
theorem dX0_noteSlot_8 : decode cX0_noteSlot 8 = .ok (.iload_n 2, 1) := by decide +kernel
theorem dX0_noteSlot_9 : decode cX0_noteSlot 9 = .ok (.iload_n 1, 1) := by decide +kernel
theorem dX0_noteSlot_10 : decode cX0_noteSlot 10 = .ok (.if_icmp .ne 23, 3) := by decide +kernel
theorem dX0_noteSlot_13 : decode cX0_noteSlot 13 = .ok (.aload_n 0, 1) := by decide +kernel
theorem dX0_noteSlot_14 : decode cX0_noteSlot 14 = .ok (.getfield 21, 3) := by decide +kernel
theorem dX0_noteSlot_17 : decode cX0_noteSlot 17 = .ok (.iload_n 2, 1) := by decide +kernel
theorem dX0_noteSlot_18 : decode cX0_noteSlot 18 = .ok (.dup2, 1) := by decide +kernel
theorem dX0_noteSlot_19 : decode cX0_noteSlot 19 = .ok (.iaload, 1) := by decide +kernel
theorem dX0_noteSlot_20 : decode cX0_noteSlot 20 = .ok (.iconst 1, 1) := by decide +kernel
theorem dX0_noteSlot_21 : decode cX0_noteSlot 21 = .ok (.iadd, 1) := by decide +kernel
theorem dX0_noteSlot_22 : decode cX0_noteSlot 22 = .ok (.iastore, 1) := by decide +kernel
theorem dX0_noteSlot_23 : decode cX0_noteSlot 23 = .ok (.aload_n 0, 1) := by decide +kernel
theorem dX0_noteSlot_24 : decode cX0_noteSlot 24 = .ok (.getfield 30, 3) := by decide +kernel
theorem dX0_noteSlot_27 : decode cX0_noteSlot 27 = .ok (.iload_n 2, 1) := by decide +kernel
theorem dX0_noteSlot_28 : decode cX0_noteSlot 28 = .ok (.iconst 0, 1) := by decide +kernel
theorem dX0_noteSlot_29 : decode cX0_noteSlot 29 = .ok (.iastore, 1) := by decide +kernel
theorem dX0_noteSlot_30 : decode cX0_noteSlot 30 = .ok (.goto 34, 3) := by decide +kernel
theorem dX0_noteSlot_33 : decode cX0_noteSlot 33 = .ok (.aload_n 0, 1) := by decide +kernel
theorem dX0_noteSlot_34 : decode cX0_noteSlot 34 = .ok (.getfield 30, 3) := by decide +kernel
theorem dX0_noteSlot_37 : decode cX0_noteSlot 37 = .ok (.iload_n 2, 1) := by decide +kernel
theorem dX0_noteSlot_38 : decode cX0_noteSlot 38 = .ok (.dup2, 1) := by decide +kernel
theorem dX0_noteSlot_39 : decode cX0_noteSlot 39 = .ok (.iaload, 1) := by decide +kernel
theorem dX0_noteSlot_40 : decode cX0_noteSlot 40 = .ok (.iconst 1, 1) := by decide +kernel
theorem dX0_noteSlot_41 : decode cX0_noteSlot 41 = .ok (.iadd, 1) := by decide +kernel
theorem dX0_noteSlot_42 : decode cX0_noteSlot 42 = .ok (.iastore, 1) := by decide +kernel
theorem dX0_noteSlot_43 : decode cX0_noteSlot 43 = .ok (.aload_n 0, 1) := by decide +kernel
theorem dX0_noteSlot_44 : decode cX0_noteSlot 44 = .ok (.getfield 18, 3) := by decide +kernel
theorem dX0_noteSlot_47 : decode cX0_noteSlot 47 = .ok (.iload_n 2, 1) := by decide +kernel
theorem dX0_noteSlot_48 : decode cX0_noteSlot 48 = .ok (.aload_n 0, 1) := by decide +kernel
theorem dX0_noteSlot_49 : decode cX0_noteSlot 49 = .ok (.getfield 18, 3) := by decide +kernel
theorem dX0_noteSlot_52 : decode cX0_noteSlot 52 = .ok (.iload_n 2, 1) := by decide +kernel
theorem dX0_noteSlot_53 : decode cX0_noteSlot 53 = .ok (.iaload, 1) := by decide +kernel
theorem dX0_noteSlot_54 : decode cX0_noteSlot 54 = .ok (.aload_n 0, 1) := by decide +kernel
theorem dX0_noteSlot_55 : decode cX0_noteSlot 55 = .ok (.getfield 30, 3) := by decide +kernel
theorem dX0_noteSlot_58 : decode cX0_noteSlot 58 = .ok (.iload_n 2, 1) := by decide +kernel
theorem dX0_noteSlot_59 : decode cX0_noteSlot 59 = .ok (.iaload, 1) := by decide +kernel
theorem dX0_noteSlot_60 : decode cX0_noteSlot 60 = .ok (.invokestatic 84, 3) := by decide +kernel
theorem dX0_noteSlot_63 : decode cX0_noteSlot 63 = .ok (.iastore, 1) := by decide +kernel
theorem dX0_noteSlot_64 : decode cX0_noteSlot 64 = .ok (.iinc 2 1, 3) := by decide +kernel
theorem dX0_noteSlot_67 : decode cX0_noteSlot 67 = .ok (.goto (-65), 3) := by decide +kernel
theorem dX0_noteSlot_70 : decode cX0_noteSlot 70 = .ok (.return_, 1) := by decide +kernel
theorem dX0_lightOf_0 : decode cX0_lightOf 0 = .ok (.aload_n 0, 1) := by decide +kernel
theorem dX0_lightOf_1 : decode cX0_lightOf 1 = .ok (.getfield 33, 3) := by decide +kernel
theorem dX0_lightOf_4 : decode cX0_lightOf 4 = .ok (.ifCond .le 21, 3) := by decide +kernel
theorem dX0_lightOf_7 : decode cX0_lightOf 7 = .ok (.aload_n 0, 1) := by decide +kernel
theorem dX0_lightOf_8 : decode cX0_lightOf 8 = .ok (.getfield 21, 3) := by decide +kernel
theorem dX0_lightOf_11 : decode cX0_lightOf 11 = .ok (.iload_n 1, 1) := by decide +kernel
theorem dX0_lightOf_12 : decode cX0_lightOf 12 = .ok (.iaload, 1) := by decide +kernel
theorem dX0_lightOf_13 : decode cX0_lightOf 13 = .ok (.sipush 1000, 3) := by decide +kernel
theorem dX0_lightOf_16 : decode cX0_lightOf 16 = .ok (.imul, 1) := by decide +kernel
theorem dX0_lightOf_17 : decode cX0_lightOf 17 = .ok (.aload_n 0, 1) := by decide +kernel
theorem dX0_lightOf_18 : decode cX0_lightOf 18 = .ok (.getfield 33, 3) := by decide +kernel
theorem dX0_lightOf_21 : decode cX0_lightOf 21 = .ok (.idiv, 1) := by decide +kernel
theorem dX0_lightOf_22 : decode cX0_lightOf 22 = .ok (.goto 4, 3) := by decide +kernel
theorem dX0_lightOf_25 : decode cX0_lightOf 25 = .ok (.iconst 0, 1) := by decide +kernel
theorem dX0_lightOf_26 : decode cX0_lightOf 26 = .ok (.ireturn, 1) := by decide +kernel
theorem dX0_flickers_0 : decode cX0_flickers 0 = .ok (.aload_n 0, 1) := by decide +kernel
theorem dX0_flickers_1 : decode cX0_flickers 1 = .ok (.getfield 21, 3) := by decide +kernel
theorem dX0_flickers_4 : decode cX0_flickers 4 = .ok (.iload_n 1, 1) := by decide +kernel
theorem dX0_flickers_5 : decode cX0_flickers 5 = .ok (.iaload, 1) := by decide +kernel
theorem dX0_flickers_6 : decode cX0_flickers 6 = .ok (.ifCond .le 20, 3) := by decide +kernel
theorem dX0_flickers_9 : decode cX0_flickers 9 = .ok (.aload_n 0, 1) := by decide +kernel
theorem dX0_flickers_10 : decode cX0_flickers 10 = .ok (.getfield 18, 3) := by decide +kernel
theorem dX0_flickers_13 : decode cX0_flickers 13 = .ok (.iload_n 1, 1) := by decide +kernel
theorem dX0_flickers_14 : decode cX0_flickers 14 = .ok (.iaload, 1) := by decide +kernel
theorem dX0_flickers_15 : decode cX0_flickers 15 = .ok (.aload_n 0, 1) := by decide +kernel
theorem dX0_flickers_16 : decode cX0_flickers 16 = .ok (.getfield 37, 3) := by decide +kernel
theorem dX0_flickers_19 : decode cX0_flickers 19 = .ok (.if_icmp .le 7, 3) := by decide +kernel
theorem dX0_flickers_22 : decode cX0_flickers 22 = .ok (.iconst 1, 1) := by decide +kernel
theorem dX0_flickers_23 : decode cX0_flickers 23 = .ok (.goto 4, 3) := by decide +kernel
theorem dX0_flickers_26 : decode cX0_flickers 26 = .ok (.iconst 0, 1) := by decide +kernel
theorem dX0_flickers_27 : decode cX0_flickers 27 = .ok (.ireturn, 1) := by decide +kernel
set_option maxRecDepth 20000 in
theorem ggX0_isSeen_X0_lightOf : GoodIn wsX0_isSeen wsX0_lightOf := goodIn_r _ [6, 7, 8, 15, 16, 17, 18, 19, 20, 21, 22, 23, 24] (by decide +kernel) (by decide +kernel)
set_option maxRecDepth 20000 in
theorem gX0_isSeen_X0_lightOf : GoodIn wsX0_isSeen (wsV RX0 90 RX0 yX0_lightOf wsX0_lightOf) := goodIn_app (goodIn_of _ (by decide +kernel)) ggX0_isSeen_X0_lightOf
set_option maxRecDepth 20000 in
theorem ggX0_isSeen_X0_flickers : GoodIn wsX0_isSeen wsX0_flickers := goodIn_r _ [12, 8, 13, 14, 15, 16, 17, 18, 19, 20, 21, 22, 23, 24] (by decide +kernel) (by decide +kernel)
set_option maxRecDepth 20000 in
theorem gX0_isSeen_X0_flickers : GoodIn wsX0_isSeen (wsV RX0 94 RX0 yX0_flickers wsX0_flickers) := goodIn_app (goodIn_of _ (by decide +kernel)) ggX0_isSeen_X0_flickers
theorem dX0_isSeen_0 : decode cX0_isSeen 0 = .ok (.aload_n 0, 1) := by decide +kernel
theorem dX0_isSeen_1 : decode cX0_isSeen 1 = .ok (.iload_n 1, 1) := by decide +kernel
theorem dX0_isSeen_2 : decode cX0_isSeen 2 = .ok (.invokevirtual 90, 3) := by decide +kernel
theorem dX0_isSeen_5 : decode cX0_isSeen 5 = .ok (.istore_n 2, 1) := by decide +kernel
theorem dX0_isSeen_6 : decode cX0_isSeen 6 = .ok (.iload_n 2, 1) := by decide +kernel
theorem dX0_isSeen_7 : decode cX0_isSeen 7 = .ok (.ifCond .le 23, 3) := by decide +kernel
theorem dX0_isSeen_10 : decode cX0_isSeen 10 = .ok (.iload_n 2, 1) := by decide +kernel
theorem dX0_isSeen_11 : decode cX0_isSeen 11 = .ok (.aload_n 0, 1) := by decide +kernel
theorem dX0_isSeen_12 : decode cX0_isSeen 12 = .ok (.getfield 40, 3) := by decide +kernel
theorem dX0_isSeen_15 : decode cX0_isSeen 15 = .ok (.if_icmp .lt 15, 3) := by decide +kernel
theorem dX0_isSeen_18 : decode cX0_isSeen 18 = .ok (.aload_n 0, 1) := by decide +kernel
theorem dX0_isSeen_19 : decode cX0_isSeen 19 = .ok (.iload_n 1, 1) := by decide +kernel
theorem dX0_isSeen_20 : decode cX0_isSeen 20 = .ok (.invokevirtual 94, 3) := by decide +kernel
theorem dX0_isSeen_23 : decode cX0_isSeen 23 = .ok (.ifCond .ne 7, 3) := by decide +kernel
theorem dX0_isSeen_26 : decode cX0_isSeen 26 = .ok (.iconst 1, 1) := by decide +kernel
theorem dX0_isSeen_27 : decode cX0_isSeen 27 = .ok (.goto 4, 3) := by decide +kernel
theorem dX0_isSeen_30 : decode cX0_isSeen 30 = .ok (.iconst 0, 1) := by decide +kernel
theorem dX0_isSeen_31 : decode cX0_isSeen 31 = .ok (.ireturn, 1) := by decide +kernel
set_option maxRecDepth 20000 in
theorem ggX0_flickering_X0_flickers : GoodIn wsX0_flickering wsX0_flickers := goodIn_r _ [5, 6, 7, 8, 9, 10, 11, 12, 13, 14, 15, 16, 17, 18] (by decide +kernel) (by decide +kernel)
set_option maxRecDepth 20000 in
theorem gX0_flickering_X0_flickers : GoodIn wsX0_flickering (wsV RX0 94 RX0 yX0_flickers wsX0_flickers) := goodIn_app (goodIn_of _ (by decide +kernel)) ggX0_flickering_X0_flickers
theorem dX0_flickering_0 : decode cX0_flickering 0 = .ok (.iconst 0, 1) := by decide +kernel
theorem dX0_flickering_1 : decode cX0_flickering 1 = .ok (.istore_n 1, 1) := by decide +kernel
theorem dX0_flickering_2 : decode cX0_flickering 2 = .ok (.iconst 0, 1) := by decide +kernel
theorem dX0_flickering_3 : decode cX0_flickering 3 = .ok (.istore_n 2, 1) := by decide +kernel
theorem dX0_flickering_4 : decode cX0_flickering 4 = .ok (.iload_n 2, 1) := by decide +kernel
theorem dX0_flickering_5 : decode cX0_flickering 5 = .ok (.bipush 6, 2) := by decide +kernel
theorem dX0_flickering_7 : decode cX0_flickering 7 = .ok (.if_icmp .ge 20, 3) := by decide +kernel
theorem dX0_flickering_10 : decode cX0_flickering 10 = .ok (.aload_n 0, 1) := by decide +kernel
theorem dX0_flickering_11 : decode cX0_flickering 11 = .ok (.iload_n 2, 1) := by decide +kernel
theorem dX0_flickering_12 : decode cX0_flickering 12 = .ok (.invokevirtual 94, 3) := by decide +kernel
theorem dX0_flickering_15 : decode cX0_flickering 15 = .ok (.ifCond .eq 6, 3) := by decide +kernel
theorem dX0_flickering_18 : decode cX0_flickering 18 = .ok (.iinc 1 1, 3) := by decide +kernel
theorem dX0_flickering_21 : decode cX0_flickering 21 = .ok (.iinc 2 1, 3) := by decide +kernel
theorem dX0_flickering_24 : decode cX0_flickering 24 = .ok (.goto (-20), 3) := by decide +kernel
theorem dX0_flickering_27 : decode cX0_flickering 27 = .ok (.iload_n 1, 1) := by decide +kernel
theorem dX0_flickering_28 : decode cX0_flickering 28 = .ok (.ireturn, 1) := by decide +kernel
set_option maxRecDepth 20000 in
theorem ggX0_seen_X0_isSeen : GoodIn wsX0_seen wsX0_isSeen := goodIn_r _ [5, 6, 7, 8, 9, 4, 10, 11, 12, 13, 14, 15, 16, 17, 18, 19, 20, 21, 22, 23, 24, 25, 26, 27, 28] (by decide +kernel) (by decide +kernel)
set_option maxRecDepth 20000 in
theorem gX0_seen_X0_isSeen : GoodIn wsX0_seen (wsV RX0 98 RX0 yX0_isSeen wsX0_isSeen) := goodIn_app (goodIn_of _ (by decide +kernel)) ggX0_seen_X0_isSeen
theorem dX0_seen_0 : decode cX0_seen 0 = .ok (.iconst 0, 1) := by decide +kernel
theorem dX0_seen_1 : decode cX0_seen 1 = .ok (.istore_n 1, 1) := by decide +kernel
theorem dX0_seen_2 : decode cX0_seen 2 = .ok (.iconst 0, 1) := by decide +kernel
theorem dX0_seen_3 : decode cX0_seen 3 = .ok (.istore_n 2, 1) := by decide +kernel
theorem dX0_seen_4 : decode cX0_seen 4 = .ok (.iload_n 2, 1) := by decide +kernel
theorem dX0_seen_5 : decode cX0_seen 5 = .ok (.bipush 6, 2) := by decide +kernel
theorem dX0_seen_7 : decode cX0_seen 7 = .ok (.if_icmp .ge 20, 3) := by decide +kernel
theorem dX0_seen_10 : decode cX0_seen 10 = .ok (.aload_n 0, 1) := by decide +kernel
theorem dX0_seen_11 : decode cX0_seen 11 = .ok (.iload_n 2, 1) := by decide +kernel
theorem dX0_seen_12 : decode cX0_seen 12 = .ok (.invokevirtual 98, 3) := by decide +kernel
theorem dX0_seen_15 : decode cX0_seen 15 = .ok (.ifCond .eq 6, 3) := by decide +kernel
theorem dX0_seen_18 : decode cX0_seen 18 = .ok (.iinc 1 1, 3) := by decide +kernel
theorem dX0_seen_21 : decode cX0_seen 21 = .ok (.iinc 2 1, 3) := by decide +kernel
theorem dX0_seen_24 : decode cX0_seen 24 = .ok (.goto (-20), 3) := by decide +kernel
theorem dX0_seen_27 : decode cX0_seen 27 = .ok (.iload_n 1, 1) := by decide +kernel
theorem dX0_seen_28 : decode cX0_seen 28 = .ok (.ireturn, 1) := by decide +kernel
theorem dX0_darkSlots_0 : decode cX0_darkSlots 0 = .ok (.iconst 0, 1) := by decide +kernel
theorem dX0_darkSlots_1 : decode cX0_darkSlots 1 = .ok (.istore_n 1, 1) := by decide +kernel
theorem dX0_darkSlots_2 : decode cX0_darkSlots 2 = .ok (.iconst 0, 1) := by decide +kernel
theorem dX0_darkSlots_3 : decode cX0_darkSlots 3 = .ok (.istore_n 2, 1) := by decide +kernel
theorem dX0_darkSlots_4 : decode cX0_darkSlots 4 = .ok (.iload_n 2, 1) := by decide +kernel
theorem dX0_darkSlots_5 : decode cX0_darkSlots 5 = .ok (.bipush 96, 2) := by decide +kernel
theorem dX0_darkSlots_7 : decode cX0_darkSlots 7 = .ok (.if_icmp .ge 30, 3) := by decide +kernel
theorem dX0_darkSlots_10 : decode cX0_darkSlots 10 = .ok (.iload_n 2, 1) := by decide +kernel
theorem dX0_darkSlots_11 : decode cX0_darkSlots 11 = .ok (.aload_n 0, 1) := by decide +kernel
theorem dX0_darkSlots_12 : decode cX0_darkSlots 12 = .ok (.getfield 33, 3) := by decide +kernel
theorem dX0_darkSlots_15 : decode cX0_darkSlots 15 = .ok (.if_icmp .ge 22, 3) := by decide +kernel
theorem dX0_darkSlots_18 : decode cX0_darkSlots 18 = .ok (.aload_n 0, 1) := by decide +kernel
theorem dX0_darkSlots_19 : decode cX0_darkSlots 19 = .ok (.getfield 15, 3) := by decide +kernel
theorem dX0_darkSlots_22 : decode cX0_darkSlots 22 = .ok (.iload_n 2, 1) := by decide +kernel
theorem dX0_darkSlots_23 : decode cX0_darkSlots 23 = .ok (.iaload, 1) := by decide +kernel
theorem dX0_darkSlots_24 : decode cX0_darkSlots 24 = .ok (.iconst (-1), 1) := by decide +kernel
theorem dX0_darkSlots_25 : decode cX0_darkSlots 25 = .ok (.if_icmp .ne 6, 3) := by decide +kernel
theorem dX0_darkSlots_28 : decode cX0_darkSlots 28 = .ok (.iinc 1 1, 3) := by decide +kernel
theorem dX0_darkSlots_31 : decode cX0_darkSlots 31 = .ok (.iinc 2 1, 3) := by decide +kernel
theorem dX0_darkSlots_34 : decode cX0_darkSlots 34 = .ok (.goto (-30), 3) := by decide +kernel
theorem dX0_darkSlots_37 : decode cX0_darkSlots 37 = .ok (.iload_n 1, 1) := by decide +kernel
theorem dX0_darkSlots_38 : decode cX0_darkSlots 38 = .ok (.ireturn, 1) := by decide +kernel
theorem dX0_changes_0 : decode cX0_changes 0 = .ok (.iconst 0, 1) := by decide +kernel
theorem dX0_changes_1 : decode cX0_changes 1 = .ok (.istore_n 1, 1) := by decide +kernel
theorem dX0_changes_2 : decode cX0_changes 2 = .ok (.iconst 1, 1) := by decide +kernel
theorem dX0_changes_3 : decode cX0_changes 3 = .ok (.istore_n 2, 1) := by decide +kernel
theorem dX0_changes_4 : decode cX0_changes 4 = .ok (.iload_n 2, 1) := by decide +kernel
theorem dX0_changes_5 : decode cX0_changes 5 = .ok (.bipush 96, 2) := by decide +kernel
theorem dX0_changes_7 : decode cX0_changes 7 = .ok (.if_icmp .ge 37, 3) := by decide +kernel
theorem dX0_changes_10 : decode cX0_changes 10 = .ok (.iload_n 2, 1) := by decide +kernel
theorem dX0_changes_11 : decode cX0_changes 11 = .ok (.aload_n 0, 1) := by decide +kernel
theorem dX0_changes_12 : decode cX0_changes 12 = .ok (.getfield 33, 3) := by decide +kernel
theorem dX0_changes_15 : decode cX0_changes 15 = .ok (.if_icmp .ge 29, 3) := by decide +kernel
theorem dX0_changes_18 : decode cX0_changes 18 = .ok (.aload_n 0, 1) := by decide +kernel
theorem dX0_changes_19 : decode cX0_changes 19 = .ok (.getfield 9, 3) := by decide +kernel
theorem dX0_changes_22 : decode cX0_changes 22 = .ok (.iload_n 2, 1) := by decide +kernel
theorem dX0_changes_23 : decode cX0_changes 23 = .ok (.iaload, 1) := by decide +kernel
theorem dX0_changes_24 : decode cX0_changes 24 = .ok (.aload_n 0, 1) := by decide +kernel
theorem dX0_changes_25 : decode cX0_changes 25 = .ok (.getfield 9, 3) := by decide +kernel
theorem dX0_changes_28 : decode cX0_changes 28 = .ok (.iload_n 2, 1) := by decide +kernel
theorem dX0_changes_29 : decode cX0_changes 29 = .ok (.iconst 1, 1) := by decide +kernel
theorem dX0_changes_30 : decode cX0_changes 30 = .ok (.isub, 1) := by decide +kernel
theorem dX0_changes_31 : decode cX0_changes 31 = .ok (.iaload, 1) := by decide +kernel
theorem dX0_changes_32 : decode cX0_changes 32 = .ok (.if_icmp .eq 6, 3) := by decide +kernel
theorem dX0_changes_35 : decode cX0_changes 35 = .ok (.iinc 1 1, 3) := by decide +kernel
theorem dX0_changes_38 : decode cX0_changes 38 = .ok (.iinc 2 1, 3) := by decide +kernel
theorem dX0_changes_41 : decode cX0_changes 41 = .ok (.goto (-37), 3) := by decide +kernel
theorem dX0_changes_44 : decode cX0_changes 44 = .ok (.iload_n 1, 1) := by decide +kernel
theorem dX0_changes_45 : decode cX0_changes 45 = .ok (.ireturn, 1) := by decide +kernel
set_option maxRecDepth 20000 in
theorem ggX1_init_X2_init : GoodIn wsX1_init wsX2_init := goodIn_r _ [12, 13, 2, 3, 14, 15, 16, 17, 18, 19, 20, 21, 22, 23, 24, 25, 26, 27, 28, 29, 30, 31, 32, 36, 37, 38, 39, 40, 41, 42, 43, 44, 45] (by decide +kernel) (by decide +kernel)
set_option maxRecDepth 20000 in
theorem gX1_init_X2_init : GoodIn wsX1_init (wsX2_init) := ggX1_init_X2_init
theorem dX1_init_0 : decode cX1_init 0 = .ok (.aload_n 0, 1) := by decide +kernel
theorem dX1_init_1 : decode cX1_init 1 = .ok (.invokespecial 3, 3) := by decide +kernel
theorem dX1_init_4 : decode cX1_init 4 = .ok (.aload_n 0, 1) := by decide +kernel
theorem dX1_init_5 : decode cX1_init 5 = .ok (.bipush 6, 2) := by decide +kernel
theorem dX1_init_7 : decode cX1_init 7 = .ok (.anewarray 9, 3) := by decide +kernel
theorem dX1_init_10 : decode cX1_init 10 = .ok (.putfield 11, 3) := by decide +kernel
theorem dX1_init_13 : decode cX1_init 13 = .ok (.aload_n 0, 1) := by decide +kernel
theorem dX1_init_14 : decode cX1_init 14 = .ok (.iconst 0, 1) := by decide +kernel
theorem dX1_init_15 : decode cX1_init 15 = .ok (.putfield 17, 3) := by decide +kernel
theorem dX1_init_18 : decode cX1_init 18 = .ok (.aload_n 0, 1) := by decide +kernel
theorem dX1_init_19 : decode cX1_init 19 = .ok (.iconst 0, 1) := by decide +kernel
theorem dX1_init_20 : decode cX1_init 20 = .ok (.putfield 21, 3) := by decide +kernel
theorem dX1_init_23 : decode cX1_init 23 = .ok (.iconst 0, 1) := by decide +kernel
theorem dX1_init_24 : decode cX1_init 24 = .ok (.istore_n 1, 1) := by decide +kernel
theorem dX1_init_25 : decode cX1_init 25 = .ok (.iload_n 1, 1) := by decide +kernel
theorem dX1_init_26 : decode cX1_init 26 = .ok (.bipush 6, 2) := by decide +kernel
theorem dX1_init_28 : decode cX1_init 28 = .ok (.if_icmp .ge 22, 3) := by decide +kernel
theorem dX1_init_31 : decode cX1_init 31 = .ok (.aload_n 0, 1) := by decide +kernel
theorem dX1_init_32 : decode cX1_init 32 = .ok (.getfield 11, 3) := by decide +kernel
theorem dX1_init_35 : decode cX1_init 35 = .ok (.iload_n 1, 1) := by decide +kernel
theorem dX1_init_36 : decode cX1_init 36 = .ok (.new 9, 3) := by decide +kernel
theorem dX1_init_39 : decode cX1_init 39 = .ok (.dup, 1) := by decide +kernel
theorem dX1_init_40 : decode cX1_init 40 = .ok (.invokespecial 24, 3) := by decide +kernel
theorem dX1_init_43 : decode cX1_init 43 = .ok (.aastore, 1) := by decide +kernel
theorem dX1_init_44 : decode cX1_init 44 = .ok (.iinc 1 1, 3) := by decide +kernel
theorem dX1_init_47 : decode cX1_init 47 = .ok (.goto (-22), 3) := by decide +kernel
theorem dX1_init_50 : decode cX1_init 50 = .ok (.return_, 1) := by decide +kernel
set_option maxRecDepth 20000 in
theorem ggX1_push_X2_copyFrom : GoodIn wsX1_push wsX2_copyFrom := goodIn_r _ [8, 9, 10, 11, 12, 13, 14, 15, 16, 17, 18, 19, 20, 21, 22, 26, 27, 28, 29, 30, 31, 32, 33, 34, 35] (by decide +kernel) (by decide +kernel)
set_option maxRecDepth 20000 in
theorem gX1_push_X2_copyFrom : GoodIn wsX1_push (wsV RX1 25 RX2 yX2_copyFrom wsX2_copyFrom) := goodIn_app (goodIn_of _ (by decide +kernel)) ggX1_push_X2_copyFrom
theorem dX1_push_0 : decode cX1_push 0 = .ok (.aload_n 0, 1) := by decide +kernel
theorem dX1_push_1 : decode cX1_push 1 = .ok (.getfield 21, 3) := by decide +kernel
theorem dX1_push_4 : decode cX1_push 4 = .ok (.bipush 6, 2) := by decide +kernel
theorem dX1_push_6 : decode cX1_push 6 = .ok (.if_icmp .ne 26, 3) := by decide +kernel
theorem dX1_push_9 : decode cX1_push 9 = .ok (.aload_n 0, 1) := by decide +kernel
theorem dX1_push_10 : decode cX1_push 10 = .ok (.aload_n 0, 1) := by decide +kernel
theorem dX1_push_11 : decode cX1_push 11 = .ok (.getfield 17, 3) := by decide +kernel
theorem dX1_push_14 : decode cX1_push 14 = .ok (.iconst 1, 1) := by decide +kernel
theorem dX1_push_15 : decode cX1_push 15 = .ok (.iadd, 1) := by decide +kernel
theorem dX1_push_16 : decode cX1_push 16 = .ok (.bipush 6, 2) := by decide +kernel
theorem dX1_push_18 : decode cX1_push 18 = .ok (.irem, 1) := by decide +kernel
theorem dX1_push_19 : decode cX1_push 19 = .ok (.putfield 17, 3) := by decide +kernel
theorem dX1_push_22 : decode cX1_push 22 = .ok (.aload_n 0, 1) := by decide +kernel
theorem dX1_push_23 : decode cX1_push 23 = .ok (.dup, 1) := by decide +kernel
theorem dX1_push_24 : decode cX1_push 24 = .ok (.getfield 21, 3) := by decide +kernel
theorem dX1_push_27 : decode cX1_push 27 = .ok (.iconst 1, 1) := by decide +kernel
theorem dX1_push_28 : decode cX1_push 28 = .ok (.isub, 1) := by decide +kernel
theorem dX1_push_29 : decode cX1_push 29 = .ok (.putfield 21, 3) := by decide +kernel
theorem dX1_push_32 : decode cX1_push 32 = .ok (.aload_n 0, 1) := by decide +kernel
theorem dX1_push_33 : decode cX1_push 33 = .ok (.getfield 11, 3) := by decide +kernel
theorem dX1_push_36 : decode cX1_push 36 = .ok (.aload_n 0, 1) := by decide +kernel
theorem dX1_push_37 : decode cX1_push 37 = .ok (.getfield 17, 3) := by decide +kernel
theorem dX1_push_40 : decode cX1_push 40 = .ok (.aload_n 0, 1) := by decide +kernel
theorem dX1_push_41 : decode cX1_push 41 = .ok (.getfield 21, 3) := by decide +kernel
theorem dX1_push_44 : decode cX1_push 44 = .ok (.iadd, 1) := by decide +kernel
theorem dX1_push_45 : decode cX1_push 45 = .ok (.bipush 6, 2) := by decide +kernel
theorem dX1_push_47 : decode cX1_push 47 = .ok (.irem, 1) := by decide +kernel
theorem dX1_push_48 : decode cX1_push 48 = .ok (.aaload, 1) := by decide +kernel
theorem dX1_push_49 : decode cX1_push 49 = .ok (.aload_n 1, 1) := by decide +kernel
theorem dX1_push_50 : decode cX1_push 50 = .ok (.invokevirtual 25, 3) := by decide +kernel
theorem dX1_push_53 : decode cX1_push 53 = .ok (.aload_n 0, 1) := by decide +kernel
theorem dX1_push_54 : decode cX1_push 54 = .ok (.dup, 1) := by decide +kernel
theorem dX1_push_55 : decode cX1_push 55 = .ok (.getfield 21, 3) := by decide +kernel
theorem dX1_push_58 : decode cX1_push 58 = .ok (.iconst 1, 1) := by decide +kernel
theorem dX1_push_59 : decode cX1_push 59 = .ok (.iadd, 1) := by decide +kernel
theorem dX1_push_60 : decode cX1_push 60 = .ok (.putfield 21, 3) := by decide +kernel
theorem dX1_push_63 : decode cX1_push 63 = .ok (.return_, 1) := by decide +kernel
set_option maxRecDepth 20000 in
theorem ggX1_pop_X2_copyFrom : GoodIn wsX1_pop wsX2_copyFrom := goodIn_r _ [8, 9, 10, 11, 12, 13, 14, 15, 16, 17, 18, 19, 20, 21, 22, 26, 27, 28, 29, 30, 31, 32, 33, 34, 35] (by decide +kernel) (by decide +kernel)
set_option maxRecDepth 20000 in
theorem gX1_pop_X2_copyFrom : GoodIn wsX1_pop (wsV RX1 25 RX2 yX2_copyFrom wsX2_copyFrom) := goodIn_app (goodIn_of _ (by decide +kernel)) ggX1_pop_X2_copyFrom
theorem dX1_pop_0 : decode cX1_pop 0 = .ok (.aload_n 0, 1) := by decide +kernel
theorem dX1_pop_1 : decode cX1_pop 1 = .ok (.dup, 1) := by decide +kernel
theorem dX1_pop_2 : decode cX1_pop 2 = .ok (.getfield 21, 3) := by decide +kernel
theorem dX1_pop_5 : decode cX1_pop 5 = .ok (.iconst 1, 1) := by decide +kernel
theorem dX1_pop_6 : decode cX1_pop 6 = .ok (.isub, 1) := by decide +kernel
theorem dX1_pop_7 : decode cX1_pop 7 = .ok (.putfield 21, 3) := by decide +kernel
theorem dX1_pop_10 : decode cX1_pop 10 = .ok (.aload_n 1, 1) := by decide +kernel
theorem dX1_pop_11 : decode cX1_pop 11 = .ok (.aload_n 0, 1) := by decide +kernel
theorem dX1_pop_12 : decode cX1_pop 12 = .ok (.getfield 11, 3) := by decide +kernel
theorem dX1_pop_15 : decode cX1_pop 15 = .ok (.aload_n 0, 1) := by decide +kernel
theorem dX1_pop_16 : decode cX1_pop 16 = .ok (.getfield 17, 3) := by decide +kernel
theorem dX1_pop_19 : decode cX1_pop 19 = .ok (.aload_n 0, 1) := by decide +kernel
theorem dX1_pop_20 : decode cX1_pop 20 = .ok (.getfield 21, 3) := by decide +kernel
theorem dX1_pop_23 : decode cX1_pop 23 = .ok (.iadd, 1) := by decide +kernel
theorem dX1_pop_24 : decode cX1_pop 24 = .ok (.bipush 6, 2) := by decide +kernel
theorem dX1_pop_26 : decode cX1_pop 26 = .ok (.irem, 1) := by decide +kernel
theorem dX1_pop_27 : decode cX1_pop 27 = .ok (.aaload, 1) := by decide +kernel
theorem dX1_pop_28 : decode cX1_pop 28 = .ok (.invokevirtual 25, 3) := by decide +kernel
theorem dX1_pop_31 : decode cX1_pop 31 = .ok (.return_, 1) := by decide +kernel
set_option maxRecDepth 20000 in
theorem ggX2_init_J7_fill_53178 : GoodIn wsX2_init wsJ7_fill_53178 := goodIn_r _ [22] (by decide +kernel) (by decide +kernel)
set_option maxRecDepth 20000 in
theorem gX2_init_J7_fill_53178 : GoodIn wsX2_init (va_wsS RX2 43 yJ7_fill_53178 wsJ7_fill_53178) := goodIn_app (goodIn_of _ (by decide +kernel)) ggX2_init_J7_fill_53178
theorem dX2_init_0 : decode cX2_init 0 = .ok (.aload_n 0, 1) := by decide +kernel
theorem dX2_init_1 : decode cX2_init 1 = .ok (.invokespecial 3, 3) := by decide +kernel
theorem dX2_init_4 : decode cX2_init 4 = .ok (.aload_n 0, 1) := by decide +kernel
theorem dX2_init_5 : decode cX2_init 5 = .ok (.bipush 6, 2) := by decide +kernel
theorem dX2_init_7 : decode cX2_init 7 = .ok (.newarray .int, 2) := by decide +kernel
theorem dX2_init_9 : decode cX2_init 9 = .ok (.putfield 9, 3) := by decide +kernel
theorem dX2_init_12 : decode cX2_init 12 = .ok (.aload_n 0, 1) := by decide +kernel
theorem dX2_init_13 : decode cX2_init 13 = .ok (.bipush 6, 2) := by decide +kernel
theorem dX2_init_15 : decode cX2_init 15 = .ok (.newarray .int, 2) := by decide +kernel
theorem dX2_init_17 : decode cX2_init 17 = .ok (.putfield 15, 3) := by decide +kernel
theorem dX2_init_20 : decode cX2_init 20 = .ok (.aload_n 0, 1) := by decide +kernel
theorem dX2_init_21 : decode cX2_init 21 = .ok (.bipush 6, 2) := by decide +kernel
theorem dX2_init_23 : decode cX2_init 23 = .ok (.newarray .int, 2) := by decide +kernel
theorem dX2_init_25 : decode cX2_init 25 = .ok (.putfield 18, 3) := by decide +kernel
theorem dX2_init_28 : decode cX2_init 28 = .ok (.aload_n 0, 1) := by decide +kernel
theorem dX2_init_29 : decode cX2_init 29 = .ok (.bipush 6, 2) := by decide +kernel
theorem dX2_init_31 : decode cX2_init 31 = .ok (.newarray .int, 2) := by decide +kernel
theorem dX2_init_33 : decode cX2_init 33 = .ok (.putfield 21, 3) := by decide +kernel
theorem dX2_init_36 : decode cX2_init 36 = .ok (.aload_n 0, 1) := by decide +kernel
theorem dX2_init_37 : decode cX2_init 37 = .ok (.bipush 6, 2) := by decide +kernel
theorem dX2_init_39 : decode cX2_init 39 = .ok (.newarray .int, 2) := by decide +kernel
theorem dX2_init_41 : decode cX2_init 41 = .ok (.putfield 24, 3) := by decide +kernel
theorem dX2_init_44 : decode cX2_init 44 = .ok (.aload_n 0, 1) := by decide +kernel
theorem dX2_init_45 : decode cX2_init 45 = .ok (.bipush 42, 2) := by decide +kernel
theorem dX2_init_47 : decode cX2_init 47 = .ok (.newarray .int, 2) := by decide +kernel
theorem dX2_init_49 : decode cX2_init 49 = .ok (.putfield 27, 3) := by decide +kernel
theorem dX2_init_52 : decode cX2_init 52 = .ok (.aload_n 0, 1) := by decide +kernel
theorem dX2_init_53 : decode cX2_init 53 = .ok (.iconst 5, 1) := by decide +kernel
theorem dX2_init_54 : decode cX2_init 54 = .ok (.newarray .int, 2) := by decide +kernel
theorem dX2_init_56 : decode cX2_init 56 = .ok (.putfield 30, 3) := by decide +kernel
theorem dX2_init_59 : decode cX2_init 59 = .ok (.aload_n 0, 1) := by decide +kernel
theorem dX2_init_60 : decode cX2_init 60 = .ok (.iconst 2, 1) := by decide +kernel
theorem dX2_init_61 : decode cX2_init 61 = .ok (.putfield 33, 3) := by decide +kernel
theorem dX2_init_64 : decode cX2_init 64 = .ok (.aload_n 0, 1) := by decide +kernel
theorem dX2_init_65 : decode cX2_init 65 = .ok (.iconst 0, 1) := by decide +kernel
theorem dX2_init_66 : decode cX2_init 66 = .ok (.putfield 37, 3) := by decide +kernel
theorem dX2_init_69 : decode cX2_init 69 = .ok (.aload_n 0, 1) := by decide +kernel
theorem dX2_init_70 : decode cX2_init 70 = .ok (.iconst (-1), 1) := by decide +kernel
theorem dX2_init_71 : decode cX2_init 71 = .ok (.putfield 40, 3) := by decide +kernel
theorem dX2_init_74 : decode cX2_init 74 = .ok (.aload_n 0, 1) := by decide +kernel
theorem dX2_init_75 : decode cX2_init 75 = .ok (.getfield 9, 3) := by decide +kernel
theorem dX2_init_78 : decode cX2_init 78 = .ok (.bipush 11, 2) := by decide +kernel
theorem dX2_init_80 : decode cX2_init 80 = .ok (.invokestatic 43, 3) := by decide +kernel
theorem dX2_init_83 : decode cX2_init 83 = .ok (.aload_n 0, 1) := by decide +kernel
theorem dX2_init_84 : decode cX2_init 84 = .ok (.getfield 15, 3) := by decide +kernel
theorem dX2_init_87 : decode cX2_init 87 = .ok (.iconst 4, 1) := by decide +kernel
theorem dX2_init_88 : decode cX2_init 88 = .ok (.invokestatic 43, 3) := by decide +kernel
theorem dX2_init_91 : decode cX2_init 91 = .ok (.getstatic 49, 3) := by decide +kernel
theorem dX2_init_94 : decode cX2_init 94 = .ok (.iconst 0, 1) := by decide +kernel
theorem dX2_init_95 : decode cX2_init 95 = .ok (.aload_n 0, 1) := by decide +kernel
theorem dX2_init_96 : decode cX2_init 96 = .ok (.getfield 30, 3) := by decide +kernel
theorem dX2_init_99 : decode cX2_init 99 = .ok (.iconst 0, 1) := by decide +kernel
theorem dX2_init_100 : decode cX2_init 100 = .ok (.iconst 5, 1) := by decide +kernel
theorem dX2_init_101 : decode cX2_init 101 = .ok (.invokestatic 52, 3) := by decide +kernel
theorem dX2_init_104 : decode cX2_init 104 = .ok (.return_, 1) := by decide +kernel
theorem dX2_copyFrom_0 : decode cX2_copyFrom 0 = .ok (.aload_n 1, 1) := by decide +kernel
theorem dX2_copyFrom_1 : decode cX2_copyFrom 1 = .ok (.getfield 9, 3) := by decide +kernel
theorem dX2_copyFrom_4 : decode cX2_copyFrom 4 = .ok (.iconst 0, 1) := by decide +kernel
theorem dX2_copyFrom_5 : decode cX2_copyFrom 5 = .ok (.aload_n 0, 1) := by decide +kernel
theorem dX2_copyFrom_6 : decode cX2_copyFrom 6 = .ok (.getfield 9, 3) := by decide +kernel
theorem dX2_copyFrom_9 : decode cX2_copyFrom 9 = .ok (.iconst 0, 1) := by decide +kernel
theorem dX2_copyFrom_10 : decode cX2_copyFrom 10 = .ok (.bipush 6, 2) := by decide +kernel
theorem dX2_copyFrom_12 : decode cX2_copyFrom 12 = .ok (.invokestatic 52, 3) := by decide +kernel
theorem dX2_copyFrom_15 : decode cX2_copyFrom 15 = .ok (.aload_n 1, 1) := by decide +kernel
theorem dX2_copyFrom_16 : decode cX2_copyFrom 16 = .ok (.getfield 15, 3) := by decide +kernel
theorem dX2_copyFrom_19 : decode cX2_copyFrom 19 = .ok (.iconst 0, 1) := by decide +kernel
theorem dX2_copyFrom_20 : decode cX2_copyFrom 20 = .ok (.aload_n 0, 1) := by decide +kernel
theorem dX2_copyFrom_21 : decode cX2_copyFrom 21 = .ok (.getfield 15, 3) := by decide +kernel
theorem dX2_copyFrom_24 : decode cX2_copyFrom 24 = .ok (.iconst 0, 1) := by decide +kernel
theorem dX2_copyFrom_25 : decode cX2_copyFrom 25 = .ok (.bipush 6, 2) := by decide +kernel
theorem dX2_copyFrom_27 : decode cX2_copyFrom 27 = .ok (.invokestatic 52, 3) := by decide +kernel
theorem dX2_copyFrom_30 : decode cX2_copyFrom 30 = .ok (.aload_n 1, 1) := by decide +kernel
theorem dX2_copyFrom_31 : decode cX2_copyFrom 31 = .ok (.getfield 18, 3) := by decide +kernel
theorem dX2_copyFrom_34 : decode cX2_copyFrom 34 = .ok (.iconst 0, 1) := by decide +kernel
theorem dX2_copyFrom_35 : decode cX2_copyFrom 35 = .ok (.aload_n 0, 1) := by decide +kernel
theorem dX2_copyFrom_36 : decode cX2_copyFrom 36 = .ok (.getfield 18, 3) := by decide +kernel
theorem dX2_copyFrom_39 : decode cX2_copyFrom 39 = .ok (.iconst 0, 1) := by decide +kernel
theorem dX2_copyFrom_40 : decode cX2_copyFrom 40 = .ok (.bipush 6, 2) := by decide +kernel
theorem dX2_copyFrom_42 : decode cX2_copyFrom 42 = .ok (.invokestatic 52, 3) := by decide +kernel
theorem dX2_copyFrom_45 : decode cX2_copyFrom 45 = .ok (.aload_n 1, 1) := by decide +kernel
theorem dX2_copyFrom_46 : decode cX2_copyFrom 46 = .ok (.getfield 21, 3) := by decide +kernel
theorem dX2_copyFrom_49 : decode cX2_copyFrom 49 = .ok (.iconst 0, 1) := by decide +kernel
theorem dX2_copyFrom_50 : decode cX2_copyFrom 50 = .ok (.aload_n 0, 1) := by decide +kernel
theorem dX2_copyFrom_51 : decode cX2_copyFrom 51 = .ok (.getfield 21, 3) := by decide +kernel
theorem dX2_copyFrom_54 : decode cX2_copyFrom 54 = .ok (.iconst 0, 1) := by decide +kernel
theorem dX2_copyFrom_55 : decode cX2_copyFrom 55 = .ok (.bipush 6, 2) := by decide +kernel
theorem dX2_copyFrom_57 : decode cX2_copyFrom 57 = .ok (.invokestatic 52, 3) := by decide +kernel
theorem dX2_copyFrom_60 : decode cX2_copyFrom 60 = .ok (.aload_n 1, 1) := by decide +kernel
theorem dX2_copyFrom_61 : decode cX2_copyFrom 61 = .ok (.getfield 24, 3) := by decide +kernel
theorem dX2_copyFrom_64 : decode cX2_copyFrom 64 = .ok (.iconst 0, 1) := by decide +kernel
theorem dX2_copyFrom_65 : decode cX2_copyFrom 65 = .ok (.aload_n 0, 1) := by decide +kernel
theorem dX2_copyFrom_66 : decode cX2_copyFrom 66 = .ok (.getfield 24, 3) := by decide +kernel
theorem dX2_copyFrom_69 : decode cX2_copyFrom 69 = .ok (.iconst 0, 1) := by decide +kernel
theorem dX2_copyFrom_70 : decode cX2_copyFrom 70 = .ok (.bipush 6, 2) := by decide +kernel
theorem dX2_copyFrom_72 : decode cX2_copyFrom 72 = .ok (.invokestatic 52, 3) := by decide +kernel
theorem dX2_copyFrom_75 : decode cX2_copyFrom 75 = .ok (.aload_n 1, 1) := by decide +kernel
theorem dX2_copyFrom_76 : decode cX2_copyFrom 76 = .ok (.getfield 27, 3) := by decide +kernel
theorem dX2_copyFrom_79 : decode cX2_copyFrom 79 = .ok (.iconst 0, 1) := by decide +kernel
theorem dX2_copyFrom_80 : decode cX2_copyFrom 80 = .ok (.aload_n 0, 1) := by decide +kernel
theorem dX2_copyFrom_81 : decode cX2_copyFrom 81 = .ok (.getfield 27, 3) := by decide +kernel
theorem dX2_copyFrom_84 : decode cX2_copyFrom 84 = .ok (.iconst 0, 1) := by decide +kernel
theorem dX2_copyFrom_85 : decode cX2_copyFrom 85 = .ok (.bipush 42, 2) := by decide +kernel
theorem dX2_copyFrom_87 : decode cX2_copyFrom 87 = .ok (.invokestatic 52, 3) := by decide +kernel
theorem dX2_copyFrom_90 : decode cX2_copyFrom 90 = .ok (.aload_n 1, 1) := by decide +kernel
theorem dX2_copyFrom_91 : decode cX2_copyFrom 91 = .ok (.getfield 30, 3) := by decide +kernel
theorem dX2_copyFrom_94 : decode cX2_copyFrom 94 = .ok (.iconst 0, 1) := by decide +kernel
theorem dX2_copyFrom_95 : decode cX2_copyFrom 95 = .ok (.aload_n 0, 1) := by decide +kernel
theorem dX2_copyFrom_96 : decode cX2_copyFrom 96 = .ok (.getfield 30, 3) := by decide +kernel
theorem dX2_copyFrom_99 : decode cX2_copyFrom 99 = .ok (.iconst 0, 1) := by decide +kernel
theorem dX2_copyFrom_100 : decode cX2_copyFrom 100 = .ok (.iconst 5, 1) := by decide +kernel
theorem dX2_copyFrom_101 : decode cX2_copyFrom 101 = .ok (.invokestatic 52, 3) := by decide +kernel
theorem dX2_copyFrom_104 : decode cX2_copyFrom 104 = .ok (.aload_n 0, 1) := by decide +kernel
theorem dX2_copyFrom_105 : decode cX2_copyFrom 105 = .ok (.aload_n 1, 1) := by decide +kernel
theorem dX2_copyFrom_106 : decode cX2_copyFrom 106 = .ok (.getfield 33, 3) := by decide +kernel
theorem dX2_copyFrom_109 : decode cX2_copyFrom 109 = .ok (.putfield 33, 3) := by decide +kernel
theorem dX2_copyFrom_112 : decode cX2_copyFrom 112 = .ok (.aload_n 0, 1) := by decide +kernel
theorem dX2_copyFrom_113 : decode cX2_copyFrom 113 = .ok (.aload_n 1, 1) := by decide +kernel
theorem dX2_copyFrom_114 : decode cX2_copyFrom 114 = .ok (.getfield 37, 3) := by decide +kernel
theorem dX2_copyFrom_117 : decode cX2_copyFrom 117 = .ok (.putfield 37, 3) := by decide +kernel
theorem dX2_copyFrom_120 : decode cX2_copyFrom 120 = .ok (.aload_n 0, 1) := by decide +kernel
theorem dX2_copyFrom_121 : decode cX2_copyFrom 121 = .ok (.aload_n 1, 1) := by decide +kernel
theorem dX2_copyFrom_122 : decode cX2_copyFrom 122 = .ok (.getfield 40, 3) := by decide +kernel
theorem dX2_copyFrom_125 : decode cX2_copyFrom 125 = .ok (.putfield 40, 3) := by decide +kernel
theorem dX2_copyFrom_128 : decode cX2_copyFrom 128 = .ok (.return_, 1) := by decide +kernel
set_option maxRecDepth 20000 in
theorem ggX2_clearCredits_J7_fill_53178 : GoodIn wsX2_clearCredits wsJ7_fill_53178 := goodIn_r _ [5] (by decide +kernel) (by decide +kernel)
set_option maxRecDepth 20000 in
theorem gX2_clearCredits_J7_fill_53178 : GoodIn wsX2_clearCredits (va_wsS RX2 43 yJ7_fill_53178 wsJ7_fill_53178) := goodIn_app (goodIn_of _ (by decide +kernel)) ggX2_clearCredits_J7_fill_53178
theorem dX2_clearCredits_0 : decode cX2_clearCredits 0 = .ok (.aload_n 0, 1) := by decide +kernel
theorem dX2_clearCredits_1 : decode cX2_clearCredits 1 = .ok (.getfield 21, 3) := by decide +kernel
theorem dX2_clearCredits_4 : decode cX2_clearCredits 4 = .ok (.iconst 0, 1) := by decide +kernel
theorem dX2_clearCredits_5 : decode cX2_clearCredits 5 = .ok (.invokestatic 43, 3) := by decide +kernel
theorem dX2_clearCredits_8 : decode cX2_clearCredits 8 = .ok (.return_, 1) := by decide +kernel
set_option maxRecDepth 20000 in
theorem ggX2_putNumber_X4_magnitude : GoodIn wsX2_putNumber wsX4_magnitude := goodIn_r _ [5] (by decide +kernel) (by decide +kernel)
set_option maxRecDepth 20000 in
theorem gX2_putNumber_X4_magnitude_n58 : GoodIn wsX2_putNumber (wsX4_magnitude) := ggX2_putNumber_X4_magnitude
theorem dX2_putNumber_0 : decode cX2_putNumber 0 = .ok (.iload_n 3, 1) := by decide +kernel
theorem dX2_putNumber_1 : decode cX2_putNumber 1 = .ok (.ifCond .ge 10, 3) := by decide +kernel
theorem dX2_putNumber_4 : decode cX2_putNumber 4 = .ok (.iload 4, 2) := by decide +kernel
theorem dX2_putNumber_6 : decode cX2_putNumber 6 = .ok (.iconst 1, 1) := by decide +kernel
theorem dX2_putNumber_7 : decode cX2_putNumber 7 = .ok (.isub, 1) := by decide +kernel
theorem dX2_putNumber_8 : decode cX2_putNumber 8 = .ok (.goto 5, 3) := by decide +kernel
theorem dX2_putNumber_11 : decode cX2_putNumber 11 = .ok (.iload 4, 2) := by decide +kernel
theorem dX2_putNumber_13 : decode cX2_putNumber 13 = .ok (.istore 5, 2) := by decide +kernel
theorem dX2_putNumber_15 : decode cX2_putNumber 15 = .ok (.iload_n 3, 1) := by decide +kernel
theorem dX2_putNumber_16 : decode cX2_putNumber 16 = .ok (.invokestatic 58, 3) := by decide +kernel
theorem dX2_putNumber_19 : decode cX2_putNumber 19 = .ok (.lstore 6, 2) := by decide +kernel
theorem dX2_putNumber_21 : decode cX2_putNumber 21 = .ok (.iload_n 2, 1) := by decide +kernel
theorem dX2_putNumber_22 : decode cX2_putNumber 22 = .ok (.istore 8, 2) := by decide +kernel
theorem dX2_putNumber_24 : decode cX2_putNumber 24 = .ok (.iload 8, 2) := by decide +kernel
theorem dX2_putNumber_26 : decode cX2_putNumber 26 = .ok (.iload_n 1, 1) := by decide +kernel
theorem dX2_putNumber_27 : decode cX2_putNumber 27 = .ok (.if_icmp .lt 68, 3) := by decide +kernel
theorem dX2_putNumber_30 : decode cX2_putNumber 30 = .ok (.iload_n 2, 1) := by decide +kernel
theorem dX2_putNumber_31 : decode cX2_putNumber 31 = .ok (.iload 8, 2) := by decide +kernel
theorem dX2_putNumber_33 : decode cX2_putNumber 33 = .ok (.isub, 1) := by decide +kernel
theorem dX2_putNumber_34 : decode cX2_putNumber 34 = .ok (.istore 9, 2) := by decide +kernel
theorem dX2_putNumber_36 : decode cX2_putNumber 36 = .ok (.iload 9, 2) := by decide +kernel
theorem dX2_putNumber_38 : decode cX2_putNumber 38 = .ok (.iload 5, 2) := by decide +kernel
theorem dX2_putNumber_40 : decode cX2_putNumber 40 = .ok (.if_icmp .ge 28, 3) := by decide +kernel
theorem dX2_putNumber_43 : decode cX2_putNumber 43 = .ok (.aload_n 0, 1) := by decide +kernel
theorem dX2_putNumber_44 : decode cX2_putNumber 44 = .ok (.getfield 9, 3) := by decide +kernel
theorem dX2_putNumber_47 : decode cX2_putNumber 47 = .ok (.iload 8, 2) := by decide +kernel
theorem dX2_putNumber_49 : decode cX2_putNumber 49 = .ok (.lload 6, 2) := by decide +kernel
theorem dX2_putNumber_51 : decode cX2_putNumber 51 = .ok (.ldc2_w 62, 3) := by decide +kernel
theorem dX2_putNumber_54 : decode cX2_putNumber 54 = .ok (.lrem, 1) := by decide +kernel
theorem dX2_putNumber_55 : decode cX2_putNumber 55 = .ok (.l2i, 1) := by decide +kernel
theorem dX2_putNumber_56 : decode cX2_putNumber 56 = .ok (.iastore, 1) := by decide +kernel
theorem dX2_putNumber_57 : decode cX2_putNumber 57 = .ok (.lload 6, 2) := by decide +kernel
theorem dX2_putNumber_59 : decode cX2_putNumber 59 = .ok (.ldc2_w 62, 3) := by decide +kernel
theorem dX2_putNumber_62 : decode cX2_putNumber 62 = .ok (.ldiv, 1) := by decide +kernel
theorem dX2_putNumber_63 : decode cX2_putNumber 63 = .ok (.lstore 6, 2) := by decide +kernel
theorem dX2_putNumber_65 : decode cX2_putNumber 65 = .ok (.goto 24, 3) := by decide +kernel
theorem dX2_putNumber_68 : decode cX2_putNumber 68 = .ok (.aload_n 0, 1) := by decide +kernel
theorem dX2_putNumber_69 : decode cX2_putNumber 69 = .ok (.getfield 9, 3) := by decide +kernel
theorem dX2_putNumber_72 : decode cX2_putNumber 72 = .ok (.iload 8, 2) := by decide +kernel
theorem dX2_putNumber_74 : decode cX2_putNumber 74 = .ok (.iload 9, 2) := by decide +kernel
theorem dX2_putNumber_76 : decode cX2_putNumber 76 = .ok (.iload 4, 2) := by decide +kernel
theorem dX2_putNumber_78 : decode cX2_putNumber 78 = .ok (.if_icmp .ge 8, 3) := by decide +kernel
theorem dX2_putNumber_81 : decode cX2_putNumber 81 = .ok (.bipush 10, 2) := by decide +kernel
theorem dX2_putNumber_83 : decode cX2_putNumber 83 = .ok (.goto 5, 3) := by decide +kernel
theorem dX2_putNumber_86 : decode cX2_putNumber 86 = .ok (.bipush 11, 2) := by decide +kernel
theorem dX2_putNumber_88 : decode cX2_putNumber 88 = .ok (.iastore, 1) := by decide +kernel
theorem dX2_putNumber_89 : decode cX2_putNumber 89 = .ok (.iinc 8 (-1), 3) := by decide +kernel
theorem dX2_putNumber_92 : decode cX2_putNumber 92 = .ok (.goto (-68), 3) := by decide +kernel
theorem dX2_putNumber_95 : decode cX2_putNumber 95 = .ok (.return_, 1) := by decide +kernel
set_option maxRecDepth 20000 in
theorem ggX2_passSlot_X4_giveSlot : GoodIn wsX2_passSlot wsX4_giveSlot := goodIn_r _ [9] (by decide +kernel) (by decide +kernel)
set_option maxRecDepth 20000 in
theorem gX2_passSlot_X4_giveSlot_n64 : GoodIn wsX2_passSlot (wsX4_giveSlot) := ggX2_passSlot_X4_giveSlot
set_option maxRecDepth 20000 in
theorem ggX2_passSlot_X4_litIn : GoodIn wsX2_passSlot wsX4_litIn := goodIn_r _ [11] (by decide +kernel) (by decide +kernel)
set_option maxRecDepth 20000 in
theorem gX2_passSlot_X4_litIn_n68 : GoodIn wsX2_passSlot (wsX4_litIn) := ggX2_passSlot_X4_litIn
set_option maxRecDepth 20000 in
theorem ggX2_passSlot_X2_wearOut : GoodIn wsX2_passSlot wsX2_wearOut := goodIn_r _ [16, 4, 17, 18, 19, 20, 21, 15, 22, 23, 24, 8, 25, 26, 27, 28, 29, 30, 31, 32, 33, 34, 35] (by decide +kernel) (by decide +kernel)
set_option maxRecDepth 20000 in
theorem gX2_passSlot_X2_wearOut : GoodIn wsX2_passSlot (wsV RX2 72 RX2 yX2_wearOut wsX2_wearOut) := goodIn_app (goodIn_of _ (by decide +kernel)) ggX2_passSlot_X2_wearOut
theorem dX2_passSlot_0 : decode cX2_passSlot 0 = .ok (.aload_n 0, 1) := by decide +kernel
theorem dX2_passSlot_1 : decode cX2_passSlot 1 = .ok (.getfield 15, 3) := by decide +kernel
theorem dX2_passSlot_4 : decode cX2_passSlot 4 = .ok (.aload_n 0, 1) := by decide +kernel
theorem dX2_passSlot_5 : decode cX2_passSlot 5 = .ok (.getfield 21, 3) := by decide +kernel
theorem dX2_passSlot_8 : decode cX2_passSlot 8 = .ok (.invokestatic 64, 3) := by decide +kernel
theorem dX2_passSlot_11 : decode cX2_passSlot 11 = .ok (.istore_n 1, 1) := by decide +kernel
theorem dX2_passSlot_12 : decode cX2_passSlot 12 = .ok (.iload_n 1, 1) := by decide +kernel
theorem dX2_passSlot_13 : decode cX2_passSlot 13 = .ok (.aload_n 0, 1) := by decide +kernel
theorem dX2_passSlot_14 : decode cX2_passSlot 14 = .ok (.getfield 40, 3) := by decide +kernel
theorem dX2_passSlot_17 : decode cX2_passSlot 17 = .ok (.aload_n 0, 1) := by decide +kernel
theorem dX2_passSlot_18 : decode cX2_passSlot 18 = .ok (.getfield 30, 3) := by decide +kernel
theorem dX2_passSlot_21 : decode cX2_passSlot 21 = .ok (.iconst 1, 1) := by decide +kernel
theorem dX2_passSlot_22 : decode cX2_passSlot 22 = .ok (.iaload, 1) := by decide +kernel
theorem dX2_passSlot_23 : decode cX2_passSlot 23 = .ok (.iconst 1, 1) := by decide +kernel
theorem dX2_passSlot_24 : decode cX2_passSlot 24 = .ok (.if_icmp .ne 7, 3) := by decide +kernel
theorem dX2_passSlot_27 : decode cX2_passSlot 27 = .ok (.iconst 1, 1) := by decide +kernel
theorem dX2_passSlot_28 : decode cX2_passSlot 28 = .ok (.goto 4, 3) := by decide +kernel
theorem dX2_passSlot_31 : decode cX2_passSlot 31 = .ok (.iconst 0, 1) := by decide +kernel
theorem dX2_passSlot_32 : decode cX2_passSlot 32 = .ok (.invokestatic 68, 3) := by decide +kernel
theorem dX2_passSlot_35 : decode cX2_passSlot 35 = .ok (.istore_n 2, 1) := by decide +kernel
theorem dX2_passSlot_36 : decode cX2_passSlot 36 = .ok (.aload_n 0, 1) := by decide +kernel
theorem dX2_passSlot_37 : decode cX2_passSlot 37 = .ok (.iload_n 1, 1) := by decide +kernel
theorem dX2_passSlot_38 : decode cX2_passSlot 38 = .ok (.putfield 40, 3) := by decide +kernel
theorem dX2_passSlot_41 : decode cX2_passSlot 41 = .ok (.aload_n 0, 1) := by decide +kernel
theorem dX2_passSlot_42 : decode cX2_passSlot 42 = .ok (.dup, 1) := by decide +kernel
theorem dX2_passSlot_43 : decode cX2_passSlot 43 = .ok (.getfield 37, 3) := by decide +kernel
theorem dX2_passSlot_46 : decode cX2_passSlot 46 = .ok (.iconst 1, 1) := by decide +kernel
theorem dX2_passSlot_47 : decode cX2_passSlot 47 = .ok (.iadd, 1) := by decide +kernel
theorem dX2_passSlot_48 : decode cX2_passSlot 48 = .ok (.putfield 37, 3) := by decide +kernel
theorem dX2_passSlot_51 : decode cX2_passSlot 51 = .ok (.iload_n 2, 1) := by decide +kernel
theorem dX2_passSlot_52 : decode cX2_passSlot 52 = .ok (.iconst (-1), 1) := by decide +kernel
theorem dX2_passSlot_53 : decode cX2_passSlot 53 = .ok (.if_icmp .ne 5, 3) := by decide +kernel
theorem dX2_passSlot_56 : decode cX2_passSlot 56 = .ok (.iconst 0, 1) := by decide +kernel
theorem dX2_passSlot_57 : decode cX2_passSlot 57 = .ok (.ireturn, 1) := by decide +kernel
theorem dX2_passSlot_58 : decode cX2_passSlot 58 = .ok (.aload_n 0, 1) := by decide +kernel
theorem dX2_passSlot_59 : decode cX2_passSlot 59 = .ok (.getfield 24, 3) := by decide +kernel
theorem dX2_passSlot_62 : decode cX2_passSlot 62 = .ok (.iload_n 2, 1) := by decide +kernel
theorem dX2_passSlot_63 : decode cX2_passSlot 63 = .ok (.dup2, 1) := by decide +kernel
theorem dX2_passSlot_64 : decode cX2_passSlot 64 = .ok (.iaload, 1) := by decide +kernel
theorem dX2_passSlot_65 : decode cX2_passSlot 65 = .ok (.iconst 1, 1) := by decide +kernel
theorem dX2_passSlot_66 : decode cX2_passSlot 66 = .ok (.iadd, 1) := by decide +kernel
theorem dX2_passSlot_67 : decode cX2_passSlot 67 = .ok (.iastore, 1) := by decide +kernel
theorem dX2_passSlot_68 : decode cX2_passSlot 68 = .ok (.aload_n 0, 1) := by decide +kernel
theorem dX2_passSlot_69 : decode cX2_passSlot 69 = .ok (.iload_n 2, 1) := by decide +kernel
theorem dX2_passSlot_70 : decode cX2_passSlot 70 = .ok (.invokevirtual 72, 3) := by decide +kernel
theorem dX2_passSlot_73 : decode cX2_passSlot 73 = .ok (.ireturn, 1) := by decide +kernel
set_option maxRecDepth 20000 in
theorem ggX2_wearOut_X2_shownSegments : GoodIn wsX2_wearOut wsX2_shownSegments := goodIn_r _ [8, 9, 3, 13, 14, 15, 16, 17, 18, 19, 20, 21, 22] (by decide +kernel) (by decide +kernel)
set_option maxRecDepth 20000 in
theorem gX2_wearOut_X2_shownSegments : GoodIn wsX2_wearOut (wsV RX2 76 RX2 yX2_shownSegments wsX2_shownSegments) := goodIn_app (goodIn_of _ (by decide +kernel)) ggX2_wearOut_X2_shownSegments
set_option maxRecDepth 20000 in
theorem ggX2_wearOut_X4_wearPlace : GoodIn wsX2_wearOut wsX4_wearPlace := goodIn_r _ [12] (by decide +kernel) (by decide +kernel)
set_option maxRecDepth 20000 in
theorem gX2_wearOut_X4_wearPlace_n79 : GoodIn wsX2_wearOut (wsX4_wearPlace) := ggX2_wearOut_X4_wearPlace
theorem dX2_wearOut_0 : decode cX2_wearOut 0 = .ok (.aload_n 0, 1) := by decide +kernel
theorem dX2_wearOut_1 : decode cX2_wearOut 1 = .ok (.getfield 30, 3) := by decide +kernel
theorem dX2_wearOut_4 : decode cX2_wearOut 4 = .ok (.iconst 4, 1) := by decide +kernel
theorem dX2_wearOut_5 : decode cX2_wearOut 5 = .ok (.iaload, 1) := by decide +kernel
theorem dX2_wearOut_6 : decode cX2_wearOut 6 = .ok (.bipush 100, 2) := by decide +kernel
theorem dX2_wearOut_8 : decode cX2_wearOut 8 = .ok (.imul, 1) := by decide +kernel
theorem dX2_wearOut_9 : decode cX2_wearOut 9 = .ok (.istore_n 2, 1) := by decide +kernel
theorem dX2_wearOut_10 : decode cX2_wearOut 10 = .ok (.aload_n 0, 1) := by decide +kernel
theorem dX2_wearOut_11 : decode cX2_wearOut 11 = .ok (.iload_n 1, 1) := by decide +kernel
theorem dX2_wearOut_12 : decode cX2_wearOut 12 = .ok (.invokevirtual 76, 3) := by decide +kernel
theorem dX2_wearOut_15 : decode cX2_wearOut 15 = .ok (.istore_n 3, 1) := by decide +kernel
theorem dX2_wearOut_16 : decode cX2_wearOut 16 = .ok (.iconst 0, 1) := by decide +kernel
theorem dX2_wearOut_17 : decode cX2_wearOut 17 = .ok (.istore 4, 2) := by decide +kernel
theorem dX2_wearOut_19 : decode cX2_wearOut 19 = .ok (.iconst 0, 1) := by decide +kernel
theorem dX2_wearOut_20 : decode cX2_wearOut 20 = .ok (.istore 5, 2) := by decide +kernel
theorem dX2_wearOut_22 : decode cX2_wearOut 22 = .ok (.iload 5, 2) := by decide +kernel
theorem dX2_wearOut_24 : decode cX2_wearOut 24 = .ok (.bipush 7, 2) := by decide +kernel
theorem dX2_wearOut_26 : decode cX2_wearOut 26 = .ok (.if_icmp .ge 69, 3) := by decide +kernel
theorem dX2_wearOut_29 : decode cX2_wearOut 29 = .ok (.iload_n 3, 1) := by decide +kernel
theorem dX2_wearOut_30 : decode cX2_wearOut 30 = .ok (.iload 5, 2) := by decide +kernel
theorem dX2_wearOut_32 : decode cX2_wearOut 32 = .ok (.ishr, 1) := by decide +kernel
theorem dX2_wearOut_33 : decode cX2_wearOut 33 = .ok (.iconst 1, 1) := by decide +kernel
theorem dX2_wearOut_34 : decode cX2_wearOut 34 = .ok (.iand, 1) := by decide +kernel
theorem dX2_wearOut_35 : decode cX2_wearOut 35 = .ok (.iconst 1, 1) := by decide +kernel
theorem dX2_wearOut_36 : decode cX2_wearOut 36 = .ok (.if_icmp .ne 53, 3) := by decide +kernel
theorem dX2_wearOut_39 : decode cX2_wearOut 39 = .ok (.iload_n 1, 1) := by decide +kernel
theorem dX2_wearOut_40 : decode cX2_wearOut 40 = .ok (.iload 5, 2) := by decide +kernel
theorem dX2_wearOut_42 : decode cX2_wearOut 42 = .ok (.invokestatic 79, 3) := by decide +kernel
theorem dX2_wearOut_45 : decode cX2_wearOut 45 = .ok (.istore 6, 2) := by decide +kernel
theorem dX2_wearOut_47 : decode cX2_wearOut 47 = .ok (.aload_n 0, 1) := by decide +kernel
theorem dX2_wearOut_48 : decode cX2_wearOut 48 = .ok (.getfield 27, 3) := by decide +kernel
theorem dX2_wearOut_51 : decode cX2_wearOut 51 = .ok (.iload 6, 2) := by decide +kernel
theorem dX2_wearOut_53 : decode cX2_wearOut 53 = .ok (.dup2, 1) := by decide +kernel
theorem dX2_wearOut_54 : decode cX2_wearOut 54 = .ok (.iaload, 1) := by decide +kernel
theorem dX2_wearOut_55 : decode cX2_wearOut 55 = .ok (.iconst 1, 1) := by decide +kernel
theorem dX2_wearOut_56 : decode cX2_wearOut 56 = .ok (.iadd, 1) := by decide +kernel
theorem dX2_wearOut_57 : decode cX2_wearOut 57 = .ok (.iastore, 1) := by decide +kernel
theorem dX2_wearOut_58 : decode cX2_wearOut 58 = .ok (.iload_n 2, 1) := by decide +kernel
theorem dX2_wearOut_59 : decode cX2_wearOut 59 = .ok (.ifCond .le 30, 3) := by decide +kernel
theorem dX2_wearOut_62 : decode cX2_wearOut 62 = .ok (.aload_n 0, 1) := by decide +kernel
theorem dX2_wearOut_63 : decode cX2_wearOut 63 = .ok (.getfield 27, 3) := by decide +kernel
theorem dX2_wearOut_66 : decode cX2_wearOut 66 = .ok (.iload 6, 2) := by decide +kernel
theorem dX2_wearOut_68 : decode cX2_wearOut 68 = .ok (.iaload, 1) := by decide +kernel
theorem dX2_wearOut_69 : decode cX2_wearOut 69 = .ok (.iload_n 2, 1) := by decide +kernel
theorem dX2_wearOut_70 : decode cX2_wearOut 70 = .ok (.if_icmp .lt 19, 3) := by decide +kernel
theorem dX2_wearOut_73 : decode cX2_wearOut 73 = .ok (.aload_n 0, 1) := by decide +kernel
theorem dX2_wearOut_74 : decode cX2_wearOut 74 = .ok (.getfield 18, 3) := by decide +kernel
theorem dX2_wearOut_77 : decode cX2_wearOut 77 = .ok (.iload_n 1, 1) := by decide +kernel
theorem dX2_wearOut_78 : decode cX2_wearOut 78 = .ok (.dup2, 1) := by decide +kernel
theorem dX2_wearOut_79 : decode cX2_wearOut 79 = .ok (.iaload, 1) := by decide +kernel
theorem dX2_wearOut_80 : decode cX2_wearOut 80 = .ok (.iconst 1, 1) := by decide +kernel
theorem dX2_wearOut_81 : decode cX2_wearOut 81 = .ok (.iload 5, 2) := by decide +kernel
theorem dX2_wearOut_83 : decode cX2_wearOut 83 = .ok (.ishl, 1) := by decide +kernel
theorem dX2_wearOut_84 : decode cX2_wearOut 84 = .ok (.ior, 1) := by decide +kernel
theorem dX2_wearOut_85 : decode cX2_wearOut 85 = .ok (.iastore, 1) := by decide +kernel
theorem dX2_wearOut_86 : decode cX2_wearOut 86 = .ok (.iinc 4 1, 3) := by decide +kernel
theorem dX2_wearOut_89 : decode cX2_wearOut 89 = .ok (.iinc 5 1, 3) := by decide +kernel
theorem dX2_wearOut_92 : decode cX2_wearOut 92 = .ok (.goto (-70), 3) := by decide +kernel
theorem dX2_wearOut_95 : decode cX2_wearOut 95 = .ok (.iload 4, 2) := by decide +kernel
theorem dX2_wearOut_97 : decode cX2_wearOut 97 = .ok (.ireturn, 1) := by decide +kernel
theorem dX2_shownSegments_0 : decode cX2_shownSegments 0 = .ok (.getstatic 83, 3) := by decide +kernel
theorem dX2_shownSegments_3 : decode cX2_shownSegments 3 = .ok (.aload_n 0, 1) := by decide +kernel
theorem dX2_shownSegments_4 : decode cX2_shownSegments 4 = .ok (.getfield 9, 3) := by decide +kernel
theorem dX2_shownSegments_7 : decode cX2_shownSegments 7 = .ok (.iload_n 1, 1) := by decide +kernel
theorem dX2_shownSegments_8 : decode cX2_shownSegments 8 = .ok (.iaload, 1) := by decide +kernel
theorem dX2_shownSegments_9 : decode cX2_shownSegments 9 = .ok (.iaload, 1) := by decide +kernel
theorem dX2_shownSegments_10 : decode cX2_shownSegments 10 = .ok (.aload_n 0, 1) := by decide +kernel
theorem dX2_shownSegments_11 : decode cX2_shownSegments 11 = .ok (.getfield 18, 3) := by decide +kernel
theorem dX2_shownSegments_14 : decode cX2_shownSegments 14 = .ok (.iload_n 1, 1) := by decide +kernel
theorem dX2_shownSegments_15 : decode cX2_shownSegments 15 = .ok (.iaload, 1) := by decide +kernel
theorem dX2_shownSegments_16 : decode cX2_shownSegments 16 = .ok (.iconst (-1), 1) := by decide +kernel
theorem dX2_shownSegments_17 : decode cX2_shownSegments 17 = .ok (.ixor, 1) := by decide +kernel
theorem dX2_shownSegments_18 : decode cX2_shownSegments 18 = .ok (.iand, 1) := by decide +kernel
theorem dX2_shownSegments_19 : decode cX2_shownSegments 19 = .ok (.ireturn, 1) := by decide +kernel
set_option maxRecDepth 20000 in
theorem ggX2_readableSigns_X2_shownSegments : GoodIn wsX2_readableSigns wsX2_shownSegments := goodIn_r _ [6, 7, 1, 8, 9, 10, 11, 12, 13, 14, 15, 16, 17] (by decide +kernel) (by decide +kernel)
set_option maxRecDepth 20000 in
theorem gX2_readableSigns_X2_shownSegments : GoodIn wsX2_readableSigns (wsV RX2 76 RX2 yX2_shownSegments wsX2_shownSegments) := goodIn_app (goodIn_of _ (by decide +kernel)) ggX2_readableSigns_X2_shownSegments
theorem dX2_readableSigns_0 : decode cX2_readableSigns 0 = .ok (.aload_n 0, 1) := by decide +kernel
theorem dX2_readableSigns_1 : decode cX2_readableSigns 1 = .ok (.iload_n 1, 1) := by decide +kernel
theorem dX2_readableSigns_2 : decode cX2_readableSigns 2 = .ok (.invokevirtual 76, 3) := by decide +kernel
theorem dX2_readableSigns_5 : decode cX2_readableSigns 5 = .ok (.istore_n 2, 1) := by decide +kernel
theorem dX2_readableSigns_6 : decode cX2_readableSigns 6 = .ok (.iconst 0, 1) := by decide +kernel
theorem dX2_readableSigns_7 : decode cX2_readableSigns 7 = .ok (.istore_n 3, 1) := by decide +kernel
theorem dX2_readableSigns_8 : decode cX2_readableSigns 8 = .ok (.iconst 0, 1) := by decide +kernel
theorem dX2_readableSigns_9 : decode cX2_readableSigns 9 = .ok (.istore 4, 2) := by decide +kernel
theorem dX2_readableSigns_11 : decode cX2_readableSigns 11 = .ok (.iload 4, 2) := by decide +kernel
theorem dX2_readableSigns_13 : decode cX2_readableSigns 13 = .ok (.bipush 12, 2) := by decide +kernel
theorem dX2_readableSigns_15 : decode cX2_readableSigns 15 = .ok (.if_icmp .ge 35, 3) := by decide +kernel
theorem dX2_readableSigns_18 : decode cX2_readableSigns 18 = .ok (.getstatic 83, 3) := by decide +kernel
theorem dX2_readableSigns_21 : decode cX2_readableSigns 21 = .ok (.iload 4, 2) := by decide +kernel
theorem dX2_readableSigns_23 : decode cX2_readableSigns 23 = .ok (.iaload, 1) := by decide +kernel
theorem dX2_readableSigns_24 : decode cX2_readableSigns 24 = .ok (.aload_n 0, 1) := by decide +kernel
theorem dX2_readableSigns_25 : decode cX2_readableSigns 25 = .ok (.getfield 18, 3) := by decide +kernel
theorem dX2_readableSigns_28 : decode cX2_readableSigns 28 = .ok (.iload_n 1, 1) := by decide +kernel
theorem dX2_readableSigns_29 : decode cX2_readableSigns 29 = .ok (.iaload, 1) := by decide +kernel
theorem dX2_readableSigns_30 : decode cX2_readableSigns 30 = .ok (.iconst (-1), 1) := by decide +kernel
theorem dX2_readableSigns_31 : decode cX2_readableSigns 31 = .ok (.ixor, 1) := by decide +kernel
theorem dX2_readableSigns_32 : decode cX2_readableSigns 32 = .ok (.iand, 1) := by decide +kernel
theorem dX2_readableSigns_33 : decode cX2_readableSigns 33 = .ok (.iload_n 2, 1) := by decide +kernel
theorem dX2_readableSigns_34 : decode cX2_readableSigns 34 = .ok (.if_icmp .ne 10, 3) := by decide +kernel
theorem dX2_readableSigns_37 : decode cX2_readableSigns 37 = .ok (.iload_n 3, 1) := by decide +kernel
theorem dX2_readableSigns_38 : decode cX2_readableSigns 38 = .ok (.iconst 1, 1) := by decide +kernel
theorem dX2_readableSigns_39 : decode cX2_readableSigns 39 = .ok (.iload 4, 2) := by decide +kernel
theorem dX2_readableSigns_41 : decode cX2_readableSigns 41 = .ok (.ishl, 1) := by decide +kernel
theorem dX2_readableSigns_42 : decode cX2_readableSigns 42 = .ok (.ior, 1) := by decide +kernel
theorem dX2_readableSigns_43 : decode cX2_readableSigns 43 = .ok (.istore_n 3, 1) := by decide +kernel
theorem dX2_readableSigns_44 : decode cX2_readableSigns 44 = .ok (.iinc 4 1, 3) := by decide +kernel
theorem dX2_readableSigns_47 : decode cX2_readableSigns 47 = .ok (.goto (-36), 3) := by decide +kernel
theorem dX2_readableSigns_50 : decode cX2_readableSigns 50 = .ok (.iload_n 3, 1) := by decide +kernel
theorem dX2_readableSigns_51 : decode cX2_readableSigns 51 = .ok (.ireturn, 1) := by decide +kernel
theorem dX2_levelSum_0 : decode cX2_levelSum 0 = .ok (.iconst 0, 1) := by decide +kernel
theorem dX2_levelSum_1 : decode cX2_levelSum 1 = .ok (.istore_n 1, 1) := by decide +kernel
theorem dX2_levelSum_2 : decode cX2_levelSum 2 = .ok (.iconst 0, 1) := by decide +kernel
theorem dX2_levelSum_3 : decode cX2_levelSum 3 = .ok (.istore_n 2, 1) := by decide +kernel
theorem dX2_levelSum_4 : decode cX2_levelSum 4 = .ok (.iload_n 2, 1) := by decide +kernel
theorem dX2_levelSum_5 : decode cX2_levelSum 5 = .ok (.bipush 6, 2) := by decide +kernel
theorem dX2_levelSum_7 : decode cX2_levelSum 7 = .ok (.if_icmp .ge 18, 3) := by decide +kernel
theorem dX2_levelSum_10 : decode cX2_levelSum 10 = .ok (.iload_n 1, 1) := by decide +kernel
theorem dX2_levelSum_11 : decode cX2_levelSum 11 = .ok (.aload_n 0, 1) := by decide +kernel
theorem dX2_levelSum_12 : decode cX2_levelSum 12 = .ok (.getfield 15, 3) := by decide +kernel
theorem dX2_levelSum_15 : decode cX2_levelSum 15 = .ok (.iload_n 2, 1) := by decide +kernel
theorem dX2_levelSum_16 : decode cX2_levelSum 16 = .ok (.iaload, 1) := by decide +kernel
theorem dX2_levelSum_17 : decode cX2_levelSum 17 = .ok (.iadd, 1) := by decide +kernel
theorem dX2_levelSum_18 : decode cX2_levelSum 18 = .ok (.istore_n 1, 1) := by decide +kernel
theorem dX2_levelSum_19 : decode cX2_levelSum 19 = .ok (.iinc 2 1, 3) := by decide +kernel
theorem dX2_levelSum_22 : decode cX2_levelSum 22 = .ok (.goto (-18), 3) := by decide +kernel
theorem dX2_levelSum_25 : decode cX2_levelSum 25 = .ok (.iload_n 1, 1) := by decide +kernel
theorem dX2_levelSum_26 : decode cX2_levelSum 26 = .ok (.ireturn, 1) := by decide +kernel
set_option maxRecDepth 20000 in
theorem ggX2_burntSegments_J6_bitCount_0f7a4 : GoodIn wsX2_burntSegments wsJ6_bitCount_0f7a4 := goodIn_r _ [5, 6, 7, 8] (by decide +kernel) (by decide +kernel)
set_option maxRecDepth 20000 in
theorem gX2_burntSegments_J6_bitCount_0f7a4 : GoodIn wsX2_burntSegments (va_wsS RX2 86 yJ6_bitCount_0f7a4 wsJ6_bitCount_0f7a4) := goodIn_app (goodIn_of _ (by decide +kernel)) ggX2_burntSegments_J6_bitCount_0f7a4
theorem dX2_burntSegments_0 : decode cX2_burntSegments 0 = .ok (.iconst 0, 1) := by decide +kernel
theorem dX2_burntSegments_1 : decode cX2_burntSegments 1 = .ok (.istore_n 1, 1) := by decide +kernel
theorem dX2_burntSegments_2 : decode cX2_burntSegments 2 = .ok (.iconst 0, 1) := by decide +kernel
theorem dX2_burntSegments_3 : decode cX2_burntSegments 3 = .ok (.istore_n 2, 1) := by decide +kernel
theorem dX2_burntSegments_4 : decode cX2_burntSegments 4 = .ok (.iload_n 2, 1) := by decide +kernel
theorem dX2_burntSegments_5 : decode cX2_burntSegments 5 = .ok (.bipush 6, 2) := by decide +kernel
theorem dX2_burntSegments_7 : decode cX2_burntSegments 7 = .ok (.if_icmp .ge 21, 3) := by decide +kernel
theorem dX2_burntSegments_10 : decode cX2_burntSegments 10 = .ok (.iload_n 1, 1) := by decide +kernel
theorem dX2_burntSegments_11 : decode cX2_burntSegments 11 = .ok (.aload_n 0, 1) := by decide +kernel
theorem dX2_burntSegments_12 : decode cX2_burntSegments 12 = .ok (.getfield 18, 3) := by decide +kernel
theorem dX2_burntSegments_15 : decode cX2_burntSegments 15 = .ok (.iload_n 2, 1) := by decide +kernel
theorem dX2_burntSegments_16 : decode cX2_burntSegments 16 = .ok (.iaload, 1) := by decide +kernel
theorem dX2_burntSegments_17 : decode cX2_burntSegments 17 = .ok (.invokestatic 86, 3) := by decide +kernel
theorem dX2_burntSegments_20 : decode cX2_burntSegments 20 = .ok (.iadd, 1) := by decide +kernel
theorem dX2_burntSegments_21 : decode cX2_burntSegments 21 = .ok (.istore_n 1, 1) := by decide +kernel
theorem dX2_burntSegments_22 : decode cX2_burntSegments 22 = .ok (.iinc 2 1, 3) := by decide +kernel
theorem dX2_burntSegments_25 : decode cX2_burntSegments 25 = .ok (.goto (-21), 3) := by decide +kernel
theorem dX2_burntSegments_28 : decode cX2_burntSegments 28 = .ok (.iload_n 1, 1) := by decide +kernel
theorem dX2_burntSegments_29 : decode cX2_burntSegments 29 = .ok (.ireturn, 1) := by decide +kernel
