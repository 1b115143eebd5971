theorem dX5_init_0 : decode cX5_init 0 = .ok (.aload_n 0, 1) := by decide +kernel
theorem dX5_init_1 : decode cX5_init 1 = .ok (.invokespecial 1, 3) := by decide +kernel
theorem dX5_init_4 : decode cX5_init 4 = .ok (.aload_n 0, 1) := by decide +kernel
theorem dX5_init_5 : decode cX5_init 5 = .ok (.bipush 12, 2) := by decide +kernel
theorem dX5_init_7 : decode cX5_init 7 = .ok (.newarray .int, 2) := by decide +kernel
theorem dX5_init_9 : decode cX5_init 9 = .ok (.dup, 1) := by decide +kernel
theorem dX5_init_10 : decode cX5_init 10 = .ok (.iconst 0, 1) := by decide +kernel
theorem dX5_init_11 : decode cX5_init 11 = .ok (.bipush 63, 2) := by decide +kernel
theorem dX5_init_13 : decode cX5_init 13 = .ok (.iastore, 1) := by decide +kernel
theorem dX5_init_14 : decode cX5_init 14 = .ok (.dup, 1) := by decide +kernel
theorem dX5_init_15 : decode cX5_init 15 = .ok (.iconst 1, 1) := by decide +kernel
theorem dX5_init_16 : decode cX5_init 16 = .ok (.bipush 6, 2) := by decide +kernel
theorem dX5_init_18 : decode cX5_init 18 = .ok (.iastore, 1) := by decide +kernel
theorem dX5_init_19 : decode cX5_init 19 = .ok (.dup, 1) := by decide +kernel
theorem dX5_init_20 : decode cX5_init 20 = .ok (.iconst 2, 1) := by decide +kernel
theorem dX5_init_21 : decode cX5_init 21 = .ok (.bipush 91, 2) := by decide +kernel
theorem dX5_init_23 : decode cX5_init 23 = .ok (.iastore, 1) := by decide +kernel
theorem dX5_init_24 : decode cX5_init 24 = .ok (.dup, 1) := by decide +kernel
theorem dX5_init_25 : decode cX5_init 25 = .ok (.iconst 3, 1) := by decide +kernel
theorem dX5_init_26 : decode cX5_init 26 = .ok (.bipush 79, 2) := by decide +kernel
theorem dX5_init_28 : decode cX5_init 28 = .ok (.iastore, 1) := by decide +kernel
theorem dX5_init_29 : decode cX5_init 29 = .ok (.dup, 1) := by decide +kernel
theorem dX5_init_30 : decode cX5_init 30 = .ok (.iconst 4, 1) := by decide +kernel
theorem dX5_init_31 : decode cX5_init 31 = .ok (.bipush 102, 2) := by decide +kernel
theorem dX5_init_33 : decode cX5_init 33 = .ok (.iastore, 1) := by decide +kernel
theorem dX5_init_34 : decode cX5_init 34 = .ok (.dup, 1) := by decide +kernel
theorem dX5_init_35 : decode cX5_init 35 = .ok (.iconst 5, 1) := by decide +kernel
theorem dX5_init_36 : decode cX5_init 36 = .ok (.bipush 109, 2) := by decide +kernel
theorem dX5_init_38 : decode cX5_init 38 = .ok (.iastore, 1) := by decide +kernel
theorem dX5_init_39 : decode cX5_init 39 = .ok (.dup, 1) := by decide +kernel
theorem dX5_init_40 : decode cX5_init 40 = .ok (.bipush 6, 2) := by decide +kernel
theorem dX5_init_42 : decode cX5_init 42 = .ok (.bipush 125, 2) := by decide +kernel
theorem dX5_init_44 : decode cX5_init 44 = .ok (.iastore, 1) := by decide +kernel
theorem dX5_init_45 : decode cX5_init 45 = .ok (.dup, 1) := by decide +kernel
theorem dX5_init_46 : decode cX5_init 46 = .ok (.bipush 7, 2) := by decide +kernel
theorem dX5_init_48 : decode cX5_init 48 = .ok (.bipush 7, 2) := by decide +kernel
theorem dX5_init_50 : decode cX5_init 50 = .ok (.iastore, 1) := by decide +kernel
theorem dX5_init_51 : decode cX5_init 51 = .ok (.dup, 1) := by decide +kernel
theorem dX5_init_52 : decode cX5_init 52 = .ok (.bipush 8, 2) := by decide +kernel
theorem dX5_init_54 : decode cX5_init 54 = .ok (.bipush 127, 2) := by decide +kernel
theorem dX5_init_56 : decode cX5_init 56 = .ok (.iastore, 1) := by decide +kernel
theorem dX5_init_57 : decode cX5_init 57 = .ok (.dup, 1) := by decide +kernel
theorem dX5_init_58 : decode cX5_init 58 = .ok (.bipush 9, 2) := by decide +kernel
theorem dX5_init_60 : decode cX5_init 60 = .ok (.bipush 111, 2) := by decide +kernel
theorem dX5_init_62 : decode cX5_init 62 = .ok (.iastore, 1) := by decide +kernel
theorem dX5_init_63 : decode cX5_init 63 = .ok (.dup, 1) := by decide +kernel
theorem dX5_init_64 : decode cX5_init 64 = .ok (.bipush 10, 2) := by decide +kernel
theorem dX5_init_66 : decode cX5_init 66 = .ok (.bipush 64, 2) := by decide +kernel
theorem dX5_init_68 : decode cX5_init 68 = .ok (.iastore, 1) := by decide +kernel
theorem dX5_init_69 : decode cX5_init 69 = .ok (.dup, 1) := by decide +kernel
theorem dX5_init_70 : decode cX5_init 70 = .ok (.bipush 11, 2) := by decide +kernel
theorem dX5_init_72 : decode cX5_init 72 = .ok (.iconst 0, 1) := by decide +kernel
theorem dX5_init_73 : decode cX5_init 73 = .ok (.iastore, 1) := by decide +kernel
theorem dX5_init_74 : decode cX5_init 74 = .ok (.putfield 7, 3) := by decide +kernel
theorem dX5_init_77 : decode cX5_init 77 = .ok (.aload_n 0, 1) := by decide +kernel
theorem dX5_init_78 : decode cX5_init 78 = .ok (.bipush 80, 2) := by decide +kernel
theorem dX5_init_80 : decode cX5_init 80 = .ok (.newarray .int, 2) := by decide +kernel
theorem dX5_init_82 : decode cX5_init 82 = .ok (.putfield 13, 3) := by decide +kernel
theorem dX5_init_85 : decode cX5_init 85 = .ok (.aload_n 0, 1) := by decide +kernel
theorem dX5_init_86 : decode cX5_init 86 = .ok (.bipush 80, 2) := by decide +kernel
theorem dX5_init_88 : decode cX5_init 88 = .ok (.newarray .int, 2) := by decide +kernel
theorem dX5_init_90 : decode cX5_init 90 = .ok (.putfield 16, 3) := by decide +kernel
theorem dX5_init_93 : decode cX5_init 93 = .ok (.aload_n 0, 1) := by decide +kernel
theorem dX5_init_94 : decode cX5_init 94 = .ok (.sipush 480, 3) := by decide +kernel
theorem dX5_init_97 : decode cX5_init 97 = .ok (.newarray .int, 2) := by decide +kernel
theorem dX5_init_99 : decode cX5_init 99 = .ok (.putfield 19, 3) := by decide +kernel
theorem dX5_init_102 : decode cX5_init 102 = .ok (.aload_n 0, 1) := by decide +kernel
theorem dX5_init_103 : decode cX5_init 103 = .ok (.bipush 60, 2) := by decide +kernel
theorem dX5_init_105 : decode cX5_init 105 = .ok (.newarray .int, 2) := by decide +kernel
theorem dX5_init_107 : decode cX5_init 107 = .ok (.putfield 22, 3) := by decide +kernel
theorem dX5_init_110 : decode cX5_init 110 = .ok (.aload_n 0, 1) := by decide +kernel
theorem dX5_init_111 : decode cX5_init 111 = .ok (.bipush 12, 2) := by decide +kernel
theorem dX5_init_113 : decode cX5_init 113 = .ok (.newarray .int, 2) := by decide +kernel
theorem dX5_init_115 : decode cX5_init 115 = .ok (.putfield 25, 3) := by decide +kernel
theorem dX5_init_118 : decode cX5_init 118 = .ok (.aload_n 0, 1) := by decide +kernel
theorem dX5_init_119 : decode cX5_init 119 = .ok (.bipush 96, 2) := by decide +kernel
theorem dX5_init_121 : decode cX5_init 121 = .ok (.newarray .int, 2) := by decide +kernel
theorem dX5_init_123 : decode cX5_init 123 = .ok (.putfield 28, 3) := by decide +kernel
theorem dX5_init_126 : decode cX5_init 126 = .ok (.aload_n 0, 1) := by decide +kernel
theorem dX5_init_127 : decode cX5_init 127 = .ok (.bipush 96, 2) := by decide +kernel
theorem dX5_init_129 : decode cX5_init 129 = .ok (.newarray .int, 2) := by decide +kernel
theorem dX5_init_131 : decode cX5_init 131 = .ok (.putfield 31, 3) := by decide +kernel
theorem dX5_init_134 : decode cX5_init 134 = .ok (.aload_n 0, 1) := by decide +kernel
theorem dX5_init_135 : decode cX5_init 135 = .ok (.bipush 6, 2) := by decide +kernel
theorem dX5_init_137 : decode cX5_init 137 = .ok (.newarray .int, 2) := by decide +kernel
theorem dX5_init_139 : decode cX5_init 139 = .ok (.putfield 34, 3) := by decide +kernel
theorem dX5_init_142 : decode cX5_init 142 = .ok (.aload_n 0, 1) := by decide +kernel
theorem dX5_init_143 : decode cX5_init 143 = .ok (.getfield 13, 3) := by decide +kernel
theorem dX5_init_146 : decode cX5_init 146 = .ok (.iconst 1, 1) := by decide +kernel
theorem dX5_init_147 : decode cX5_init 147 = .ok (.iconst 2, 1) := by decide +kernel
theorem dX5_init_148 : decode cX5_init 148 = .ok (.iastore, 1) := by decide +kernel
theorem dX5_init_149 : decode cX5_init 149 = .ok (.aload_n 0, 1) := by decide +kernel
theorem dX5_init_150 : decode cX5_init 150 = .ok (.getfield 13, 3) := by decide +kernel
theorem dX5_init_153 : decode cX5_init 153 = .ok (.iconst 2, 1) := by decide +kernel
theorem dX5_init_154 : decode cX5_init 154 = .ok (.bipush 24, 2) := by decide +kernel
theorem dX5_init_156 : decode cX5_init 156 = .ok (.iastore, 1) := by decide +kernel
theorem dX5_init_157 : decode cX5_init 157 = .ok (.aload_n 0, 1) := by decide +kernel
theorem dX5_init_158 : decode cX5_init 158 = .ok (.getfield 13, 3) := by decide +kernel
theorem dX5_init_161 : decode cX5_init 161 = .ok (.iconst 4, 1) := by decide +kernel
theorem dX5_init_162 : decode cX5_init 162 = .ok (.bipush 12, 2) := by decide +kernel
theorem dX5_init_164 : decode cX5_init 164 = .ok (.iastore, 1) := by decide +kernel
theorem dX5_init_165 : decode cX5_init 165 = .ok (.aload_n 0, 1) := by decide +kernel
theorem dX5_init_166 : decode cX5_init 166 = .ok (.getfield 13, 3) := by decide +kernel
theorem dX5_init_169 : decode cX5_init 169 = .ok (.iconst 5, 1) := by decide +kernel
theorem dX5_init_170 : decode cX5_init 170 = .ok (.bipush 10, 2) := by decide +kernel
theorem dX5_init_172 : decode cX5_init 172 = .ok (.iastore, 1) := by decide +kernel
theorem dX5_init_173 : decode cX5_init 173 = .ok (.aload_n 0, 1) := by decide +kernel
theorem dX5_init_174 : decode cX5_init 174 = .ok (.getfield 13, 3) := by decide +kernel
theorem dX5_init_177 : decode cX5_init 177 = .ok (.bipush 7, 2) := by decide +kernel
theorem dX5_init_179 : decode cX5_init 179 = .ok (.iconst (-1), 1) := by decide +kernel
theorem dX5_init_180 : decode cX5_init 180 = .ok (.iastore, 1) := by decide +kernel
theorem dX5_init_181 : decode cX5_init 181 = .ok (.iconst 0, 1) := by decide +kernel
theorem dX5_init_182 : decode cX5_init 182 = .ok (.istore_n 1, 1) := by decide +kernel
theorem dX5_init_183 : decode cX5_init 183 = .ok (.iload_n 1, 1) := by decide +kernel
theorem dX5_init_184 : decode cX5_init 184 = .ok (.bipush 6, 2) := by decide +kernel
theorem dX5_init_186 : decode cX5_init 186 = .ok (.if_icmp .ge 30, 3) := by decide +kernel
theorem dX5_init_189 : decode cX5_init 189 = .ok (.aload_n 0, 1) := by decide +kernel
theorem dX5_init_190 : decode cX5_init 190 = .ok (.getfield 13, 3) := by decide +kernel
theorem dX5_init_193 : decode cX5_init 193 = .ok (.bipush 8, 2) := by decide +kernel
theorem dX5_init_195 : decode cX5_init 195 = .ok (.iload_n 1, 1) := by decide +kernel
theorem dX5_init_196 : decode cX5_init 196 = .ok (.iadd, 1) := by decide +kernel
theorem dX5_init_197 : decode cX5_init 197 = .ok (.bipush 11, 2) := by decide +kernel
theorem dX5_init_199 : decode cX5_init 199 = .ok (.iastore, 1) := by decide +kernel
theorem dX5_init_200 : decode cX5_init 200 = .ok (.aload_n 0, 1) := by decide +kernel
theorem dX5_init_201 : decode cX5_init 201 = .ok (.getfield 13, 3) := by decide +kernel
theorem dX5_init_204 : decode cX5_init 204 = .ok (.bipush 14, 2) := by decide +kernel
theorem dX5_init_206 : decode cX5_init 206 = .ok (.iload_n 1, 1) := by decide +kernel
theorem dX5_init_207 : decode cX5_init 207 = .ok (.iadd, 1) := by decide +kernel
theorem dX5_init_208 : decode cX5_init 208 = .ok (.iconst 4, 1) := by decide +kernel
theorem dX5_init_209 : decode cX5_init 209 = .ok (.iastore, 1) := by decide +kernel
theorem dX5_init_210 : decode cX5_init 210 = .ok (.iinc 1 1, 3) := by decide +kernel
theorem dX5_init_213 : decode cX5_init 213 = .ok (.goto (-30), 3) := by decide +kernel
theorem dX5_init_216 : decode cX5_init 216 = .ok (.return_, 1) := by decide +kernel
theorem dX5_thrown_0 : decode cX5_thrown 0 = .ok (.aload_n 0, 1) := by decide +kernel
theorem dX5_thrown_1 : decode cX5_thrown 1 = .ok (.getfield 37, 3) := by decide +kernel
theorem dX5_thrown_4 : decode cX5_thrown 4 = .ok (.ireturn, 1) := by decide +kernel
theorem dX5_fails_0 : decode cX5_fails 0 = .ok (.aload_n 0, 1) := by decide +kernel
theorem dX5_fails_1 : decode cX5_fails 1 = .ok (.iload_n 1, 1) := by decide +kernel
theorem dX5_fails_2 : decode cX5_fails 2 = .ok (.putfield 37, 3) := by decide +kernel
theorem dX5_fails_5 : decode cX5_fails 5 = .ok (.iconst 0, 1) := by decide +kernel
theorem dX5_fails_6 : decode cX5_fails 6 = .ok (.ireturn, 1) := by decide +kernel
theorem dX5_in_0 : decode cX5_in 0 = .ok (.iload_n 0, 1) := by decide +kernel
theorem dX5_in_1 : decode cX5_in 1 = .ok (.iload_n 1, 1) := by decide +kernel
theorem dX5_in_2 : decode cX5_in 2 = .ok (.if_icmp .lt 12, 3) := by decide +kernel
theorem dX5_in_5 : decode cX5_in 5 = .ok (.iload_n 0, 1) := by decide +kernel
theorem dX5_in_6 : decode cX5_in 6 = .ok (.iload_n 2, 1) := by decide +kernel
theorem dX5_in_7 : decode cX5_in 7 = .ok (.if_icmp .gt 7, 3) := by decide +kernel
theorem dX5_in_10 : decode cX5_in 10 = .ok (.iconst 1, 1) := by decide +kernel
theorem dX5_in_11 : decode cX5_in 11 = .ok (.goto 4, 3) := by decide +kernel
theorem dX5_in_14 : decode cX5_in 14 = .ok (.iconst 0, 1) := by decide +kernel
theorem dX5_in_15 : decode cX5_in 15 = .ok (.ireturn, 1) := by decide +kernel
set_option maxRecDepth 20000 in
theorem ggX5_isDigit_X5_in : GoodIn wsX5_isDigit wsX5_in := goodIn_r _ [4] (by decide +kernel) (by decide +kernel)
set_option maxRecDepth 20000 in
theorem gX5_isDigit_X5_in : GoodIn wsX5_isDigit (va_wsS RX5 41 yX5_in wsX5_in) := goodIn_app (goodIn_of _ (by decide +kernel)) ggX5_isDigit_X5_in
theorem dX5_isDigit_0 : decode cX5_isDigit 0 = .ok (.iload_n 0, 1) := by decide +kernel
theorem dX5_isDigit_1 : decode cX5_isDigit 1 = .ok (.iconst 0, 1) := by decide +kernel
theorem dX5_isDigit_2 : decode cX5_isDigit 2 = .ok (.iconst 5, 1) := by decide +kernel
theorem dX5_isDigit_3 : decode cX5_isDigit 3 = .ok (.invokestatic 41, 3) := by decide +kernel
theorem dX5_isDigit_6 : decode cX5_isDigit 6 = .ok (.ireturn, 1) := by decide +kernel
set_option maxRecDepth 20000 in
theorem ggX5_isSign_X5_in : GoodIn wsX5_isSign wsX5_in := goodIn_r _ [4] (by decide +kernel) (by decide +kernel)
set_option maxRecDepth 20000 in
theorem gX5_isSign_X5_in : GoodIn wsX5_isSign (va_wsS RX5 41 yX5_in wsX5_in) := goodIn_app (goodIn_of _ (by decide +kernel)) ggX5_isSign_X5_in
theorem dX5_isSign_0 : decode cX5_isSign 0 = .ok (.iload_n 0, 1) := by decide +kernel
theorem dX5_isSign_1 : decode cX5_isSign 1 = .ok (.iconst 0, 1) := by decide +kernel
theorem dX5_isSign_2 : decode cX5_isSign 2 = .ok (.bipush 11, 2) := by decide +kernel
theorem dX5_isSign_4 : decode cX5_isSign 4 = .ok (.invokestatic 41, 3) := by decide +kernel
theorem dX5_isSign_7 : decode cX5_isSign 7 = .ok (.ireturn, 1) := by decide +kernel
set_option maxRecDepth 20000 in
theorem ggX5_isLevel_X5_in : GoodIn wsX5_isLevel wsX5_in := goodIn_r _ [4] (by decide +kernel) (by decide +kernel)
set_option maxRecDepth 20000 in
theorem gX5_isLevel_X5_in : GoodIn wsX5_isLevel (va_wsS RX5 41 yX5_in wsX5_in) := goodIn_app (goodIn_of _ (by decide +kernel)) ggX5_isLevel_X5_in
theorem dX5_isLevel_0 : decode cX5_isLevel 0 = .ok (.iload_n 0, 1) := by decide +kernel
theorem dX5_isLevel_1 : decode cX5_isLevel 1 = .ok (.iconst 0, 1) := by decide +kernel
theorem dX5_isLevel_2 : decode cX5_isLevel 2 = .ok (.bipush 15, 2) := by decide +kernel
theorem dX5_isLevel_4 : decode cX5_isLevel 4 = .ok (.invokestatic 41, 3) := by decide +kernel
theorem dX5_isLevel_7 : decode cX5_isLevel 7 = .ok (.ireturn, 1) := by decide +kernel
set_option maxRecDepth 20000 in
theorem ggX5_isSegment_X5_in : GoodIn wsX5_isSegment wsX5_in := goodIn_r _ [4] (by decide +kernel) (by decide +kernel)
set_option maxRecDepth 20000 in
theorem gX5_isSegment_X5_in : GoodIn wsX5_isSegment (va_wsS RX5 41 yX5_in wsX5_in) := goodIn_app (goodIn_of _ (by decide +kernel)) ggX5_isSegment_X5_in
theorem dX5_isSegment_0 : decode cX5_isSegment 0 = .ok (.iload_n 0, 1) := by decide +kernel
theorem dX5_isSegment_1 : decode cX5_isSegment 1 = .ok (.iconst 0, 1) := by decide +kernel
theorem dX5_isSegment_2 : decode cX5_isSegment 2 = .ok (.bipush 6, 2) := by decide +kernel
theorem dX5_isSegment_4 : decode cX5_isSegment 4 = .ok (.invokestatic 41, 3) := by decide +kernel
theorem dX5_isSegment_7 : decode cX5_isSegment 7 = .ok (.ireturn, 1) := by decide +kernel
theorem dX5_saves_0 : decode cX5_saves 0 = .ok (.aload_n 0, 1) := by decide +kernel
theorem dX5_saves_1 : decode cX5_saves 1 = .ok (.getfield 45, 3) := by decide +kernel
theorem dX5_saves_4 : decode cX5_saves 4 = .ok (.bipush 6, 2) := by decide +kernel
theorem dX5_saves_6 : decode cX5_saves 6 = .ok (.if_icmp .ne 43, 3) := by decide +kernel
theorem dX5_saves_9 : decode cX5_saves 9 = .ok (.iconst 0, 1) := by decide +kernel
theorem dX5_saves_10 : decode cX5_saves 10 = .ok (.istore_n 1, 1) := by decide +kernel
theorem dX5_saves_11 : decode cX5_saves 11 = .ok (.iload_n 1, 1) := by decide +kernel
theorem dX5_saves_12 : decode cX5_saves 12 = .ok (.sipush 400, 3) := by decide +kernel
theorem dX5_saves_15 : decode cX5_saves 15 = .ok (.if_icmp .ge 24, 3) := by decide +kernel
theorem dX5_saves_18 : decode cX5_saves 18 = .ok (.aload_n 0, 1) := by decide +kernel
theorem dX5_saves_19 : decode cX5_saves 19 = .ok (.getfield 19, 3) := by decide +kernel
theorem dX5_saves_22 : decode cX5_saves 22 = .ok (.iload_n 1, 1) := by decide +kernel
theorem dX5_saves_23 : decode cX5_saves 23 = .ok (.aload_n 0, 1) := by decide +kernel
theorem dX5_saves_24 : decode cX5_saves 24 = .ok (.getfield 19, 3) := by decide +kernel
theorem dX5_saves_27 : decode cX5_saves 27 = .ok (.iload_n 1, 1) := by decide +kernel
theorem dX5_saves_28 : decode cX5_saves 28 = .ok (.bipush 80, 2) := by decide +kernel
theorem dX5_saves_30 : decode cX5_saves 30 = .ok (.iadd, 1) := by decide +kernel
theorem dX5_saves_31 : decode cX5_saves 31 = .ok (.iaload, 1) := by decide +kernel
theorem dX5_saves_32 : decode cX5_saves 32 = .ok (.iastore, 1) := by decide +kernel
theorem dX5_saves_33 : decode cX5_saves 33 = .ok (.iinc 1 1, 3) := by decide +kernel
theorem dX5_saves_36 : decode cX5_saves 36 = .ok (.goto (-25), 3) := by decide +kernel
theorem dX5_saves_39 : decode cX5_saves 39 = .ok (.aload_n 0, 1) := by decide +kernel
theorem dX5_saves_40 : decode cX5_saves 40 = .ok (.dup, 1) := by decide +kernel
theorem dX5_saves_41 : decode cX5_saves 41 = .ok (.getfield 45, 3) := by decide +kernel
theorem dX5_saves_44 : decode cX5_saves 44 = .ok (.iconst 1, 1) := by decide +kernel
theorem dX5_saves_45 : decode cX5_saves 45 = .ok (.isub, 1) := by decide +kernel
theorem dX5_saves_46 : decode cX5_saves 46 = .ok (.putfield 45, 3) := by decide +kernel
theorem dX5_saves_49 : decode cX5_saves 49 = .ok (.iconst 0, 1) := by decide +kernel
theorem dX5_saves_50 : decode cX5_saves 50 = .ok (.istore_n 1, 1) := by decide +kernel
theorem dX5_saves_51 : decode cX5_saves 51 = .ok (.iload_n 1, 1) := by decide +kernel
theorem dX5_saves_52 : decode cX5_saves 52 = .ok (.bipush 80, 2) := by decide +kernel
theorem dX5_saves_54 : decode cX5_saves 54 = .ok (.if_icmp .ge 29, 3) := by decide +kernel
theorem dX5_saves_57 : decode cX5_saves 57 = .ok (.aload_n 0, 1) := by decide +kernel
theorem dX5_saves_58 : decode cX5_saves 58 = .ok (.getfield 19, 3) := by decide +kernel
theorem dX5_saves_61 : decode cX5_saves 61 = .ok (.bipush 80, 2) := by decide +kernel
theorem dX5_saves_63 : decode cX5_saves 63 = .ok (.aload_n 0, 1) := by decide +kernel
theorem dX5_saves_64 : decode cX5_saves 64 = .ok (.getfield 45, 3) := by decide +kernel
theorem dX5_saves_67 : decode cX5_saves 67 = .ok (.imul, 1) := by decide +kernel
theorem dX5_saves_68 : decode cX5_saves 68 = .ok (.iload_n 1, 1) := by decide +kernel
theorem dX5_saves_69 : decode cX5_saves 69 = .ok (.iadd, 1) := by decide +kernel
theorem dX5_saves_70 : decode cX5_saves 70 = .ok (.aload_n 0, 1) := by decide +kernel
theorem dX5_saves_71 : decode cX5_saves 71 = .ok (.getfield 13, 3) := by decide +kernel
theorem dX5_saves_74 : decode cX5_saves 74 = .ok (.iload_n 1, 1) := by decide +kernel
theorem dX5_saves_75 : decode cX5_saves 75 = .ok (.iaload, 1) := by decide +kernel
theorem dX5_saves_76 : decode cX5_saves 76 = .ok (.iastore, 1) := by decide +kernel
theorem dX5_saves_77 : decode cX5_saves 77 = .ok (.iinc 1 1, 3) := by decide +kernel
theorem dX5_saves_80 : decode cX5_saves 80 = .ok (.goto (-29), 3) := by decide +kernel
theorem dX5_saves_83 : decode cX5_saves 83 = .ok (.aload_n 0, 1) := by decide +kernel
theorem dX5_saves_84 : decode cX5_saves 84 = .ok (.dup, 1) := by decide +kernel
theorem dX5_saves_85 : decode cX5_saves 85 = .ok (.getfield 45, 3) := by decide +kernel
theorem dX5_saves_88 : decode cX5_saves 88 = .ok (.iconst 1, 1) := by decide +kernel
theorem dX5_saves_89 : decode cX5_saves 89 = .ok (.iadd, 1) := by decide +kernel
theorem dX5_saves_90 : decode cX5_saves 90 = .ok (.putfield 45, 3) := by decide +kernel
theorem dX5_saves_93 : decode cX5_saves 93 = .ok (.return_, 1) := by decide +kernel
set_option maxRecDepth 20000 in
theorem ggX5_undo_X5_fails : GoodIn wsX5_undo wsX5_fails := goodIn_r _ [9, 1, 10, 11, 12, 13, 14, 15, 16, 17, 18, 19, 20, 21, 22, 23, 24, 25] (by decide +kernel) (by decide +kernel)
set_option maxRecDepth 20000 in
theorem gX5_undo_X5_fails : GoodIn wsX5_undo (wsV RX5 48 RX5 yX5_fails wsX5_fails) := goodIn_app (goodIn_of _ (by decide +kernel)) ggX5_undo_X5_fails
theorem dX5_undo_0 : decode cX5_undo 0 = .ok (.aload_n 0, 1) := by decide +kernel
theorem dX5_undo_1 : decode cX5_undo 1 = .ok (.iconst 0, 1) := by decide +kernel
theorem dX5_undo_2 : decode cX5_undo 2 = .ok (.putfield 37, 3) := by decide +kernel
theorem dX5_undo_5 : decode cX5_undo 5 = .ok (.aload_n 0, 1) := by decide +kernel
theorem dX5_undo_6 : decode cX5_undo 6 = .ok (.getfield 45, 3) := by decide +kernel
theorem dX5_undo_9 : decode cX5_undo 9 = .ok (.ifCond .ne 9, 3) := by decide +kernel
theorem dX5_undo_12 : decode cX5_undo 12 = .ok (.aload_n 0, 1) := by decide +kernel
theorem dX5_undo_13 : decode cX5_undo 13 = .ok (.iconst 1, 1) := by decide +kernel
theorem dX5_undo_14 : decode cX5_undo 14 = .ok (.invokevirtual 48, 3) := by decide +kernel
theorem dX5_undo_17 : decode cX5_undo 17 = .ok (.ireturn, 1) := by decide +kernel
theorem dX5_undo_18 : decode cX5_undo 18 = .ok (.aload_n 0, 1) := by decide +kernel
theorem dX5_undo_19 : decode cX5_undo 19 = .ok (.dup, 1) := by decide +kernel
theorem dX5_undo_20 : decode cX5_undo 20 = .ok (.getfield 45, 3) := by decide +kernel
theorem dX5_undo_23 : decode cX5_undo 23 = .ok (.iconst 1, 1) := by decide +kernel
theorem dX5_undo_24 : decode cX5_undo 24 = .ok (.isub, 1) := by decide +kernel
theorem dX5_undo_25 : decode cX5_undo 25 = .ok (.putfield 45, 3) := by decide +kernel
theorem dX5_undo_28 : decode cX5_undo 28 = .ok (.iconst 0, 1) := by decide +kernel
theorem dX5_undo_29 : decode cX5_undo 29 = .ok (.istore_n 1, 1) := by decide +kernel
theorem dX5_undo_30 : decode cX5_undo 30 = .ok (.iload_n 1, 1) := by decide +kernel
theorem dX5_undo_31 : decode cX5_undo 31 = .ok (.bipush 80, 2) := by decide +kernel
theorem dX5_undo_33 : decode cX5_undo 33 = .ok (.if_icmp .ge 29, 3) := by decide +kernel
theorem dX5_undo_36 : decode cX5_undo 36 = .ok (.aload_n 0, 1) := by decide +kernel
theorem dX5_undo_37 : decode cX5_undo 37 = .ok (.getfield 13, 3) := by decide +kernel
theorem dX5_undo_40 : decode cX5_undo 40 = .ok (.iload_n 1, 1) := by decide +kernel
theorem dX5_undo_41 : decode cX5_undo 41 = .ok (.aload_n 0, 1) := by decide +kernel
theorem dX5_undo_42 : decode cX5_undo 42 = .ok (.getfield 19, 3) := by decide +kernel
theorem dX5_undo_45 : decode cX5_undo 45 = .ok (.bipush 80, 2) := by decide +kernel
theorem dX5_undo_47 : decode cX5_undo 47 = .ok (.aload_n 0, 1) := by decide +kernel
theorem dX5_undo_48 : decode cX5_undo 48 = .ok (.getfield 45, 3) := by decide +kernel
theorem dX5_undo_51 : decode cX5_undo 51 = .ok (.imul, 1) := by decide +kernel
theorem dX5_undo_52 : decode cX5_undo 52 = .ok (.iload_n 1, 1) := by decide +kernel
theorem dX5_undo_53 : decode cX5_undo 53 = .ok (.iadd, 1) := by decide +kernel
theorem dX5_undo_54 : decode cX5_undo 54 = .ok (.iaload, 1) := by decide +kernel
theorem dX5_undo_55 : decode cX5_undo 55 = .ok (.iastore, 1) := by decide +kernel
theorem dX5_undo_56 : decode cX5_undo 56 = .ok (.iinc 1 1, 3) := by decide +kernel
theorem dX5_undo_59 : decode cX5_undo 59 = .ok (.goto (-29), 3) := by decide +kernel
theorem dX5_undo_62 : decode cX5_undo 62 = .ok (.aload_n 0, 1) := by decide +kernel
theorem dX5_undo_63 : decode cX5_undo 63 = .ok (.getfield 45, 3) := by decide +kernel
theorem dX5_undo_66 : decode cX5_undo 66 = .ok (.ireturn, 1) := by decide +kernel
theorem dX5_shownAs_0 : decode cX5_shownAs 0 = .ok (.aload_n 0, 1) := by decide +kernel
theorem dX5_shownAs_1 : decode cX5_shownAs 1 = .ok (.getfield 7, 3) := by decide +kernel
theorem dX5_shownAs_4 : decode cX5_shownAs 4 = .ok (.iload_n 2, 1) := by decide +kernel
theorem dX5_shownAs_5 : decode cX5_shownAs 5 = .ok (.iaload, 1) := by decide +kernel
theorem dX5_shownAs_6 : decode cX5_shownAs 6 = .ok (.aload_n 0, 1) := by decide +kernel
theorem dX5_shownAs_7 : decode cX5_shownAs 7 = .ok (.getfield 13, 3) := by decide +kernel
theorem dX5_shownAs_10 : decode cX5_shownAs 10 = .ok (.bipush 20, 2) := by decide +kernel
theorem dX5_shownAs_12 : decode cX5_shownAs 12 = .ok (.iload_n 1, 1) := by decide +kernel
theorem dX5_shownAs_13 : decode cX5_shownAs 13 = .ok (.iadd, 1) := by decide +kernel
theorem dX5_shownAs_14 : decode cX5_shownAs 14 = .ok (.iaload, 1) := by decide +kernel
theorem dX5_shownAs_15 : decode cX5_shownAs 15 = .ok (.iconst (-1), 1) := by decide +kernel
theorem dX5_shownAs_16 : decode cX5_shownAs 16 = .ok (.ixor, 1) := by decide +kernel
theorem dX5_shownAs_17 : decode cX5_shownAs 17 = .ok (.iand, 1) := by decide +kernel
theorem dX5_shownAs_18 : decode cX5_shownAs 18 = .ok (.ireturn, 1) := by decide +kernel
theorem dX5_levels_0 : decode cX5_levels 0 = .ok (.iconst 0, 1) := by decide +kernel
theorem dX5_levels_1 : decode cX5_levels 1 = .ok (.istore_n 1, 1) := by decide +kernel
theorem dX5_levels_2 : decode cX5_levels 2 = .ok (.iconst 0, 1) := by decide +kernel
theorem dX5_levels_3 : decode cX5_levels 3 = .ok (.istore_n 2, 1) := by decide +kernel
theorem dX5_levels_4 : decode cX5_levels 4 = .ok (.iload_n 2, 1) := by decide +kernel
theorem dX5_levels_5 : decode cX5_levels 5 = .ok (.bipush 6, 2) := by decide +kernel
theorem dX5_levels_7 : decode cX5_levels 7 = .ok (.if_icmp .ge 18, 3) := by decide +kernel
theorem dX5_levels_10 : decode cX5_levels 10 = .ok (.iload_n 1, 1) := by decide +kernel
theorem dX5_levels_11 : decode cX5_levels 11 = .ok (.aload_n 0, 1) := by decide +kernel
theorem dX5_levels_12 : decode cX5_levels 12 = .ok (.bipush 14, 2) := by decide +kernel
theorem dX5_levels_14 : decode cX5_levels 14 = .ok (.iload_n 2, 1) := by decide +kernel
theorem dX5_levels_15 : decode cX5_levels 15 = .ok (.iadd, 1) := by decide +kernel
theorem dX5_levels_16 : decode cX5_levels 16 = .ok (.iaload, 1) := by decide +kernel
theorem dX5_levels_17 : decode cX5_levels 17 = .ok (.iadd, 1) := by decide +kernel
theorem dX5_levels_18 : decode cX5_levels 18 = .ok (.istore_n 1, 1) := by decide +kernel
theorem dX5_levels_19 : decode cX5_levels 19 = .ok (.iinc 2 1, 3) := by decide +kernel
theorem dX5_levels_22 : decode cX5_levels 22 = .ok (.goto (-18), 3) := by decide +kernel
theorem dX5_levels_25 : decode cX5_levels 25 = .ok (.iload_n 1, 1) := by decide +kernel
theorem dX5_levels_26 : decode cX5_levels 26 = .ok (.ireturn, 1) := by decide +kernel
set_option maxRecDepth 20000 in
theorem ggX5_turns_X5_levels : GoodIn wsX5_turns wsX5_levels := goodIn_r _ [4] (by decide +kernel) (by decide +kernel)
set_option maxRecDepth 20000 in
theorem gX5_turns_X5_levels : GoodIn wsX5_turns (va_wsS RX5 52 yX5_levels wsX5_levels) := goodIn_app (goodIn_of _ (by decide +kernel)) ggX5_turns_X5_levels
theorem dX5_turns_0 : decode cX5_turns 0 = .ok (.iconst (-1), 1) := by decide +kernel
theorem dX5_turns_1 : decode cX5_turns 1 = .ok (.istore_n 3, 1) := by decide +kernel
theorem dX5_turns_2 : decode cX5_turns 2 = .ok (.iconst 0, 1) := by decide +kernel
theorem dX5_turns_3 : decode cX5_turns 3 = .ok (.istore 4, 2) := by decide +kernel
theorem dX5_turns_5 : decode cX5_turns 5 = .ok (.iload 4, 2) := by decide +kernel
theorem dX5_turns_7 : decode cX5_turns 7 = .ok (.bipush 6, 2) := by decide +kernel
theorem dX5_turns_9 : decode cX5_turns 9 = .ok (.if_icmp .ge 61, 3) := by decide +kernel
theorem dX5_turns_12 : decode cX5_turns 12 = .ok (.aload_n 1, 1) := by decide +kernel
theorem dX5_turns_13 : decode cX5_turns 13 = .ok (.iload_n 2, 1) := by decide +kernel
theorem dX5_turns_14 : decode cX5_turns 14 = .ok (.iload 4, 2) := by decide +kernel
theorem dX5_turns_16 : decode cX5_turns 16 = .ok (.iadd, 1) := by decide +kernel
theorem dX5_turns_17 : decode cX5_turns 17 = .ok (.dup2, 1) := by decide +kernel
theorem dX5_turns_18 : decode cX5_turns 18 = .ok (.iaload, 1) := by decide +kernel
theorem dX5_turns_19 : decode cX5_turns 19 = .ok (.aload_n 0, 1) := by decide +kernel
theorem dX5_turns_20 : decode cX5_turns 20 = .ok (.bipush 14, 2) := by decide +kernel
theorem dX5_turns_22 : decode cX5_turns 22 = .ok (.iload 4, 2) := by decide +kernel
theorem dX5_turns_24 : decode cX5_turns 24 = .ok (.iadd, 1) := by decide +kernel
theorem dX5_turns_25 : decode cX5_turns 25 = .ok (.iaload, 1) := by decide +kernel
theorem dX5_turns_26 : decode cX5_turns 26 = .ok (.iadd, 1) := by decide +kernel
theorem dX5_turns_27 : decode cX5_turns 27 = .ok (.iastore, 1) := by decide +kernel
theorem dX5_turns_28 : decode cX5_turns 28 = .ok (.aload_n 0, 1) := by decide +kernel
theorem dX5_turns_29 : decode cX5_turns 29 = .ok (.bipush 14, 2) := by decide +kernel
theorem dX5_turns_31 : decode cX5_turns 31 = .ok (.iload 4, 2) := by decide +kernel
theorem dX5_turns_33 : decode cX5_turns 33 = .ok (.iadd, 1) := by decide +kernel
theorem dX5_turns_34 : decode cX5_turns 34 = .ok (.iaload, 1) := by decide +kernel
theorem dX5_turns_35 : decode cX5_turns 35 = .ok (.ifCond .le 27, 3) := by decide +kernel
theorem dX5_turns_38 : decode cX5_turns 38 = .ok (.iload_n 3, 1) := by decide +kernel
theorem dX5_turns_39 : decode cX5_turns 39 = .ok (.iconst (-1), 1) := by decide +kernel
theorem dX5_turns_40 : decode cX5_turns 40 = .ok (.if_icmp .eq 17, 3) := by decide +kernel
theorem dX5_turns_43 : decode cX5_turns 43 = .ok (.aload_n 1, 1) := by decide +kernel
theorem dX5_turns_44 : decode cX5_turns 44 = .ok (.iload_n 2, 1) := by decide +kernel
theorem dX5_turns_45 : decode cX5_turns 45 = .ok (.iload 4, 2) := by decide +kernel
theorem dX5_turns_47 : decode cX5_turns 47 = .ok (.iadd, 1) := by decide +kernel
theorem dX5_turns_48 : decode cX5_turns 48 = .ok (.iaload, 1) := by decide +kernel
theorem dX5_turns_49 : decode cX5_turns 49 = .ok (.aload_n 1, 1) := by decide +kernel
theorem dX5_turns_50 : decode cX5_turns 50 = .ok (.iload_n 2, 1) := by decide +kernel
theorem dX5_turns_51 : decode cX5_turns 51 = .ok (.iload_n 3, 1) := by decide +kernel
theorem dX5_turns_52 : decode cX5_turns 52 = .ok (.iadd, 1) := by decide +kernel
theorem dX5_turns_53 : decode cX5_turns 53 = .ok (.iaload, 1) := by decide +kernel
theorem dX5_turns_54 : decode cX5_turns 54 = .ok (.if_icmp .le 8, 3) := by decide +kernel
theorem dX5_turns_57 : decode cX5_turns 57 = .ok (.iload 4, 2) := by decide +kernel
theorem dX5_turns_59 : decode cX5_turns 59 = .ok (.goto 4, 3) := by decide +kernel
theorem dX5_turns_62 : decode cX5_turns 62 = .ok (.iload_n 3, 1) := by decide +kernel
theorem dX5_turns_63 : decode cX5_turns 63 = .ok (.istore_n 3, 1) := by decide +kernel
theorem dX5_turns_64 : decode cX5_turns 64 = .ok (.iinc 4 1, 3) := by decide +kernel
theorem dX5_turns_67 : decode cX5_turns 67 = .ok (.goto (-62), 3) := by decide +kernel
theorem dX5_turns_70 : decode cX5_turns 70 = .ok (.iload_n 3, 1) := by decide +kernel
theorem dX5_turns_71 : decode cX5_turns 71 = .ok (.iconst (-1), 1) := by decide +kernel
theorem dX5_turns_72 : decode cX5_turns 72 = .ok (.if_icmp .eq 15, 3) := by decide +kernel
theorem dX5_turns_75 : decode cX5_turns 75 = .ok (.aload_n 1, 1) := by decide +kernel
theorem dX5_turns_76 : decode cX5_turns 76 = .ok (.iload_n 2, 1) := by decide +kernel
theorem dX5_turns_77 : decode cX5_turns 77 = .ok (.iload_n 3, 1) := by decide +kernel
theorem dX5_turns_78 : decode cX5_turns 78 = .ok (.iadd, 1) := by decide +kernel
theorem dX5_turns_79 : decode cX5_turns 79 = .ok (.dup2, 1) := by decide +kernel
theorem dX5_turns_80 : decode cX5_turns 80 = .ok (.iaload, 1) := by decide +kernel
theorem dX5_turns_81 : decode cX5_turns 81 = .ok (.aload_n 0, 1) := by decide +kernel
theorem dX5_turns_82 : decode cX5_turns 82 = .ok (.invokestatic 52, 3) := by decide +kernel
theorem dX5_turns_85 : decode cX5_turns 85 = .ok (.isub, 1) := by decide +kernel
theorem dX5_turns_86 : decode cX5_turns 86 = .ok (.iastore, 1) := by decide +kernel
theorem dX5_turns_87 : decode cX5_turns 87 = .ok (.iload_n 3, 1) := by decide +kernel
theorem dX5_turns_88 : decode cX5_turns 88 = .ok (.ireturn, 1) := by decide +kernel
theorem dX5_litBy_0 : decode cX5_litBy 0 = .ok (.aload_n 0, 1) := by decide +kernel
theorem dX5_litBy_1 : decode cX5_litBy 1 = .ok (.iconst 3, 1) := by decide +kernel
theorem dX5_litBy_2 : decode cX5_litBy 2 = .ok (.iaload, 1) := by decide +kernel
theorem dX5_litBy_3 : decode cX5_litBy 3 = .ok (.iconst 1, 1) := by decide +kernel
theorem dX5_litBy_4 : decode cX5_litBy 4 = .ok (.if_icmp .ne 16, 3) := by decide +kernel
theorem dX5_litBy_7 : decode cX5_litBy 7 = .ok (.iload_n 1, 1) := by decide +kernel
theorem dX5_litBy_8 : decode cX5_litBy 8 = .ok (.iload_n 2, 1) := by decide +kernel
theorem dX5_litBy_9 : decode cX5_litBy 9 = .ok (.if_icmp .ne 7, 3) := by decide +kernel
theorem dX5_litBy_12 : decode cX5_litBy 12 = .ok (.iload_n 3, 1) := by decide +kernel
theorem dX5_litBy_13 : decode cX5_litBy 13 = .ok (.ifCond .ne 7, 3) := by decide +kernel
theorem dX5_litBy_16 : decode cX5_litBy 16 = .ok (.iconst (-1), 1) := by decide +kernel
theorem dX5_litBy_17 : decode cX5_litBy 17 = .ok (.goto 4, 3) := by decide +kernel
theorem dX5_litBy_20 : decode cX5_litBy 20 = .ok (.iload_n 1, 1) := by decide +kernel
theorem dX5_litBy_21 : decode cX5_litBy 21 = .ok (.ireturn, 1) := by decide +kernel
set_option maxRecDepth 20000 in
theorem ggX5_frames_X5_turns : GoodIn wsX5_frames wsX5_turns := goodIn_r _ [8, 9, 10, 7, 11] (by decide +kernel) (by decide +kernel)
set_option maxRecDepth 20000 in
theorem gX5_frames_X5_turns : GoodIn wsX5_frames (va_wsS RX5 59 yX5_turns wsX5_turns) := goodIn_app (goodIn_of _ (by decide +kernel)) ggX5_frames_X5_turns
set_option maxRecDepth 20000 in
theorem ggX5_frames_X5_litBy : GoodIn wsX5_frames wsX5_litBy := goodIn_r _ [14] (by decide +kernel) (by decide +kernel)
set_option maxRecDepth 20000 in
theorem gX5_frames_X5_litBy : GoodIn wsX5_frames (va_wsS RX5 63 yX5_litBy wsX5_litBy) := goodIn_app (goodIn_of _ (by decide +kernel)) ggX5_frames_X5_litBy
theorem dX5_frames_0 : decode cX5_frames 0 = .ok (.aload_n 0, 1) := by decide +kernel
theorem dX5_frames_1 : decode cX5_frames 1 = .ok (.aload_n 1, 1) := by decide +kernel
theorem dX5_frames_2 : decode cX5_frames 2 = .ok (.iconst 2, 1) := by decide +kernel
theorem dX5_frames_3 : decode cX5_frames 3 = .ok (.iaload, 1) := by decide +kernel
theorem dX5_frames_4 : decode cX5_frames 4 = .ok (.putfield 56, 3) := by decide +kernel
theorem dX5_frames_7 : decode cX5_frames 7 = .ok (.iconst 0, 1) := by decide +kernel
theorem dX5_frames_8 : decode cX5_frames 8 = .ok (.istore_n 2, 1) := by decide +kernel
theorem dX5_frames_9 : decode cX5_frames 9 = .ok (.iload_n 2, 1) := by decide +kernel
theorem dX5_frames_10 : decode cX5_frames 10 = .ok (.bipush 6, 2) := by decide +kernel
theorem dX5_frames_12 : decode cX5_frames 12 = .ok (.if_icmp .ge 21, 3) := by decide +kernel
theorem dX5_frames_15 : decode cX5_frames 15 = .ok (.aload_n 0, 1) := by decide +kernel
theorem dX5_frames_16 : decode cX5_frames 16 = .ok (.getfield 34, 3) := by decide +kernel
theorem dX5_frames_19 : decode cX5_frames 19 = .ok (.iload_n 2, 1) := by decide +kernel
theorem dX5_frames_20 : decode cX5_frames 20 = .ok (.aload_n 1, 1) := by decide +kernel
theorem dX5_frames_21 : decode cX5_frames 21 = .ok (.bipush 26, 2) := by decide +kernel
theorem dX5_frames_23 : decode cX5_frames 23 = .ok (.iload_n 2, 1) := by decide +kernel
theorem dX5_frames_24 : decode cX5_frames 24 = .ok (.iadd, 1) := by decide +kernel
theorem dX5_frames_25 : decode cX5_frames 25 = .ok (.iaload, 1) := by decide +kernel
theorem dX5_frames_26 : decode cX5_frames 26 = .ok (.iastore, 1) := by decide +kernel
theorem dX5_frames_27 : decode cX5_frames 27 = .ok (.iinc 2 1, 3) := by decide +kernel
theorem dX5_frames_30 : decode cX5_frames 30 = .ok (.goto (-21), 3) := by decide +kernel
theorem dX5_frames_33 : decode cX5_frames 33 = .ok (.iconst 0, 1) := by decide +kernel
theorem dX5_frames_34 : decode cX5_frames 34 = .ok (.istore_n 2, 1) := by decide +kernel
theorem dX5_frames_35 : decode cX5_frames 35 = .ok (.iload_n 2, 1) := by decide +kernel
theorem dX5_frames_36 : decode cX5_frames 36 = .ok (.aload_n 0, 1) := by decide +kernel
theorem dX5_frames_37 : decode cX5_frames 37 = .ok (.getfield 56, 3) := by decide +kernel
theorem dX5_frames_40 : decode cX5_frames 40 = .ok (.if_icmp .ge 64, 3) := by decide +kernel
theorem dX5_frames_43 : decode cX5_frames 43 = .ok (.aload_n 0, 1) := by decide +kernel
theorem dX5_frames_44 : decode cX5_frames 44 = .ok (.getfield 28, 3) := by decide +kernel
theorem dX5_frames_47 : decode cX5_frames 47 = .ok (.iload_n 2, 1) := by decide +kernel
theorem dX5_frames_48 : decode cX5_frames 48 = .ok (.aload_n 1, 1) := by decide +kernel
theorem dX5_frames_49 : decode cX5_frames 49 = .ok (.aload_n 0, 1) := by decide +kernel
theorem dX5_frames_50 : decode cX5_frames 50 = .ok (.getfield 34, 3) := by decide +kernel
theorem dX5_frames_53 : decode cX5_frames 53 = .ok (.iconst 0, 1) := by decide +kernel
theorem dX5_frames_54 : decode cX5_frames 54 = .ok (.invokestatic 59, 3) := by decide +kernel
theorem dX5_frames_57 : decode cX5_frames 57 = .ok (.iastore, 1) := by decide +kernel
theorem dX5_frames_58 : decode cX5_frames 58 = .ok (.aload_n 0, 1) := by decide +kernel
theorem dX5_frames_59 : decode cX5_frames 59 = .ok (.getfield 31, 3) := by decide +kernel
theorem dX5_frames_62 : decode cX5_frames 62 = .ok (.iload_n 2, 1) := by decide +kernel
theorem dX5_frames_63 : decode cX5_frames 63 = .ok (.aload_n 1, 1) := by decide +kernel
theorem dX5_frames_64 : decode cX5_frames 64 = .ok (.aload_n 0, 1) := by decide +kernel
theorem dX5_frames_65 : decode cX5_frames 65 = .ok (.getfield 28, 3) := by decide +kernel
theorem dX5_frames_68 : decode cX5_frames 68 = .ok (.iload_n 2, 1) := by decide +kernel
theorem dX5_frames_69 : decode cX5_frames 69 = .ok (.iaload, 1) := by decide +kernel
theorem dX5_frames_70 : decode cX5_frames 70 = .ok (.iload_n 2, 1) := by decide +kernel
theorem dX5_frames_71 : decode cX5_frames 71 = .ok (.ifCond .ne 10, 3) := by decide +kernel
theorem dX5_frames_74 : decode cX5_frames 74 = .ok (.aload_n 1, 1) := by decide +kernel
theorem dX5_frames_75 : decode cX5_frames 75 = .ok (.bipush 7, 2) := by decide +kernel
theorem dX5_frames_77 : decode cX5_frames 77 = .ok (.iaload, 1) := by decide +kernel
theorem dX5_frames_78 : decode cX5_frames 78 = .ok (.goto 11, 3) := by decide +kernel
theorem dX5_frames_81 : decode cX5_frames 81 = .ok (.aload_n 0, 1) := by decide +kernel
theorem dX5_frames_82 : decode cX5_frames 82 = .ok (.getfield 28, 3) := by decide +kernel
theorem dX5_frames_85 : decode cX5_frames 85 = .ok (.iload_n 2, 1) := by decide +kernel
theorem dX5_frames_86 : decode cX5_frames 86 = .ok (.iconst 1, 1) := by decide +kernel
theorem dX5_frames_87 : decode cX5_frames 87 = .ok (.isub, 1) := by decide +kernel
theorem dX5_frames_88 : decode cX5_frames 88 = .ok (.iaload, 1) := by decide +kernel
theorem dX5_frames_89 : decode cX5_frames 89 = .ok (.aload_n 1, 1) := by decide +kernel
theorem dX5_frames_90 : decode cX5_frames 90 = .ok (.iconst 0, 1) := by decide +kernel
theorem dX5_frames_91 : decode cX5_frames 91 = .ok (.iaload, 1) := by decide +kernel
theorem dX5_frames_92 : decode cX5_frames 92 = .ok (.iload_n 2, 1) := by decide +kernel
theorem dX5_frames_93 : decode cX5_frames 93 = .ok (.iadd, 1) := by decide +kernel
theorem dX5_frames_94 : decode cX5_frames 94 = .ok (.invokestatic 63, 3) := by decide +kernel
theorem dX5_frames_97 : decode cX5_frames 97 = .ok (.iastore, 1) := by decide +kernel
theorem dX5_frames_98 : decode cX5_frames 98 = .ok (.iinc 2 1, 3) := by decide +kernel
theorem dX5_frames_101 : decode cX5_frames 101 = .ok (.goto (-66), 3) := by decide +kernel
theorem dX5_frames_104 : decode cX5_frames 104 = .ok (.return_, 1) := by decide +kernel
theorem dX5_light_0 : decode cX5_light 0 = .ok (.iconst 0, 1) := by decide +kernel
theorem dX5_light_1 : decode cX5_light 1 = .ok (.istore_n 2, 1) := by decide +kernel
theorem dX5_light_2 : decode cX5_light 2 = .ok (.iconst 0, 1) := by decide +kernel
theorem dX5_light_3 : decode cX5_light 3 = .ok (.istore_n 3, 1) := by decide +kernel
theorem dX5_light_4 : decode cX5_light 4 = .ok (.iload_n 3, 1) := by decide +kernel
theorem dX5_light_5 : decode cX5_light 5 = .ok (.aload_n 0, 1) := by decide +kernel
theorem dX5_light_6 : decode cX5_light 6 = .ok (.getfield 56, 3) := by decide +kernel
theorem dX5_light_9 : decode cX5_light 9 = .ok (.if_icmp .ge 27, 3) := by decide +kernel
theorem dX5_light_12 : decode cX5_light 12 = .ok (.iload_n 2, 1) := by decide +kernel
theorem dX5_light_13 : decode cX5_light 13 = .ok (.aload_n 0, 1) := by decide +kernel
theorem dX5_light_14 : decode cX5_light 14 = .ok (.getfield 31, 3) := by decide +kernel
theorem dX5_light_17 : decode cX5_light 17 = .ok (.iload_n 3, 1) := by decide +kernel
theorem dX5_light_18 : decode cX5_light 18 = .ok (.iaload, 1) := by decide +kernel
theorem dX5_light_19 : decode cX5_light 19 = .ok (.iload_n 1, 1) := by decide +kernel
theorem dX5_light_20 : decode cX5_light 20 = .ok (.if_icmp .ne 7, 3) := by decide +kernel
theorem dX5_light_23 : decode cX5_light 23 = .ok (.iconst 1, 1) := by decide +kernel
theorem dX5_light_24 : decode cX5_light 24 = .ok (.goto 4, 3) := by decide +kernel
theorem dX5_light_27 : decode cX5_light 27 = .ok (.iconst 0, 1) := by decide +kernel
theorem dX5_light_28 : decode cX5_light 28 = .ok (.iadd, 1) := by decide +kernel
theorem dX5_light_29 : decode cX5_light 29 = .ok (.istore_n 2, 1) := by decide +kernel
theorem dX5_light_30 : decode cX5_light 30 = .ok (.iinc 3 1, 3) := by decide +kernel
theorem dX5_light_33 : decode cX5_light 33 = .ok (.goto (-29), 3) := by decide +kernel
theorem dX5_light_36 : decode cX5_light 36 = .ok (.iload_n 2, 1) := by decide +kernel
theorem dX5_light_37 : decode cX5_light 37 = .ok (.sipush 1000, 3) := by decide +kernel
theorem dX5_light_40 : decode cX5_light 40 = .ok (.imul, 1) := by decide +kernel
theorem dX5_light_41 : decode cX5_light 41 = .ok (.aload_n 0, 1) := by decide +kernel
theorem dX5_light_42 : decode cX5_light 42 = .ok (.getfield 56, 3) := by decide +kernel
theorem dX5_light_45 : decode cX5_light 45 = .ok (.idiv, 1) := by decide +kernel
theorem dX5_light_46 : decode cX5_light 46 = .ok (.ireturn, 1) := by decide +kernel
theorem dX5_gap_0 : decode cX5_gap 0 = .ok (.iconst 0, 1) := by decide +kernel
theorem dX5_gap_1 : decode cX5_gap 1 = .ok (.istore_n 2, 1) := by decide +kernel
theorem dX5_gap_2 : decode cX5_gap 2 = .ok (.iconst 0, 1) := by decide +kernel
theorem dX5_gap_3 : decode cX5_gap 3 = .ok (.istore_n 3, 1) := by decide +kernel
theorem dX5_gap_4 : decode cX5_gap 4 = .ok (.iconst 0, 1) := by decide +kernel
theorem dX5_gap_5 : decode cX5_gap 5 = .ok (.istore 4, 2) := by decide +kernel
theorem dX5_gap_7 : decode cX5_gap 7 = .ok (.iload 4, 2) := by decide +kernel
theorem dX5_gap_9 : decode cX5_gap 9 = .ok (.aload_n 0, 1) := by decide +kernel
theorem dX5_gap_10 : decode cX5_gap 10 = .ok (.getfield 56, 3) := by decide +kernel
theorem dX5_gap_13 : decode cX5_gap 13 = .ok (.if_icmp .ge 39, 3) := by decide +kernel
theorem dX5_gap_16 : decode cX5_gap 16 = .ok (.aload_n 0, 1) := by decide +kernel
theorem dX5_gap_17 : decode cX5_gap 17 = .ok (.getfield 31, 3) := by decide +kernel
theorem dX5_gap_20 : decode cX5_gap 20 = .ok (.iload 4, 2) := by decide +kernel
theorem dX5_gap_22 : decode cX5_gap 22 = .ok (.iaload, 1) := by decide +kernel
theorem dX5_gap_23 : decode cX5_gap 23 = .ok (.iload_n 1, 1) := by decide +kernel
theorem dX5_gap_24 : decode cX5_gap 24 = .ok (.if_icmp .ne 7, 3) := by decide +kernel
theorem dX5_gap_27 : decode cX5_gap 27 = .ok (.iconst 0, 1) := by decide +kernel
theorem dX5_gap_28 : decode cX5_gap 28 = .ok (.goto 6, 3) := by decide +kernel
theorem dX5_gap_31 : decode cX5_gap 31 = .ok (.iload_n 3, 1) := by decide +kernel
theorem dX5_gap_32 : decode cX5_gap 32 = .ok (.iconst 1, 1) := by decide +kernel
theorem dX5_gap_33 : decode cX5_gap 33 = .ok (.iadd, 1) := by decide +kernel
theorem dX5_gap_34 : decode cX5_gap 34 = .ok (.istore_n 3, 1) := by decide +kernel
theorem dX5_gap_35 : decode cX5_gap 35 = .ok (.iload_n 3, 1) := by decide +kernel
theorem dX5_gap_36 : decode cX5_gap 36 = .ok (.iload_n 2, 1) := by decide +kernel
theorem dX5_gap_37 : decode cX5_gap 37 = .ok (.if_icmp .le 7, 3) := by decide +kernel
theorem dX5_gap_40 : decode cX5_gap 40 = .ok (.iload_n 3, 1) := by decide +kernel
theorem dX5_gap_41 : decode cX5_gap 41 = .ok (.goto 4, 3) := by decide +kernel
theorem dX5_gap_44 : decode cX5_gap 44 = .ok (.iload_n 2, 1) := by decide +kernel
theorem dX5_gap_45 : decode cX5_gap 45 = .ok (.istore_n 2, 1) := by decide +kernel
theorem dX5_gap_46 : decode cX5_gap 46 = .ok (.iinc 4 1, 3) := by decide +kernel
theorem dX5_gap_49 : decode cX5_gap 49 = .ok (.goto (-42), 3) := by decide +kernel
theorem dX5_gap_52 : decode cX5_gap 52 = .ok (.iload_n 2, 1) := by decide +kernel
theorem dX5_gap_53 : decode cX5_gap 53 = .ok (.ireturn, 1) := by decide +kernel
set_option maxRecDepth 20000 in
theorem ggX5_flickers_X5_gap : GoodIn wsX5_flickers wsX5_gap := goodIn_r _ [6, 1, 7, 8, 9, 10, 11, 12, 13, 14, 15, 16, 17, 18, 19, 20, 21, 22, 23] (by decide +kernel) (by decide +kernel)
set_option maxRecDepth 20000 in
theorem gX5_flickers_X5_gap : GoodIn wsX5_flickers (wsV RX5 67 RX5 yX5_gap wsX5_gap) := goodIn_app (goodIn_of _ (by decide +kernel)) ggX5_flickers_X5_gap
theorem dX5_flickers_0 : decode cX5_flickers 0 = .ok (.aload_n 0, 1) := by decide +kernel
theorem dX5_flickers_1 : decode cX5_flickers 1 = .ok (.iload_n 2, 1) := by decide +kernel
theorem dX5_flickers_2 : decode cX5_flickers 2 = .ok (.invokevirtual 67, 3) := by decide +kernel
theorem dX5_flickers_5 : decode cX5_flickers 5 = .ok (.istore_n 3, 1) := by decide +kernel
theorem dX5_flickers_6 : decode cX5_flickers 6 = .ok (.iload_n 3, 1) := by decide +kernel
theorem dX5_flickers_7 : decode cX5_flickers 7 = .ok (.aload_n 0, 1) := by decide +kernel
theorem dX5_flickers_8 : decode cX5_flickers 8 = .ok (.getfield 56, 3) := by decide +kernel
theorem dX5_flickers_11 : decode cX5_flickers 11 = .ok (.if_icmp .ge 14, 3) := by decide +kernel
theorem dX5_flickers_14 : decode cX5_flickers 14 = .ok (.iload_n 3, 1) := by decide +kernel
theorem dX5_flickers_15 : decode cX5_flickers 15 = .ok (.aload_n 1, 1) := by decide +kernel
theorem dX5_flickers_16 : decode cX5_flickers 16 = .ok (.iconst 4, 1) := by decide +kernel
theorem dX5_flickers_17 : decode cX5_flickers 17 = .ok (.iaload, 1) := by decide +kernel
theorem dX5_flickers_18 : decode cX5_flickers 18 = .ok (.if_icmp .le 7, 3) := by decide +kernel
theorem dX5_flickers_21 : decode cX5_flickers 21 = .ok (.iconst 1, 1) := by decide +kernel
theorem dX5_flickers_22 : decode cX5_flickers 22 = .ok (.goto 4, 3) := by decide +kernel
theorem dX5_flickers_25 : decode cX5_flickers 25 = .ok (.iconst 0, 1) := by decide +kernel
theorem dX5_flickers_26 : decode cX5_flickers 26 = .ok (.ireturn, 1) := by decide +kernel
set_option maxRecDepth 20000 in
theorem ggX5_isSeen_X5_light : GoodIn wsX5_isSeen wsX5_light := goodIn_r _ [5, 6, 7, 16, 17, 18, 19, 20, 21, 22, 23, 24, 25, 26, 27, 28, 29, 30, 31] (by decide +kernel) (by decide +kernel)
set_option maxRecDepth 20000 in
theorem gX5_isSeen_X5_light : GoodIn wsX5_isSeen (wsV RX5 70 RX5 yX5_light wsX5_light) := goodIn_app (goodIn_of _ (by decide +kernel)) ggX5_isSeen_X5_light
set_option maxRecDepth 20000 in
theorem ggX5_isSeen_X5_flickers : GoodIn wsX5_isSeen wsX5_flickers := goodIn_r _ [11, 6, 12, 13, 14, 4, 15, 7, 16, 17, 18, 19, 20, 21, 22, 23, 24, 25, 26, 27, 28, 29, 30, 31] (by decide +kernel) (by decide +kernel)
set_option maxRecDepth 20000 in
theorem gX5_isSeen_X5_flickers : GoodIn wsX5_isSeen (wsV RX5 73 RX5 yX5_flickers wsX5_flickers) := goodIn_app (goodIn_of _ (by decide +kernel)) ggX5_isSeen_X5_flickers
theorem dX5_isSeen_0 : decode cX5_isSeen 0 = .ok (.aload_n 0, 1) := by decide +kernel
theorem dX5_isSeen_1 : decode cX5_isSeen 1 = .ok (.iload_n 2, 1) := by decide +kernel
theorem dX5_isSeen_2 : decode cX5_isSeen 2 = .ok (.invokevirtual 70, 3) := by decide +kernel
theorem dX5_isSeen_5 : decode cX5_isSeen 5 = .ok (.istore_n 3, 1) := by decide +kernel
theorem dX5_isSeen_6 : decode cX5_isSeen 6 = .ok (.iload_n 3, 1) := by decide +kernel
theorem dX5_isSeen_7 : decode cX5_isSeen 7 = .ok (.ifCond .le 27, 3) := by decide +kernel
theorem dX5_isSeen_10 : decode cX5_isSeen 10 = .ok (.iload_n 3, 1) := by decide +kernel
theorem dX5_isSeen_11 : decode cX5_isSeen 11 = .ok (.aload_n 1, 1) := by decide +kernel
theorem dX5_isSeen_12 : decode cX5_isSeen 12 = .ok (.iconst 5, 1) := by decide +kernel
theorem dX5_isSeen_13 : decode cX5_isSeen 13 = .ok (.iaload, 1) := by decide +kernel
theorem dX5_isSeen_14 : decode cX5_isSeen 14 = .ok (.aload_n 1, 1) := by decide +kernel
theorem dX5_isSeen_15 : decode cX5_isSeen 15 = .ok (.iconst 1, 1) := by decide +kernel
theorem dX5_isSeen_16 : decode cX5_isSeen 16 = .ok (.iaload, 1) := by decide +kernel
theorem dX5_isSeen_17 : decode cX5_isSeen 17 = .ok (.imul, 1) := by decide +kernel
theorem dX5_isSeen_18 : decode cX5_isSeen 18 = .ok (.if_icmp .lt 16, 3) := by decide +kernel
theorem dX5_isSeen_21 : decode cX5_isSeen 21 = .ok (.aload_n 0, 1) := by decide +kernel
theorem dX5_isSeen_22 : decode cX5_isSeen 22 = .ok (.aload_n 1, 1) := by decide +kernel
theorem dX5_isSeen_23 : decode cX5_isSeen 23 = .ok (.iload_n 2, 1) := by decide +kernel
theorem dX5_isSeen_24 : decode cX5_isSeen 24 = .ok (.invokevirtual 73, 3) := by decide +kernel
theorem dX5_isSeen_27 : decode cX5_isSeen 27 = .ok (.ifCond .ne 7, 3) := by decide +kernel
theorem dX5_isSeen_30 : decode cX5_isSeen 30 = .ok (.iconst 1, 1) := by decide +kernel
theorem dX5_isSeen_31 : decode cX5_isSeen 31 = .ok (.goto 4, 3) := by decide +kernel
theorem dX5_isSeen_34 : decode cX5_isSeen 34 = .ok (.iconst 0, 1) := by decide +kernel
theorem dX5_isSeen_35 : decode cX5_isSeen 35 = .ok (.ireturn, 1) := by decide +kernel
set_option maxRecDepth 20000 in
theorem ggX5_readable_X5_shownAs : GoodIn wsX5_readable wsX5_shownAs := goodIn_r _ [6, 7, 1, 8, 9, 10, 11, 12, 13, 14, 15, 16, 17, 18, 19, 20, 21, 22, 23] (by decide +kernel) (by decide +kernel)
set_option maxRecDepth 20000 in
theorem gX5_readable_X5_shownAs : GoodIn wsX5_readable (wsV RX5 77 RX5 yX5_shownAs wsX5_shownAs) := goodIn_app (goodIn_of _ (by decide +kernel)) ggX5_readable_X5_shownAs
theorem dX5_readable_0 : decode cX5_readable 0 = .ok (.iconst 0, 1) := by decide +kernel
theorem dX5_readable_1 : decode cX5_readable 1 = .ok (.istore_n 2, 1) := by decide +kernel
theorem dX5_readable_2 : decode cX5_readable 2 = .ok (.iconst 0, 1) := by decide +kernel
theorem dX5_readable_3 : decode cX5_readable 3 = .ok (.istore_n 3, 1) := by decide +kernel
theorem dX5_readable_4 : decode cX5_readable 4 = .ok (.iload_n 3, 1) := by decide +kernel
theorem dX5_readable_5 : decode cX5_readable 5 = .ok (.bipush 12, 2) := by decide +kernel
theorem dX5_readable_7 : decode cX5_readable 7 = .ok (.if_icmp .ge 42, 3) := by decide +kernel
theorem dX5_readable_10 : decode cX5_readable 10 = .ok (.iload_n 2, 1) := by decide +kernel
theorem dX5_readable_11 : decode cX5_readable 11 = .ok (.aload_n 0, 1) := by decide +kernel
theorem dX5_readable_12 : decode cX5_readable 12 = .ok (.iload_n 1, 1) := by decide +kernel
theorem dX5_readable_13 : decode cX5_readable 13 = .ok (.iload_n 3, 1) := by decide +kernel
theorem dX5_readable_14 : decode cX5_readable 14 = .ok (.invokevirtual 77, 3) := by decide +kernel
theorem dX5_readable_17 : decode cX5_readable 17 = .ok (.aload_n 0, 1) := by decide +kernel
theorem dX5_readable_18 : decode cX5_readable 18 = .ok (.iload_n 1, 1) := by decide +kernel
theorem dX5_readable_19 : decode cX5_readable 19 = .ok (.aload_n 0, 1) := by decide +kernel
theorem dX5_readable_20 : decode cX5_readable 20 = .ok (.getfield 13, 3) := by decide +kernel
theorem dX5_readable_23 : decode cX5_readable 23 = .ok (.bipush 8, 2) := by decide +kernel
theorem dX5_readable_25 : decode cX5_readable 25 = .ok (.iload_n 1, 1) := by decide +kernel
theorem dX5_readable_26 : decode cX5_readable 26 = .ok (.iadd, 1) := by decide +kernel
theorem dX5_readable_27 : decode cX5_readable 27 = .ok (.iaload, 1) := by decide +kernel
theorem dX5_readable_28 : decode cX5_readable 28 = .ok (.invokevirtual 77, 3) := by decide +kernel
theorem dX5_readable_31 : decode cX5_readable 31 = .ok (.if_icmp .ne 9, 3) := by decide +kernel
theorem dX5_readable_34 : decode cX5_readable 34 = .ok (.iconst 1, 1) := by decide +kernel
theorem dX5_readable_35 : decode cX5_readable 35 = .ok (.iload_n 3, 1) := by decide +kernel
theorem dX5_readable_36 : decode cX5_readable 36 = .ok (.ishl, 1) := by decide +kernel
theorem dX5_readable_37 : decode cX5_readable 37 = .ok (.goto 4, 3) := by decide +kernel
theorem dX5_readable_40 : decode cX5_readable 40 = .ok (.iconst 0, 1) := by decide +kernel
theorem dX5_readable_41 : decode cX5_readable 41 = .ok (.ior, 1) := by decide +kernel
theorem dX5_readable_42 : decode cX5_readable 42 = .ok (.istore_n 2, 1) := by decide +kernel
theorem dX5_readable_43 : decode cX5_readable 43 = .ok (.iinc 3 1, 3) := by decide +kernel
theorem dX5_readable_46 : decode cX5_readable 46 = .ok (.goto (-42), 3) := by decide +kernel
theorem dX5_readable_49 : decode cX5_readable 49 = .ok (.iload_n 2, 1) := by decide +kernel
theorem dX5_readable_50 : decode cX5_readable 50 = .ok (.ireturn, 1) := by decide +kernel
set_option maxRecDepth 20000 in
theorem ggX5_isClear_X5_readable : GoodIn wsX5_isClear wsX5_readable := goodIn_r _ [6, 1, 7, 8, 9, 5, 10, 11, 30, 31, 32, 33, 34, 35, 36, 37, 38, 39, 40, 41, 42, 43, 44, 45] (by decide +kernel) (by decide +kernel)
set_option maxRecDepth 20000 in
theorem gX5_isClear_X5_readable : GoodIn wsX5_isClear (wsV RX5 81 RX5 yX5_readable wsX5_readable) := goodIn_app (goodIn_of _ (by decide +kernel)) ggX5_isClear_X5_readable
set_option maxRecDepth 20000 in
theorem ggX5_isClear_X5_isSeen : GoodIn wsX5_isClear wsX5_isSeen := goodIn_r _ [15, 16, 17, 18, 5, 19, 20, 21, 22, 23, 24, 25, 26, 27, 28, 29, 30, 31, 32, 33, 34, 35, 36, 37, 38, 39, 40, 41, 42, 43, 44, 45] (by decide +kernel) (by decide +kernel)
set_option maxRecDepth 20000 in
theorem gX5_isClear_X5_isSeen : GoodIn wsX5_isClear (wsV RX5 84 RX5 yX5_isSeen wsX5_isSeen) := goodIn_app (goodIn_of _ (by decide +kernel)) ggX5_isClear_X5_isSeen
theorem dX5_isClear_0 : decode cX5_isClear 0 = .ok (.aload_n 0, 1) := by decide +kernel
theorem dX5_isClear_1 : decode cX5_isClear 1 = .ok (.iload_n 1, 1) := by decide +kernel
theorem dX5_isClear_2 : decode cX5_isClear 2 = .ok (.invokevirtual 81, 3) := by decide +kernel
theorem dX5_isClear_5 : decode cX5_isClear 5 = .ok (.istore_n 2, 1) := by decide +kernel
theorem dX5_isClear_6 : decode cX5_isClear 6 = .ok (.aload_n 0, 1) := by decide +kernel
theorem dX5_isClear_7 : decode cX5_isClear 7 = .ok (.aload_n 0, 1) := by decide +kernel
theorem dX5_isClear_8 : decode cX5_isClear 8 = .ok (.getfield 13, 3) := by decide +kernel
theorem dX5_isClear_11 : decode cX5_isClear 11 = .ok (.iload_n 1, 1) := by decide +kernel
theorem dX5_isClear_12 : decode cX5_isClear 12 = .ok (.invokevirtual 84, 3) := by decide +kernel
theorem dX5_isClear_15 : decode cX5_isClear 15 = .ok (.ifCond .eq 15, 3) := by decide +kernel
theorem dX5_isClear_18 : decode cX5_isClear 18 = .ok (.iload_n 2, 1) := by decide +kernel
theorem dX5_isClear_19 : decode cX5_isClear 19 = .ok (.iload_n 2, 1) := by decide +kernel
theorem dX5_isClear_20 : decode cX5_isClear 20 = .ok (.iconst 1, 1) := by decide +kernel
theorem dX5_isClear_21 : decode cX5_isClear 21 = .ok (.isub, 1) := by decide +kernel
theorem dX5_isClear_22 : decode cX5_isClear 22 = .ok (.iand, 1) := by decide +kernel
theorem dX5_isClear_23 : decode cX5_isClear 23 = .ok (.ifCond .ne 7, 3) := by decide +kernel
theorem dX5_isClear_26 : decode cX5_isClear 26 = .ok (.iconst 1, 1) := by decide +kernel
theorem dX5_isClear_27 : decode cX5_isClear 27 = .ok (.goto 4, 3) := by decide +kernel
theorem dX5_isClear_30 : decode cX5_isClear 30 = .ok (.iconst 0, 1) := by decide +kernel
theorem dX5_isClear_31 : decode cX5_isClear 31 = .ok (.ireturn, 1) := by decide +kernel
theorem dX5_ones_0 : decode cX5_ones 0 = .ok (.iconst 0, 1) := by decide +kernel
theorem dX5_ones_1 : decode cX5_ones 1 = .ok (.istore_n 1, 1) := by decide +kernel
theorem dX5_ones_2 : decode cX5_ones 2 = .ok (.iload_n 0, 1) := by decide +kernel
theorem dX5_ones_3 : decode cX5_ones 3 = .ok (.istore_n 2, 1) := by decide +kernel
theorem dX5_ones_4 : decode cX5_ones 4 = .ok (.iload_n 2, 1) := by decide +kernel
theorem dX5_ones_5 : decode cX5_ones 5 = .ok (.ifCond .eq 15, 3) := by decide +kernel
theorem dX5_ones_8 : decode cX5_ones 8 = .ok (.iinc 1 1, 3) := by decide +kernel
theorem dX5_ones_11 : decode cX5_ones 11 = .ok (.iload_n 2, 1) := by decide +kernel
theorem dX5_ones_12 : decode cX5_ones 12 = .ok (.iload_n 2, 1) := by decide +kernel
theorem dX5_ones_13 : decode cX5_ones 13 = .ok (.iconst 1, 1) := by decide +kernel
theorem dX5_ones_14 : decode cX5_ones 14 = .ok (.isub, 1) := by decide +kernel
theorem dX5_ones_15 : decode cX5_ones 15 = .ok (.iand, 1) := by decide +kernel
theorem dX5_ones_16 : decode cX5_ones 16 = .ok (.istore_n 2, 1) := by decide +kernel
theorem dX5_ones_17 : decode cX5_ones 17 = .ok (.goto (-13), 3) := by decide +kernel
theorem dX5_ones_20 : decode cX5_ones 20 = .ok (.iload_n 1, 1) := by decide +kernel
theorem dX5_ones_21 : decode cX5_ones 21 = .ok (.ireturn, 1) := by decide +kernel
theorem dX5_changes_0 : decode cX5_changes 0 = .ok (.aload_n 0, 1) := by decide +kernel
theorem dX5_changes_1 : decode cX5_changes 1 = .ok (.getfield 13, 3) := by decide +kernel
theorem dX5_changes_4 : decode cX5_changes 4 = .ok (.iload_n 1, 1) := by decide +kernel
theorem dX5_changes_5 : decode cX5_changes 5 = .ok (.iaload, 1) := by decide +kernel
theorem dX5_changes_6 : decode cX5_changes 6 = .ok (.istore_n 3, 1) := by decide +kernel
theorem dX5_changes_7 : decode cX5_changes 7 = .ok (.aload_n 0, 1) := by decide +kernel
theorem dX5_changes_8 : decode cX5_changes 8 = .ok (.getfield 13, 3) := by decide +kernel
theorem dX5_changes_11 : decode cX5_changes 11 = .ok (.iload_n 1, 1) := by decide +kernel
theorem dX5_changes_12 : decode cX5_changes 12 = .ok (.iload_n 2, 1) := by decide +kernel
theorem dX5_changes_13 : decode cX5_changes 13 = .ok (.iastore, 1) := by decide +kernel
theorem dX5_changes_14 : decode cX5_changes 14 = .ok (.iload_n 3, 1) := by decide +kernel
theorem dX5_changes_15 : decode cX5_changes 15 = .ok (.ireturn, 1) := by decide +kernel
theorem dX5_noCredits_0 : decode cX5_noCredits 0 = .ok (.iconst 0, 1) := by decide +kernel
theorem dX5_noCredits_1 : decode cX5_noCredits 1 = .ok (.istore_n 1, 1) := by decide +kernel
theorem dX5_noCredits_2 : decode cX5_noCredits 2 = .ok (.iload_n 1, 1) := by decide +kernel
theorem dX5_noCredits_3 : decode cX5_noCredits 3 = .ok (.bipush 6, 2) := by decide +kernel
theorem dX5_noCredits_5 : decode cX5_noCredits 5 = .ok (.if_icmp .ge 19, 3) := by decide +kernel
theorem dX5_noCredits_8 : decode cX5_noCredits 8 = .ok (.aload_n 0, 1) := by decide +kernel
theorem dX5_noCredits_9 : decode cX5_noCredits 9 = .ok (.getfield 13, 3) := by decide +kernel
theorem dX5_noCredits_12 : decode cX5_noCredits 12 = .ok (.bipush 26, 2) := by decide +kernel
theorem dX5_noCredits_14 : decode cX5_noCredits 14 = .ok (.iload_n 1, 1) := by decide +kernel
theorem dX5_noCredits_15 : decode cX5_noCredits 15 = .ok (.iadd, 1) := by decide +kernel
theorem dX5_noCredits_16 : decode cX5_noCredits 16 = .ok (.iconst 0, 1) := by decide +kernel
theorem dX5_noCredits_17 : decode cX5_noCredits 17 = .ok (.iastore, 1) := by decide +kernel
theorem dX5_noCredits_18 : decode cX5_noCredits 18 = .ok (.iinc 1 1, 3) := by decide +kernel
theorem dX5_noCredits_21 : decode cX5_noCredits 21 = .ok (.goto (-19), 3) := by decide +kernel
theorem dX5_noCredits_24 : decode cX5_noCredits 24 = .ok (.return_, 1) := by decide +kernel
set_option maxRecDepth 20000 in
theorem ggX5_show_X5_isDigit : GoodIn wsX5_show wsX5_isDigit := goodIn_r _ [5, 6, 7, 4, 8] (by decide +kernel) (by decide +kernel)
set_option maxRecDepth 20000 in
theorem gX5_show_X5_isDigit : GoodIn wsX5_show (va_wsS RX5 87 yX5_isDigit wsX5_isDigit) := goodIn_app (goodIn_of _ (by decide +kernel)) ggX5_show_X5_isDigit
set_option maxRecDepth 20000 in
theorem ggX5_show_X5_fails : GoodIn wsX5_show wsX5_fails := goodIn_r _ [12, 1, 27, 28, 29, 30, 31, 32, 33, 34, 35, 36, 37, 38, 39, 40, 41, 42] (by decide +kernel) (by decide +kernel)
set_option maxRecDepth 20000 in
theorem gX5_show_X5_fails : GoodIn wsX5_show (wsV RX5 48 RX5 yX5_fails wsX5_fails) := goodIn_app (goodIn_of _ (by decide +kernel)) ggX5_show_X5_fails
set_option maxRecDepth 20000 in
theorem ggX5_show_X5_isSign : GoodIn wsX5_show wsX5_isSign := goodIn_r _ [15, 6, 7, 4, 8] (by decide +kernel) (by decide +kernel)
set_option maxRecDepth 20000 in
theorem gX5_show_X5_isSign : GoodIn wsX5_show (va_wsS RX5 91 yX5_isSign wsX5_isSign) := goodIn_app (goodIn_of _ (by decide +kernel)) ggX5_show_X5_isSign
set_option maxRecDepth 20000 in
theorem ggX5_show_X5_saves : GoodIn wsX5_show wsX5_saves := goodIn_r _ [19, 20, 21, 22, 27, 28, 29, 30, 31, 32, 33, 34, 35, 36, 37, 38, 39, 40, 41, 42] (by decide +kernel) (by decide +kernel)
set_option maxRecDepth 20000 in
theorem gX5_show_X5_saves : GoodIn wsX5_show (wsV RX5 94 RX5 yX5_saves wsX5_saves) := goodIn_app (goodIn_of _ (by decide +kernel)) ggX5_show_X5_saves
set_option maxRecDepth 20000 in
theorem ggX5_show_X5_changes : GoodIn wsX5_show wsX5_changes := goodIn_r _ [26, 22, 27, 28, 29, 30, 31, 32, 33, 34, 35, 36, 37, 38, 39, 40, 41, 42] (by decide +kernel) (by decide +kernel)
set_option maxRecDepth 20000 in
theorem gX5_show_X5_changes : GoodIn wsX5_show (wsV RX5 97 RX5 yX5_changes wsX5_changes) := goodIn_app (goodIn_of _ (by decide +kernel)) ggX5_show_X5_changes
theorem dX5_show_0 : decode cX5_show 0 = .ok (.aload_n 0, 1) := by decide +kernel
theorem dX5_show_1 : decode cX5_show 1 = .ok (.iconst 0, 1) := by decide +kernel
theorem dX5_show_2 : decode cX5_show 2 = .ok (.putfield 37, 3) := by decide +kernel
theorem dX5_show_5 : decode cX5_show 5 = .ok (.iload_n 1, 1) := by decide +kernel
theorem dX5_show_6 : decode cX5_show 6 = .ok (.invokestatic 87, 3) := by decide +kernel
theorem dX5_show_9 : decode cX5_show 9 = .ok (.ifCond .ne 9, 3) := by decide +kernel
theorem dX5_show_12 : decode cX5_show 12 = .ok (.aload_n 0, 1) := by decide +kernel
theorem dX5_show_13 : decode cX5_show 13 = .ok (.iconst 1, 1) := by decide +kernel
theorem dX5_show_14 : decode cX5_show 14 = .ok (.invokevirtual 48, 3) := by decide +kernel
theorem dX5_show_17 : decode cX5_show 17 = .ok (.ireturn, 1) := by decide +kernel
theorem dX5_show_18 : decode cX5_show 18 = .ok (.iload_n 2, 1) := by decide +kernel
theorem dX5_show_19 : decode cX5_show 19 = .ok (.invokestatic 91, 3) := by decide +kernel
theorem dX5_show_22 : decode cX5_show 22 = .ok (.ifCond .ne 9, 3) := by decide +kernel
theorem dX5_show_25 : decode cX5_show 25 = .ok (.aload_n 0, 1) := by decide +kernel
theorem dX5_show_26 : decode cX5_show 26 = .ok (.iconst 2, 1) := by decide +kernel
theorem dX5_show_27 : decode cX5_show 27 = .ok (.invokevirtual 48, 3) := by decide +kernel
theorem dX5_show_30 : decode cX5_show 30 = .ok (.ireturn, 1) := by decide +kernel
theorem dX5_show_31 : decode cX5_show 31 = .ok (.aload_n 0, 1) := by decide +kernel
theorem dX5_show_32 : decode cX5_show 32 = .ok (.invokevirtual 94, 3) := by decide +kernel
theorem dX5_show_35 : decode cX5_show 35 = .ok (.aload_n 0, 1) := by decide +kernel
theorem dX5_show_36 : decode cX5_show 36 = .ok (.bipush 8, 2) := by decide +kernel
theorem dX5_show_38 : decode cX5_show 38 = .ok (.iload_n 1, 1) := by decide +kernel
theorem dX5_show_39 : decode cX5_show 39 = .ok (.iadd, 1) := by decide +kernel
theorem dX5_show_40 : decode cX5_show 40 = .ok (.iload_n 2, 1) := by decide +kernel
theorem dX5_show_41 : decode cX5_show 41 = .ok (.invokevirtual 97, 3) := by decide +kernel
theorem dX5_show_44 : decode cX5_show 44 = .ok (.ireturn, 1) := by decide +kernel
set_option maxRecDepth 20000 in
theorem ggX5_level_X5_isDigit : GoodIn wsX5_level wsX5_isDigit := goodIn_r _ [5, 6, 7, 4, 8] (by decide +kernel) (by decide +kernel)
set_option maxRecDepth 20000 in
theorem gX5_level_X5_isDigit : GoodIn wsX5_level (va_wsS RX5 87 yX5_isDigit wsX5_isDigit) := goodIn_app (goodIn_of _ (by decide +kernel)) ggX5_level_X5_isDigit
set_option maxRecDepth 20000 in
theorem ggX5_level_X5_fails : GoodIn wsX5_level wsX5_fails := goodIn_r _ [12, 1, 31, 32, 33, 34, 35, 36, 37, 38, 39, 40, 41, 42, 43, 44, 45, 46] (by decide +kernel) (by decide +kernel)
set_option maxRecDepth 20000 in
theorem gX5_level_X5_fails : GoodIn wsX5_level (wsV RX5 48 RX5 yX5_fails wsX5_fails) := goodIn_app (goodIn_of _ (by decide +kernel)) ggX5_level_X5_fails
set_option maxRecDepth 20000 in
theorem ggX5_level_X5_isLevel : GoodIn wsX5_level wsX5_isLevel := goodIn_r _ [15, 6, 7, 4, 8] (by decide +kernel) (by decide +kernel)
set_option maxRecDepth 20000 in
theorem gX5_level_X5_isLevel : GoodIn wsX5_level (va_wsS RX5 100 yX5_isLevel wsX5_isLevel) := goodIn_app (goodIn_of _ (by decide +kernel)) ggX5_level_X5_isLevel
set_option maxRecDepth 20000 in
theorem ggX5_level_X5_saves : GoodIn wsX5_level wsX5_saves := goodIn_r _ [19, 20, 21, 22, 31, 32, 33, 34, 35, 36, 37, 38, 39, 40, 41, 42, 43, 44, 45, 46] (by decide +kernel) (by decide +kernel)
set_option maxRecDepth 20000 in
theorem gX5_level_X5_saves : GoodIn wsX5_level (wsV RX5 94 RX5 yX5_saves wsX5_saves) := goodIn_app (goodIn_of _ (by decide +kernel)) ggX5_level_X5_saves
set_option maxRecDepth 20000 in
theorem ggX5_level_X5_noCredits : GoodIn wsX5_level wsX5_noCredits := goodIn_r _ [26, 22, 31, 32, 33, 34, 35, 36, 37, 38, 39, 40, 41, 42, 43, 44, 45, 46] (by decide +kernel) (by decide +kernel)
set_option maxRecDepth 20000 in
theorem gX5_level_X5_noCredits : GoodIn wsX5_level (wsV RX5 103 RX5 yX5_noCredits wsX5_noCredits) := goodIn_app (goodIn_of _ (by decide +kernel)) ggX5_level_X5_noCredits
set_option maxRecDepth 20000 in
theorem ggX5_level_X5_changes : GoodIn wsX5_level wsX5_changes := goodIn_r _ [30, 22, 31, 32, 33, 34, 35, 36, 37, 38, 39, 40, 41, 42, 43, 44, 45, 46] (by decide +kernel) (by decide +kernel)
set_option maxRecDepth 20000 in
theorem gX5_level_X5_changes : GoodIn wsX5_level (wsV RX5 97 RX5 yX5_changes wsX5_changes) := goodIn_app (goodIn_of _ (by decide +kernel)) ggX5_level_X5_changes
theorem dX5_level_0 : decode cX5_level 0 = .ok (.aload_n 0, 1) := by decide +kernel
theorem dX5_level_1 : decode cX5_level 1 = .ok (.iconst 0, 1) := by decide +kernel
theorem dX5_level_2 : decode cX5_level 2 = .ok (.putfield 37, 3) := by decide +kernel
theorem dX5_level_5 : decode cX5_level 5 = .ok (.iload_n 1, 1) := by decide +kernel
theorem dX5_level_6 : decode cX5_level 6 = .ok (.invokestatic 87, 3) := by decide +kernel
theorem dX5_level_9 : decode cX5_level 9 = .ok (.ifCond .ne 9, 3) := by decide +kernel
theorem dX5_level_12 : decode cX5_level 12 = .ok (.aload_n 0, 1) := by decide +kernel
theorem dX5_level_13 : decode cX5_level 13 = .ok (.iconst 1, 1) := by decide +kernel
theorem dX5_level_14 : decode cX5_level 14 = .ok (.invokevirtual 48, 3) := by decide +kernel
theorem dX5_level_17 : decode cX5_level 17 = .ok (.ireturn, 1) := by decide +kernel
theorem dX5_level_18 : decode cX5_level 18 = .ok (.iload_n 2, 1) := by decide +kernel
theorem dX5_level_19 : decode cX5_level 19 = .ok (.invokestatic 100, 3) := by decide +kernel
theorem dX5_level_22 : decode cX5_level 22 = .ok (.ifCond .ne 9, 3) := by decide +kernel
theorem dX5_level_25 : decode cX5_level 25 = .ok (.aload_n 0, 1) := by decide +kernel
theorem dX5_level_26 : decode cX5_level 26 = .ok (.iconst 2, 1) := by decide +kernel
theorem dX5_level_27 : decode cX5_level 27 = .ok (.invokevirtual 48, 3) := by decide +kernel
theorem dX5_level_30 : decode cX5_level 30 = .ok (.ireturn, 1) := by decide +kernel
theorem dX5_level_31 : decode cX5_level 31 = .ok (.aload_n 0, 1) := by decide +kernel
theorem dX5_level_32 : decode cX5_level 32 = .ok (.invokevirtual 94, 3) := by decide +kernel
theorem dX5_level_35 : decode cX5_level 35 = .ok (.aload_n 0, 1) := by decide +kernel
theorem dX5_level_36 : decode cX5_level 36 = .ok (.invokevirtual 103, 3) := by decide +kernel
theorem dX5_level_39 : decode cX5_level 39 = .ok (.aload_n 0, 1) := by decide +kernel
theorem dX5_level_40 : decode cX5_level 40 = .ok (.bipush 14, 2) := by decide +kernel
theorem dX5_level_42 : decode cX5_level 42 = .ok (.iload_n 1, 1) := by decide +kernel
theorem dX5_level_43 : decode cX5_level 43 = .ok (.iadd, 1) := by decide +kernel
theorem dX5_level_44 : decode cX5_level 44 = .ok (.iload_n 2, 1) := by decide +kernel
theorem dX5_level_45 : decode cX5_level 45 = .ok (.invokevirtual 97, 3) := by decide +kernel
theorem dX5_level_48 : decode cX5_level 48 = .ok (.ireturn, 1) := by decide +kernel
set_option maxRecDepth 20000 in
theorem ggX5_burn_X5_isDigit : GoodIn wsX5_burn wsX5_isDigit := goodIn_r _ [6, 7, 8, 5, 9] (by decide +kernel) (by decide +kernel)
set_option maxRecDepth 20000 in
theorem gX5_burn_X5_isDigit : GoodIn wsX5_burn (va_wsS RX5 87 yX5_isDigit wsX5_isDigit) := goodIn_app (goodIn_of _ (by decide +kernel)) ggX5_burn_X5_isDigit
set_option maxRecDepth 20000 in
theorem ggX5_burn_X5_isSegment : GoodIn wsX5_burn wsX5_isSegment := goodIn_r _ [12, 7, 8, 5, 9] (by decide +kernel) (by decide +kernel)
set_option maxRecDepth 20000 in
theorem gX5_burn_X5_isSegment : GoodIn wsX5_burn (va_wsS RX5 106 yX5_isSegment wsX5_isSegment) := goodIn_app (goodIn_of _ (by decide +kernel)) ggX5_burn_X5_isSegment
set_option maxRecDepth 20000 in
theorem ggX5_burn_X5_fails : GoodIn wsX5_burn wsX5_fails := goodIn_r _ [16, 1, 23, 24, 25, 26, 27, 28, 29, 30, 31, 32, 33, 34, 35, 36, 37, 38] (by decide +kernel) (by decide +kernel)
set_option maxRecDepth 20000 in
theorem gX5_burn_X5_fails : GoodIn wsX5_burn (wsV RX5 48 RX5 yX5_fails wsX5_fails) := goodIn_app (goodIn_of _ (by decide +kernel)) ggX5_burn_X5_fails
set_option maxRecDepth 20000 in
theorem ggX5_burn_X5_saves : GoodIn wsX5_burn wsX5_saves := goodIn_r _ [20, 21, 22, 2, 23, 24, 25, 26, 27, 28, 29, 30, 31, 32, 33, 34, 35, 36, 37, 38] (by decide +kernel) (by decide +kernel)
set_option maxRecDepth 20000 in
theorem gX5_burn_X5_saves : GoodIn wsX5_burn (wsV RX5 94 RX5 yX5_saves wsX5_saves) := goodIn_app (goodIn_of _ (by decide +kernel)) ggX5_burn_X5_saves
theorem dX5_burn_0 : decode cX5_burn 0 = .ok (.aload_n 0, 1) := by decide +kernel
theorem dX5_burn_1 : decode cX5_burn 1 = .ok (.iconst 0, 1) := by decide +kernel
theorem dX5_burn_2 : decode cX5_burn 2 = .ok (.putfield 37, 3) := by decide +kernel
theorem dX5_burn_5 : decode cX5_burn 5 = .ok (.iload_n 1, 1) := by decide +kernel
theorem dX5_burn_6 : decode cX5_burn 6 = .ok (.invokestatic 87, 3) := by decide +kernel
theorem dX5_burn_9 : decode cX5_burn 9 = .ok (.ifCond .eq 10, 3) := by decide +kernel
theorem dX5_burn_12 : decode cX5_burn 12 = .ok (.iload_n 2, 1) := by decide +kernel
theorem dX5_burn_13 : decode cX5_burn 13 = .ok (.invokestatic 106, 3) := by decide +kernel
theorem dX5_burn_16 : decode cX5_burn 16 = .ok (.ifCond .ne 9, 3) := by decide +kernel
theorem dX5_burn_19 : decode cX5_burn 19 = .ok (.aload_n 0, 1) := by decide +kernel
theorem dX5_burn_20 : decode cX5_burn 20 = .ok (.iconst 1, 1) := by decide +kernel
theorem dX5_burn_21 : decode cX5_burn 21 = .ok (.invokevirtual 48, 3) := by decide +kernel
theorem dX5_burn_24 : decode cX5_burn 24 = .ok (.ireturn, 1) := by decide +kernel
theorem dX5_burn_25 : decode cX5_burn 25 = .ok (.aload_n 0, 1) := by decide +kernel
theorem dX5_burn_26 : decode cX5_burn 26 = .ok (.invokevirtual 94, 3) := by decide +kernel
theorem dX5_burn_29 : decode cX5_burn 29 = .ok (.iconst 1, 1) := by decide +kernel
theorem dX5_burn_30 : decode cX5_burn 30 = .ok (.iload_n 2, 1) := by decide +kernel
theorem dX5_burn_31 : decode cX5_burn 31 = .ok (.ishl, 1) := by decide +kernel
theorem dX5_burn_32 : decode cX5_burn 32 = .ok (.istore 4, 2) := by decide +kernel
theorem dX5_burn_34 : decode cX5_burn 34 = .ok (.aload_n 0, 1) := by decide +kernel
theorem dX5_burn_35 : decode cX5_burn 35 = .ok (.getfield 13, 3) := by decide +kernel
theorem dX5_burn_38 : decode cX5_burn 38 = .ok (.bipush 20, 2) := by decide +kernel
theorem dX5_burn_40 : decode cX5_burn 40 = .ok (.iload_n 1, 1) := by decide +kernel
theorem dX5_burn_41 : decode cX5_burn 41 = .ok (.iadd, 1) := by decide +kernel
theorem dX5_burn_42 : decode cX5_burn 42 = .ok (.iaload, 1) := by decide +kernel
theorem dX5_burn_43 : decode cX5_burn 43 = .ok (.iload_n 2, 1) := by decide +kernel
theorem dX5_burn_44 : decode cX5_burn 44 = .ok (.ishr, 1) := by decide +kernel
theorem dX5_burn_45 : decode cX5_burn 45 = .ok (.iconst 1, 1) := by decide +kernel
theorem dX5_burn_46 : decode cX5_burn 46 = .ok (.iand, 1) := by decide +kernel
theorem dX5_burn_47 : decode cX5_burn 47 = .ok (.istore 5, 2) := by decide +kernel
theorem dX5_burn_49 : decode cX5_burn 49 = .ok (.aload_n 0, 1) := by decide +kernel
theorem dX5_burn_50 : decode cX5_burn 50 = .ok (.getfield 13, 3) := by decide +kernel
theorem dX5_burn_53 : decode cX5_burn 53 = .ok (.bipush 20, 2) := by decide +kernel
theorem dX5_burn_55 : decode cX5_burn 55 = .ok (.iload_n 1, 1) := by decide +kernel
theorem dX5_burn_56 : decode cX5_burn 56 = .ok (.iadd, 1) := by decide +kernel
theorem dX5_burn_57 : decode cX5_burn 57 = .ok (.iload_n 3, 1) := by decide +kernel
theorem dX5_burn_58 : decode cX5_burn 58 = .ok (.ifCond .eq 18, 3) := by decide +kernel
theorem dX5_burn_61 : decode cX5_burn 61 = .ok (.aload_n 0, 1) := by decide +kernel
theorem dX5_burn_62 : decode cX5_burn 62 = .ok (.getfield 13, 3) := by decide +kernel
theorem dX5_burn_65 : decode cX5_burn 65 = .ok (.bipush 20, 2) := by decide +kernel
theorem dX5_burn_67 : decode cX5_burn 67 = .ok (.iload_n 1, 1) := by decide +kernel
theorem dX5_burn_68 : decode cX5_burn 68 = .ok (.iadd, 1) := by decide +kernel
theorem dX5_burn_69 : decode cX5_burn 69 = .ok (.iaload, 1) := by decide +kernel
theorem dX5_burn_70 : decode cX5_burn 70 = .ok (.iload 4, 2) := by decide +kernel
theorem dX5_burn_72 : decode cX5_burn 72 = .ok (.ior, 1) := by decide +kernel
theorem dX5_burn_73 : decode cX5_burn 73 = .ok (.goto 17, 3) := by decide +kernel
theorem dX5_burn_76 : decode cX5_burn 76 = .ok (.aload_n 0, 1) := by decide +kernel
theorem dX5_burn_77 : decode cX5_burn 77 = .ok (.getfield 13, 3) := by decide +kernel
theorem dX5_burn_80 : decode cX5_burn 80 = .ok (.bipush 20, 2) := by decide +kernel
theorem dX5_burn_82 : decode cX5_burn 82 = .ok (.iload_n 1, 1) := by decide +kernel
theorem dX5_burn_83 : decode cX5_burn 83 = .ok (.iadd, 1) := by decide +kernel
theorem dX5_burn_84 : decode cX5_burn 84 = .ok (.iaload, 1) := by decide +kernel
theorem dX5_burn_85 : decode cX5_burn 85 = .ok (.iload 4, 2) := by decide +kernel
theorem dX5_burn_87 : decode cX5_burn 87 = .ok (.iconst (-1), 1) := by decide +kernel
theorem dX5_burn_88 : decode cX5_burn 88 = .ok (.ixor, 1) := by decide +kernel
theorem dX5_burn_89 : decode cX5_burn 89 = .ok (.iand, 1) := by decide +kernel
theorem dX5_burn_90 : decode cX5_burn 90 = .ok (.iastore, 1) := by decide +kernel
theorem dX5_burn_91 : decode cX5_burn 91 = .ok (.iload_n 3, 1) := by decide +kernel
theorem dX5_burn_92 : decode cX5_burn 92 = .ok (.ifCond .ne 18, 3) := by decide +kernel
theorem dX5_burn_95 : decode cX5_burn 95 = .ok (.aload_n 0, 1) := by decide +kernel
theorem dX5_burn_96 : decode cX5_burn 96 = .ok (.getfield 13, 3) := by decide +kernel
theorem dX5_burn_99 : decode cX5_burn 99 = .ok (.bipush 38, 2) := by decide +kernel
theorem dX5_burn_101 : decode cX5_burn 101 = .ok (.bipush 7, 2) := by decide +kernel
theorem dX5_burn_103 : decode cX5_burn 103 = .ok (.iload_n 1, 1) := by decide +kernel
theorem dX5_burn_104 : decode cX5_burn 104 = .ok (.imul, 1) := by decide +kernel
theorem dX5_burn_105 : decode cX5_burn 105 = .ok (.iadd, 1) := by decide +kernel
theorem dX5_burn_106 : decode cX5_burn 106 = .ok (.iload_n 2, 1) := by decide +kernel
theorem dX5_burn_107 : decode cX5_burn 107 = .ok (.iadd, 1) := by decide +kernel
theorem dX5_burn_108 : decode cX5_burn 108 = .ok (.iconst 0, 1) := by decide +kernel
theorem dX5_burn_109 : decode cX5_burn 109 = .ok (.iastore, 1) := by decide +kernel
theorem dX5_burn_110 : decode cX5_burn 110 = .ok (.iload 5, 2) := by decide +kernel
theorem dX5_burn_112 : decode cX5_burn 112 = .ok (.ireturn, 1) := by decide +kernel
set_option maxRecDepth 20000 in
theorem ggX5_ambient_X5_in : GoodIn wsX5_ambient wsX5_in := goodIn_r _ [5] (by decide +kernel) (by decide +kernel)
set_option maxRecDepth 20000 in
theorem gX5_ambient_X5_in : GoodIn wsX5_ambient (va_wsS RX5 41 yX5_in wsX5_in) := goodIn_app (goodIn_of _ (by decide +kernel)) ggX5_ambient_X5_in
set_option maxRecDepth 20000 in
theorem ggX5_ambient_X5_fails : GoodIn wsX5_ambient wsX5_fails := goodIn_r _ [9, 1, 21, 22, 23, 24, 25, 26, 27, 28, 29, 30, 31, 32, 33, 34, 35, 36] (by decide +kernel) (by decide +kernel)
set_option maxRecDepth 20000 in
theorem gX5_ambient_X5_fails : GoodIn wsX5_ambient (wsV RX5 48 RX5 yX5_fails wsX5_fails) := goodIn_app (goodIn_of _ (by decide +kernel)) ggX5_ambient_X5_fails
set_option maxRecDepth 20000 in
theorem ggX5_ambient_X5_saves : GoodIn wsX5_ambient wsX5_saves := goodIn_r _ [13, 14, 15, 16, 21, 22, 23, 24, 25, 26, 27, 28, 29, 30, 31, 32, 33, 34, 35, 36] (by decide +kernel) (by decide +kernel)
set_option maxRecDepth 20000 in
theorem gX5_ambient_X5_saves : GoodIn wsX5_ambient (wsV RX5 94 RX5 yX5_saves wsX5_saves) := goodIn_app (goodIn_of _ (by decide +kernel)) ggX5_ambient_X5_saves
set_option maxRecDepth 20000 in
theorem ggX5_ambient_X5_changes : GoodIn wsX5_ambient wsX5_changes := goodIn_r _ [20, 16, 21, 22, 23, 24, 25, 26, 27, 28, 29, 30, 31, 32, 33, 34, 35, 36] (by decide +kernel) (by decide +kernel)
set_option maxRecDepth 20000 in
theorem gX5_ambient_X5_changes : GoodIn wsX5_ambient (wsV RX5 97 RX5 yX5_changes wsX5_changes) := goodIn_app (goodIn_of _ (by decide +kernel)) ggX5_ambient_X5_changes
theorem dX5_ambient_0 : decode cX5_ambient 0 = .ok (.aload_n 0, 1) := by decide +kernel
theorem dX5_ambient_1 : decode cX5_ambient 1 = .ok (.iconst 0, 1) := by decide +kernel
theorem dX5_ambient_2 : decode cX5_ambient 2 = .ok (.putfield 37, 3) := by decide +kernel
theorem dX5_ambient_5 : decode cX5_ambient 5 = .ok (.iload_n 1, 1) := by decide +kernel
theorem dX5_ambient_6 : decode cX5_ambient 6 = .ok (.iconst 0, 1) := by decide +kernel
theorem dX5_ambient_7 : decode cX5_ambient 7 = .ok (.bipush 20, 2) := by decide +kernel
theorem dX5_ambient_9 : decode cX5_ambient 9 = .ok (.invokestatic 41, 3) := by decide +kernel
theorem dX5_ambient_12 : decode cX5_ambient 12 = .ok (.ifCond .ne 9, 3) := by decide +kernel
theorem dX5_ambient_15 : decode cX5_ambient 15 = .ok (.aload_n 0, 1) := by decide +kernel
theorem dX5_ambient_16 : decode cX5_ambient 16 = .ok (.iconst 1, 1) := by decide +kernel
theorem dX5_ambient_17 : decode cX5_ambient 17 = .ok (.invokevirtual 48, 3) := by decide +kernel
theorem dX5_ambient_20 : decode cX5_ambient 20 = .ok (.ireturn, 1) := by decide +kernel
theorem dX5_ambient_21 : decode cX5_ambient 21 = .ok (.aload_n 0, 1) := by decide +kernel
theorem dX5_ambient_22 : decode cX5_ambient 22 = .ok (.invokevirtual 94, 3) := by decide +kernel
theorem dX5_ambient_25 : decode cX5_ambient 25 = .ok (.aload_n 0, 1) := by decide +kernel
theorem dX5_ambient_26 : decode cX5_ambient 26 = .ok (.iconst 1, 1) := by decide +kernel
theorem dX5_ambient_27 : decode cX5_ambient 27 = .ok (.iload_n 1, 1) := by decide +kernel
theorem dX5_ambient_28 : decode cX5_ambient 28 = .ok (.invokevirtual 97, 3) := by decide +kernel
theorem dX5_ambient_31 : decode cX5_ambient 31 = .ok (.ireturn, 1) := by decide +kernel
set_option maxRecDepth 20000 in
theorem ggX5_isFor_X5_in : GoodIn wsX5_isFor wsX5_in := goodIn_r _ [4] (by decide +kernel) (by decide +kernel)
set_option maxRecDepth 20000 in
theorem gX5_isFor_X5_in : GoodIn wsX5_isFor (va_wsS RX5 41 yX5_in wsX5_in) := goodIn_app (goodIn_of _ (by decide +kernel)) ggX5_isFor_X5_in
theorem dX5_isFor_0 : decode cX5_isFor 0 = .ok (.iload_n 0, 1) := by decide +kernel
theorem dX5_isFor_1 : decode cX5_isFor 1 = .ok (.tableswitch 63 0 3 #[31, 40, 47, 55], 31) := by decide +kernel
theorem dX5_isFor_32 : decode cX5_isFor 32 = .ok (.iload_n 1, 1) := by decide +kernel
theorem dX5_isFor_33 : decode cX5_isFor 33 = .ok (.bipush 6, 2) := by decide +kernel
theorem dX5_isFor_35 : decode cX5_isFor 35 = .ok (.bipush 96, 2) := by decide +kernel
theorem dX5_isFor_37 : decode cX5_isFor 37 = .ok (.invokestatic 41, 3) := by decide +kernel
theorem dX5_isFor_40 : decode cX5_isFor 40 = .ok (.ireturn, 1) := by decide +kernel
theorem dX5_isFor_41 : decode cX5_isFor 41 = .ok (.iload_n 1, 1) := by decide +kernel
theorem dX5_isFor_42 : decode cX5_isFor 42 = .ok (.iconst 0, 1) := by decide +kernel
theorem dX5_isFor_43 : decode cX5_isFor 43 = .ok (.iconst 1, 1) := by decide +kernel
theorem dX5_isFor_44 : decode cX5_isFor 44 = .ok (.invokestatic 41, 3) := by decide +kernel
theorem dX5_isFor_47 : decode cX5_isFor 47 = .ok (.ireturn, 1) := by decide +kernel
theorem dX5_isFor_48 : decode cX5_isFor 48 = .ok (.iload_n 1, 1) := by decide +kernel
theorem dX5_isFor_49 : decode cX5_isFor 49 = .ok (.iconst 1, 1) := by decide +kernel
theorem dX5_isFor_50 : decode cX5_isFor 50 = .ok (.bipush 96, 2) := by decide +kernel
theorem dX5_isFor_52 : decode cX5_isFor 52 = .ok (.invokestatic 41, 3) := by decide +kernel
theorem dX5_isFor_55 : decode cX5_isFor 55 = .ok (.ireturn, 1) := by decide +kernel
theorem dX5_isFor_56 : decode cX5_isFor 56 = .ok (.iload_n 1, 1) := by decide +kernel
theorem dX5_isFor_57 : decode cX5_isFor 57 = .ok (.iconst 1, 1) := by decide +kernel
theorem dX5_isFor_58 : decode cX5_isFor 58 = .ok (.bipush 20, 2) := by decide +kernel
theorem dX5_isFor_60 : decode cX5_isFor 60 = .ok (.invokestatic 41, 3) := by decide +kernel
theorem dX5_isFor_63 : decode cX5_isFor 63 = .ok (.ireturn, 1) := by decide +kernel
theorem dX5_isFor_64 : decode cX5_isFor 64 = .ok (.iload_n 1, 1) := by decide +kernel
theorem dX5_isFor_65 : decode cX5_isFor 65 = .ok (.iconst 0, 1) := by decide +kernel
theorem dX5_isFor_66 : decode cX5_isFor 66 = .ok (.bipush 99, 2) := by decide +kernel
theorem dX5_isFor_68 : decode cX5_isFor 68 = .ok (.invokestatic 41, 3) := by decide +kernel
theorem dX5_isFor_71 : decode cX5_isFor 71 = .ok (.ireturn, 1) := by decide +kernel
set_option maxRecDepth 20000 in
theorem ggX5_set_X5_in : GoodIn wsX5_set wsX5_in := goodIn_r _ [5] (by decide +kernel) (by decide +kernel)
set_option maxRecDepth 20000 in
theorem gX5_set_X5_in : GoodIn wsX5_set (va_wsS RX5 41 yX5_in wsX5_in) := goodIn_app (goodIn_of _ (by decide +kernel)) ggX5_set_X5_in
set_option maxRecDepth 20000 in
theorem ggX5_set_X5_fails : GoodIn wsX5_set wsX5_fails := goodIn_r _ [9, 1, 24, 25, 26, 27, 28, 29, 30, 31, 32, 33, 34, 35, 36, 37, 38, 39] (by decide +kernel) (by decide +kernel)
set_option maxRecDepth 20000 in
theorem gX5_set_X5_fails : GoodIn wsX5_set (wsV RX5 48 RX5 yX5_fails wsX5_fails) := goodIn_app (goodIn_of _ (by decide +kernel)) ggX5_set_X5_fails
set_option maxRecDepth 20000 in
theorem ggX5_set_X5_isFor : GoodIn wsX5_set wsX5_isFor := goodIn_r _ [12, 2, 3, 4, 5] (by decide +kernel) (by decide +kernel)
set_option maxRecDepth 20000 in
theorem gX5_set_X5_isFor : GoodIn wsX5_set (va_wsS RX5 109 yX5_isFor wsX5_isFor) := goodIn_app (goodIn_of _ (by decide +kernel)) ggX5_set_X5_isFor
set_option maxRecDepth 20000 in
theorem ggX5_set_X5_saves : GoodIn wsX5_set wsX5_saves := goodIn_r _ [16, 17, 18, 19, 24, 25, 26, 27, 28, 29, 30, 31, 32, 33, 34, 35, 36, 37, 38, 39] (by decide +kernel) (by decide +kernel)
set_option maxRecDepth 20000 in
theorem gX5_set_X5_saves : GoodIn wsX5_set (wsV RX5 94 RX5 yX5_saves wsX5_saves) := goodIn_app (goodIn_of _ (by decide +kernel)) ggX5_set_X5_saves
set_option maxRecDepth 20000 in
theorem ggX5_set_X5_changes : GoodIn wsX5_set wsX5_changes := goodIn_r _ [23, 19, 24, 25, 26, 27, 28, 29, 30, 31, 32, 33, 34, 35, 36, 37, 38, 39] (by decide +kernel) (by decide +kernel)
set_option maxRecDepth 20000 in
theorem gX5_set_X5_changes : GoodIn wsX5_set (wsV RX5 97 RX5 yX5_changes wsX5_changes) := goodIn_app (goodIn_of _ (by decide +kernel)) ggX5_set_X5_changes
theorem dX5_set_0 : decode cX5_set 0 = .ok (.aload_n 0, 1) := by decide +kernel
theorem dX5_set_1 : decode cX5_set 1 = .ok (.iconst 0, 1) := by decide +kernel
theorem dX5_set_2 : decode cX5_set 2 = .ok (.putfield 37, 3) := by decide +kernel
theorem dX5_set_5 : decode cX5_set 5 = .ok (.iload_n 1, 1) := by decide +kernel
theorem dX5_set_6 : decode cX5_set 6 = .ok (.iconst 0, 1) := by decide +kernel
theorem dX5_set_7 : decode cX5_set 7 = .ok (.iconst 4, 1) := by decide +kernel
theorem dX5_set_8 : decode cX5_set 8 = .ok (.invokestatic 41, 3) := by decide +kernel
theorem dX5_set_11 : decode cX5_set 11 = .ok (.ifCond .ne 9, 3) := by decide +kernel
theorem dX5_set_14 : decode cX5_set 14 = .ok (.aload_n 0, 1) := by decide +kernel
theorem dX5_set_15 : decode cX5_set 15 = .ok (.iconst 1, 1) := by decide +kernel
theorem dX5_set_16 : decode cX5_set 16 = .ok (.invokevirtual 48, 3) := by decide +kernel
theorem dX5_set_19 : decode cX5_set 19 = .ok (.ireturn, 1) := by decide +kernel
theorem dX5_set_20 : decode cX5_set 20 = .ok (.iload_n 1, 1) := by decide +kernel
theorem dX5_set_21 : decode cX5_set 21 = .ok (.iload_n 2, 1) := by decide +kernel
theorem dX5_set_22 : decode cX5_set 22 = .ok (.invokestatic 109, 3) := by decide +kernel
theorem dX5_set_25 : decode cX5_set 25 = .ok (.ifCond .ne 9, 3) := by decide +kernel
theorem dX5_set_28 : decode cX5_set 28 = .ok (.aload_n 0, 1) := by decide +kernel
theorem dX5_set_29 : decode cX5_set 29 = .ok (.iconst 2, 1) := by decide +kernel
theorem dX5_set_30 : decode cX5_set 30 = .ok (.invokevirtual 48, 3) := by decide +kernel
theorem dX5_set_33 : decode cX5_set 33 = .ok (.ireturn, 1) := by decide +kernel
theorem dX5_set_34 : decode cX5_set 34 = .ok (.aload_n 0, 1) := by decide +kernel
theorem dX5_set_35 : decode cX5_set 35 = .ok (.invokevirtual 94, 3) := by decide +kernel
theorem dX5_set_38 : decode cX5_set 38 = .ok (.aload_n 0, 1) := by decide +kernel
theorem dX5_set_39 : decode cX5_set 39 = .ok (.iconst 2, 1) := by decide +kernel
theorem dX5_set_40 : decode cX5_set 40 = .ok (.iload_n 1, 1) := by decide +kernel
theorem dX5_set_41 : decode cX5_set 41 = .ok (.iadd, 1) := by decide +kernel
theorem dX5_set_42 : decode cX5_set 42 = .ok (.iload_n 2, 1) := by decide +kernel
theorem dX5_set_43 : decode cX5_set 43 = .ok (.invokevirtual 97, 3) := by decide +kernel
theorem dX5_set_46 : decode cX5_set 46 = .ok (.ireturn, 1) := by decide +kernel
theorem dX5_sizeOf_0 : decode cX5_sizeOf 0 = .ok (.iload_n 0, 1) := by decide +kernel
theorem dX5_sizeOf_1 : decode cX5_sizeOf 1 = .ok (.ifCond .ge 7, 3) := by decide +kernel
theorem dX5_sizeOf_4 : decode cX5_sizeOf 4 = .ok (.iconst 2, 1) := by decide +kernel
theorem dX5_sizeOf_5 : decode cX5_sizeOf 5 = .ok (.goto 4, 3) := by decide +kernel
theorem dX5_sizeOf_8 : decode cX5_sizeOf 8 = .ok (.iconst 1, 1) := by decide +kernel
theorem dX5_sizeOf_9 : decode cX5_sizeOf 9 = .ok (.istore_n 1, 1) := by decide +kernel
theorem dX5_sizeOf_10 : decode cX5_sizeOf 10 = .ok (.iload_n 0, 1) := by decide +kernel
theorem dX5_sizeOf_11 : decode cX5_sizeOf 11 = .ok (.bipush 10, 2) := by decide +kernel
theorem dX5_sizeOf_13 : decode cX5_sizeOf 13 = .ok (.idiv, 1) := by decide +kernel
theorem dX5_sizeOf_14 : decode cX5_sizeOf 14 = .ok (.istore_n 2, 1) := by decide +kernel
theorem dX5_sizeOf_15 : decode cX5_sizeOf 15 = .ok (.iload_n 2, 1) := by decide +kernel
theorem dX5_sizeOf_16 : decode cX5_sizeOf 16 = .ok (.ifCond .eq 14, 3) := by decide +kernel
theorem dX5_sizeOf_19 : decode cX5_sizeOf 19 = .ok (.iinc 1 1, 3) := by decide +kernel
theorem dX5_sizeOf_22 : decode cX5_sizeOf 22 = .ok (.iload_n 2, 1) := by decide +kernel
theorem dX5_sizeOf_23 : decode cX5_sizeOf 23 = .ok (.bipush 10, 2) := by decide +kernel
theorem dX5_sizeOf_25 : decode cX5_sizeOf 25 = .ok (.idiv, 1) := by decide +kernel
theorem dX5_sizeOf_26 : decode cX5_sizeOf 26 = .ok (.istore_n 2, 1) := by decide +kernel
theorem dX5_sizeOf_27 : decode cX5_sizeOf 27 = .ok (.goto (-12), 3) := by decide +kernel
theorem dX5_sizeOf_30 : decode cX5_sizeOf 30 = .ok (.iload_n 1, 1) := by decide +kernel
theorem dX5_sizeOf_31 : decode cX5_sizeOf 31 = .ok (.ireturn, 1) := by decide +kernel
set_option maxRecDepth 20000 in
theorem ggX5_number_X5_isDigit : GoodIn wsX5_number wsX5_isDigit := goodIn_r _ [6, 7, 8, 5, 9] (by decide +kernel) (by decide +kernel)
set_option maxRecDepth 20000 in
theorem gX5_number_X5_isDigit : GoodIn wsX5_number (va_wsS RX5 87 yX5_isDigit wsX5_isDigit) := goodIn_app (goodIn_of _ (by decide +kernel)) ggX5_number_X5_isDigit
set_option maxRecDepth 20000 in
theorem ggX5_number_X5_fails : GoodIn wsX5_number wsX5_fails := goodIn_r _ [13, 1, 23, 24, 25, 26, 27, 28, 29, 30, 31, 32, 33, 34, 35, 36, 37, 38] (by decide +kernel) (by decide +kernel)
set_option maxRecDepth 20000 in
theorem gX5_number_X5_fails : GoodIn wsX5_number (wsV RX5 48 RX5 yX5_fails wsX5_fails) := goodIn_app (goodIn_of _ (by decide +kernel)) ggX5_number_X5_fails
set_option maxRecDepth 20000 in
theorem ggX5_number_X5_sizeOf : GoodIn wsX5_number wsX5_sizeOf := goodIn_r _ [16] (by decide +kernel) (by decide +kernel)
set_option maxRecDepth 20000 in
theorem gX5_number_X5_sizeOf : GoodIn wsX5_number (va_wsS RX5 113 yX5_sizeOf wsX5_sizeOf) := goodIn_app (goodIn_of _ (by decide +kernel)) ggX5_number_X5_sizeOf
set_option maxRecDepth 20000 in
theorem ggX5_number_X5_saves : GoodIn wsX5_number wsX5_saves := goodIn_r _ [20, 21, 22, 2, 23, 24, 25, 26, 27, 28, 29, 30, 31, 32, 33, 34, 35, 36, 37, 38] (by decide +kernel) (by decide +kernel)
set_option maxRecDepth 20000 in
theorem gX5_number_X5_saves : GoodIn wsX5_number (wsV RX5 94 RX5 yX5_saves wsX5_saves) := goodIn_app (goodIn_of _ (by decide +kernel)) ggX5_number_X5_saves
theorem dX5_number_0 : decode cX5_number 0 = .ok (.aload_n 0, 1) := by decide +kernel
theorem dX5_number_1 : decode cX5_number 1 = .ok (.iconst 0, 1) := by decide +kernel
theorem dX5_number_2 : decode cX5_number 2 = .ok (.putfield 37, 3) := by decide +kernel
theorem dX5_number_5 : decode cX5_number 5 = .ok (.iload_n 1, 1) := by decide +kernel
theorem dX5_number_6 : decode cX5_number 6 = .ok (.invokestatic 87, 3) := by decide +kernel
theorem dX5_number_9 : decode cX5_number 9 = .ok (.ifCond .eq 10, 3) := by decide +kernel
theorem dX5_number_12 : decode cX5_number 12 = .ok (.iload_n 2, 1) := by decide +kernel
theorem dX5_number_13 : decode cX5_number 13 = .ok (.invokestatic 87, 3) := by decide +kernel
theorem dX5_number_16 : decode cX5_number 16 = .ok (.ifCond .ne 9, 3) := by decide +kernel
theorem dX5_number_19 : decode cX5_number 19 = .ok (.aload_n 0, 1) := by decide +kernel
theorem dX5_number_20 : decode cX5_number 20 = .ok (.iconst 1, 1) := by decide +kernel
theorem dX5_number_21 : decode cX5_number 21 = .ok (.invokevirtual 48, 3) := by decide +kernel
theorem dX5_number_24 : decode cX5_number 24 = .ok (.ireturn, 1) := by decide +kernel
theorem dX5_number_25 : decode cX5_number 25 = .ok (.iload_n 3, 1) := by decide +kernel
theorem dX5_number_26 : decode cX5_number 26 = .ok (.invokestatic 113, 3) := by decide +kernel
theorem dX5_number_29 : decode cX5_number 29 = .ok (.istore 4, 2) := by decide +kernel
theorem dX5_number_31 : decode cX5_number 31 = .ok (.iload_n 2, 1) := by decide +kernel
theorem dX5_number_32 : decode cX5_number 32 = .ok (.iload_n 1, 1) := by decide +kernel
theorem dX5_number_33 : decode cX5_number 33 = .ok (.if_icmp .lt 13, 3) := by decide +kernel
theorem dX5_number_36 : decode cX5_number 36 = .ok (.iload 4, 2) := by decide +kernel
theorem dX5_number_38 : decode cX5_number 38 = .ok (.iload_n 2, 1) := by decide +kernel
theorem dX5_number_39 : decode cX5_number 39 = .ok (.iload_n 1, 1) := by decide +kernel
theorem dX5_number_40 : decode cX5_number 40 = .ok (.isub, 1) := by decide +kernel
theorem dX5_number_41 : decode cX5_number 41 = .ok (.iconst 1, 1) := by decide +kernel
theorem dX5_number_42 : decode cX5_number 42 = .ok (.iadd, 1) := by decide +kernel
theorem dX5_number_43 : decode cX5_number 43 = .ok (.if_icmp .le 9, 3) := by decide +kernel
theorem dX5_number_46 : decode cX5_number 46 = .ok (.aload_n 0, 1) := by decide +kernel
theorem dX5_number_47 : decode cX5_number 47 = .ok (.iconst 2, 1) := by decide +kernel
theorem dX5_number_48 : decode cX5_number 48 = .ok (.invokevirtual 48, 3) := by decide +kernel
theorem dX5_number_51 : decode cX5_number 51 = .ok (.ireturn, 1) := by decide +kernel
theorem dX5_number_52 : decode cX5_number 52 = .ok (.aload_n 0, 1) := by decide +kernel
theorem dX5_number_53 : decode cX5_number 53 = .ok (.invokevirtual 94, 3) := by decide +kernel
theorem dX5_number_56 : decode cX5_number 56 = .ok (.iload_n 3, 1) := by decide +kernel
theorem dX5_number_57 : decode cX5_number 57 = .ok (.istore 5, 2) := by decide +kernel
theorem dX5_number_59 : decode cX5_number 59 = .ok (.iload_n 2, 1) := by decide +kernel
theorem dX5_number_60 : decode cX5_number 60 = .ok (.istore 6, 2) := by decide +kernel
theorem dX5_number_62 : decode cX5_number 62 = .ok (.iload 6, 2) := by decide +kernel
theorem dX5_number_64 : decode cX5_number 64 = .ok (.iload_n 1, 1) := by decide +kernel
theorem dX5_number_65 : decode cX5_number 65 = .ok (.if_icmp .lt 94, 3) := by decide +kernel
theorem dX5_number_68 : decode cX5_number 68 = .ok (.iload_n 2, 1) := by decide +kernel
theorem dX5_number_69 : decode cX5_number 69 = .ok (.iload 6, 2) := by decide +kernel
theorem dX5_number_71 : decode cX5_number 71 = .ok (.isub, 1) := by decide +kernel
theorem dX5_number_72 : decode cX5_number 72 = .ok (.istore 7, 2) := by decide +kernel
theorem dX5_number_74 : decode cX5_number 74 = .ok (.iload_n 3, 1) := by decide +kernel
theorem dX5_number_75 : decode cX5_number 75 = .ok (.ifCond .ge 16, 3) := by decide +kernel
theorem dX5_number_78 : decode cX5_number 78 = .ok (.iload 7, 2) := by decide +kernel
theorem dX5_number_80 : decode cX5_number 80 = .ok (.iload 4, 2) := by decide +kernel
theorem dX5_number_82 : decode cX5_number 82 = .ok (.iconst 1, 1) := by decide +kernel
theorem dX5_number_83 : decode cX5_number 83 = .ok (.isub, 1) := by decide +kernel
theorem dX5_number_84 : decode cX5_number 84 = .ok (.if_icmp .ne 7, 3) := by decide +kernel
theorem dX5_number_87 : decode cX5_number 87 = .ok (.iconst 1, 1) := by decide +kernel
theorem dX5_number_88 : decode cX5_number 88 = .ok (.goto 4, 3) := by decide +kernel
theorem dX5_number_91 : decode cX5_number 91 = .ok (.iconst 0, 1) := by decide +kernel
theorem dX5_number_92 : decode cX5_number 92 = .ok (.istore 8, 2) := by decide +kernel
theorem dX5_number_94 : decode cX5_number 94 = .ok (.iload 5, 2) := by decide +kernel
theorem dX5_number_96 : decode cX5_number 96 = .ok (.bipush 10, 2) := by decide +kernel
theorem dX5_number_98 : decode cX5_number 98 = .ok (.irem, 1) := by decide +kernel
theorem dX5_number_99 : decode cX5_number 99 = .ok (.istore 9, 2) := by decide +kernel
theorem dX5_number_101 : decode cX5_number 101 = .ok (.aload_n 0, 1) := by decide +kernel
theorem dX5_number_102 : decode cX5_number 102 = .ok (.getfield 13, 3) := by decide +kernel
theorem dX5_number_105 : decode cX5_number 105 = .ok (.bipush 8, 2) := by decide +kernel
theorem dX5_number_107 : decode cX5_number 107 = .ok (.iload 6, 2) := by decide +kernel
theorem dX5_number_109 : decode cX5_number 109 = .ok (.iadd, 1) := by decide +kernel
theorem dX5_number_110 : decode cX5_number 110 = .ok (.iload 7, 2) := by decide +kernel
theorem dX5_number_112 : decode cX5_number 112 = .ok (.iload 4, 2) := by decide +kernel
theorem dX5_number_114 : decode cX5_number 114 = .ok (.if_icmp .lt 8, 3) := by decide +kernel
theorem dX5_number_117 : decode cX5_number 117 = .ok (.bipush 11, 2) := by decide +kernel
theorem dX5_number_119 : decode cX5_number 119 = .ok (.goto 26, 3) := by decide +kernel
theorem dX5_number_122 : decode cX5_number 122 = .ok (.iload 8, 2) := by decide +kernel
theorem dX5_number_124 : decode cX5_number 124 = .ok (.ifCond .eq 8, 3) := by decide +kernel
theorem dX5_number_127 : decode cX5_number 127 = .ok (.bipush 10, 2) := by decide +kernel
theorem dX5_number_129 : decode cX5_number 129 = .ok (.goto 16, 3) := by decide +kernel
theorem dX5_number_132 : decode cX5_number 132 = .ok (.iload 9, 2) := by decide +kernel
theorem dX5_number_134 : decode cX5_number 134 = .ok (.ifCond .ge 9, 3) := by decide +kernel
theorem dX5_number_137 : decode cX5_number 137 = .ok (.iload 9, 2) := by decide +kernel
theorem dX5_number_139 : decode cX5_number 139 = .ok (.ineg, 1) := by decide +kernel
theorem dX5_number_140 : decode cX5_number 140 = .ok (.goto 5, 3) := by decide +kernel
theorem dX5_number_143 : decode cX5_number 143 = .ok (.iload 9, 2) := by decide +kernel
theorem dX5_number_145 : decode cX5_number 145 = .ok (.iastore, 1) := by decide +kernel
theorem dX5_number_146 : decode cX5_number 146 = .ok (.iload 5, 2) := by decide +kernel
theorem dX5_number_148 : decode cX5_number 148 = .ok (.bipush 10, 2) := by decide +kernel
theorem dX5_number_150 : decode cX5_number 150 = .ok (.idiv, 1) := by decide +kernel
theorem dX5_number_151 : decode cX5_number 151 = .ok (.istore 5, 2) := by decide +kernel
theorem dX5_number_153 : decode cX5_number 153 = .ok (.iinc 6 (-1), 3) := by decide +kernel
theorem dX5_number_156 : decode cX5_number 156 = .ok (.goto (-94), 3) := by decide +kernel
theorem dX5_number_159 : decode cX5_number 159 = .ok (.iload 4, 2) := by decide +kernel
theorem dX5_number_161 : decode cX5_number 161 = .ok (.ireturn, 1) := by decide +kernel
set_option maxRecDepth 20000 in
theorem ggX5_goes_X5_turns : GoodIn wsX5_goes wsX5_turns := goodIn_r _ [5, 6, 7, 4, 8] (by decide +kernel) (by decide +kernel)
set_option maxRecDepth 20000 in
theorem gX5_goes_X5_turns : GoodIn wsX5_goes (va_wsS RX5 59 yX5_turns wsX5_turns) := goodIn_app (goodIn_of _ (by decide +kernel)) ggX5_goes_X5_turns
set_option maxRecDepth 20000 in
theorem ggX5_goes_X5_litBy : GoodIn wsX5_goes wsX5_litBy := goodIn_r _ [11] (by decide +kernel) (by decide +kernel)
set_option maxRecDepth 20000 in
theorem gX5_goes_X5_litBy : GoodIn wsX5_goes (va_wsS RX5 63 yX5_litBy wsX5_litBy) := goodIn_app (goodIn_of _ (by decide +kernel)) ggX5_goes_X5_litBy
set_option maxRecDepth 20000 in
theorem ggX5_goes_X5_shownAs : GoodIn wsX5_goes wsX5_shownAs := goodIn_r _ [15, 16, 1, 17, 18, 19, 20, 21, 22, 23, 24, 25, 26, 27, 28, 29, 30, 31, 32] (by decide +kernel) (by decide +kernel)
set_option maxRecDepth 20000 in
theorem gX5_goes_X5_shownAs : GoodIn wsX5_goes (wsV RX5 77 RX5 yX5_shownAs wsX5_shownAs) := goodIn_app (goodIn_of _ (by decide +kernel)) ggX5_goes_X5_shownAs
theorem dX5_goes_0 : decode cX5_goes 0 = .ok (.aload_n 0, 1) := by decide +kernel
theorem dX5_goes_1 : decode cX5_goes 1 = .ok (.getfield 13, 3) := by decide +kernel
theorem dX5_goes_4 : decode cX5_goes 4 = .ok (.aload_n 0, 1) := by decide +kernel
theorem dX5_goes_5 : decode cX5_goes 5 = .ok (.getfield 13, 3) := by decide +kernel
theorem dX5_goes_8 : decode cX5_goes 8 = .ok (.bipush 26, 2) := by decide +kernel
theorem dX5_goes_10 : decode cX5_goes 10 = .ok (.invokestatic 59, 3) := by decide +kernel
theorem dX5_goes_13 : decode cX5_goes 13 = .ok (.istore_n 1, 1) := by decide +kernel
theorem dX5_goes_14 : decode cX5_goes 14 = .ok (.aload_n 0, 1) := by decide +kernel
theorem dX5_goes_15 : decode cX5_goes 15 = .ok (.getfield 13, 3) := by decide +kernel
theorem dX5_goes_18 : decode cX5_goes 18 = .ok (.iload_n 1, 1) := by decide +kernel
theorem dX5_goes_19 : decode cX5_goes 19 = .ok (.aload_n 0, 1) := by decide +kernel
theorem dX5_goes_20 : decode cX5_goes 20 = .ok (.getfield 13, 3) := by decide +kernel
theorem dX5_goes_23 : decode cX5_goes 23 = .ok (.bipush 7, 2) := by decide +kernel
theorem dX5_goes_25 : decode cX5_goes 25 = .ok (.iaload, 1) := by decide +kernel
theorem dX5_goes_26 : decode cX5_goes 26 = .ok (.aload_n 0, 1) := by decide +kernel
theorem dX5_goes_27 : decode cX5_goes 27 = .ok (.getfield 13, 3) := by decide +kernel
theorem dX5_goes_30 : decode cX5_goes 30 = .ok (.iconst 0, 1) := by decide +kernel
theorem dX5_goes_31 : decode cX5_goes 31 = .ok (.iaload, 1) := by decide +kernel
theorem dX5_goes_32 : decode cX5_goes 32 = .ok (.invokestatic 63, 3) := by decide +kernel
theorem dX5_goes_35 : decode cX5_goes 35 = .ok (.istore_n 2, 1) := by decide +kernel
theorem dX5_goes_36 : decode cX5_goes 36 = .ok (.aload_n 0, 1) := by decide +kernel
theorem dX5_goes_37 : decode cX5_goes 37 = .ok (.getfield 13, 3) := by decide +kernel
theorem dX5_goes_40 : decode cX5_goes 40 = .ok (.bipush 7, 2) := by decide +kernel
theorem dX5_goes_42 : decode cX5_goes 42 = .ok (.iload_n 1, 1) := by decide +kernel
theorem dX5_goes_43 : decode cX5_goes 43 = .ok (.iastore, 1) := by decide +kernel
theorem dX5_goes_44 : decode cX5_goes 44 = .ok (.aload_n 0, 1) := by decide +kernel
theorem dX5_goes_45 : decode cX5_goes 45 = .ok (.getfield 13, 3) := by decide +kernel
theorem dX5_goes_48 : decode cX5_goes 48 = .ok (.iconst 0, 1) := by decide +kernel
theorem dX5_goes_49 : decode cX5_goes 49 = .ok (.dup2, 1) := by decide +kernel
theorem dX5_goes_50 : decode cX5_goes 50 = .ok (.iaload, 1) := by decide +kernel
theorem dX5_goes_51 : decode cX5_goes 51 = .ok (.iconst 1, 1) := by decide +kernel
theorem dX5_goes_52 : decode cX5_goes 52 = .ok (.iadd, 1) := by decide +kernel
theorem dX5_goes_53 : decode cX5_goes 53 = .ok (.iastore, 1) := by decide +kernel
theorem dX5_goes_54 : decode cX5_goes 54 = .ok (.iconst 0, 1) := by decide +kernel
theorem dX5_goes_55 : decode cX5_goes 55 = .ok (.istore_n 3, 1) := by decide +kernel
theorem dX5_goes_56 : decode cX5_goes 56 = .ok (.iload_n 2, 1) := by decide +kernel
theorem dX5_goes_57 : decode cX5_goes 57 = .ok (.iconst (-1), 1) := by decide +kernel
theorem dX5_goes_58 : decode cX5_goes 58 = .ok (.if_icmp .eq 161, 3) := by decide +kernel
theorem dX5_goes_61 : decode cX5_goes 61 = .ok (.aload_n 0, 1) := by decide +kernel
theorem dX5_goes_62 : decode cX5_goes 62 = .ok (.iload_n 2, 1) := by decide +kernel
theorem dX5_goes_63 : decode cX5_goes 63 = .ok (.aload_n 0, 1) := by decide +kernel
theorem dX5_goes_64 : decode cX5_goes 64 = .ok (.getfield 13, 3) := by decide +kernel
theorem dX5_goes_67 : decode cX5_goes 67 = .ok (.bipush 8, 2) := by decide +kernel
theorem dX5_goes_69 : decode cX5_goes 69 = .ok (.iload_n 2, 1) := by decide +kernel
theorem dX5_goes_70 : decode cX5_goes 70 = .ok (.iadd, 1) := by decide +kernel
theorem dX5_goes_71 : decode cX5_goes 71 = .ok (.iaload, 1) := by decide +kernel
theorem dX5_goes_72 : decode cX5_goes 72 = .ok (.invokevirtual 77, 3) := by decide +kernel
theorem dX5_goes_75 : decode cX5_goes 75 = .ok (.istore 4, 2) := by decide +kernel
theorem dX5_goes_77 : decode cX5_goes 77 = .ok (.aload_n 0, 1) := by decide +kernel
theorem dX5_goes_78 : decode cX5_goes 78 = .ok (.getfield 13, 3) := by decide +kernel
theorem dX5_goes_81 : decode cX5_goes 81 = .ok (.bipush 32, 2) := by decide +kernel
theorem dX5_goes_83 : decode cX5_goes 83 = .ok (.iload_n 2, 1) := by decide +kernel
theorem dX5_goes_84 : decode cX5_goes 84 = .ok (.iadd, 1) := by decide +kernel
theorem dX5_goes_85 : decode cX5_goes 85 = .ok (.dup2, 1) := by decide +kernel
theorem dX5_goes_86 : decode cX5_goes 86 = .ok (.iaload, 1) := by decide +kernel
theorem dX5_goes_87 : decode cX5_goes 87 = .ok (.iconst 1, 1) := by decide +kernel
theorem dX5_goes_88 : decode cX5_goes 88 = .ok (.iadd, 1) := by decide +kernel
theorem dX5_goes_89 : decode cX5_goes 89 = .ok (.iastore, 1) := by decide +kernel
theorem dX5_goes_90 : decode cX5_goes 90 = .ok (.iconst 0, 1) := by decide +kernel
theorem dX5_goes_91 : decode cX5_goes 91 = .ok (.istore 5, 2) := by decide +kernel
theorem dX5_goes_93 : decode cX5_goes 93 = .ok (.iload 5, 2) := by decide +kernel
theorem dX5_goes_95 : decode cX5_goes 95 = .ok (.bipush 7, 2) := by decide +kernel
theorem dX5_goes_97 : decode cX5_goes 97 = .ok (.if_icmp .ge 122, 3) := by decide +kernel
theorem dX5_goes_100 : decode cX5_goes 100 = .ok (.iload 4, 2) := by decide +kernel
theorem dX5_goes_102 : decode cX5_goes 102 = .ok (.iload 5, 2) := by decide +kernel
theorem dX5_goes_104 : decode cX5_goes 104 = .ok (.ishr, 1) := by decide +kernel
theorem dX5_goes_105 : decode cX5_goes 105 = .ok (.iconst 1, 1) := by decide +kernel
theorem dX5_goes_106 : decode cX5_goes 106 = .ok (.iand, 1) := by decide +kernel
theorem dX5_goes_107 : decode cX5_goes 107 = .ok (.iconst 1, 1) := by decide +kernel
theorem dX5_goes_108 : decode cX5_goes 108 = .ok (.if_icmp .ne 105, 3) := by decide +kernel
theorem dX5_goes_111 : decode cX5_goes 111 = .ok (.aload_n 0, 1) := by decide +kernel
theorem dX5_goes_112 : decode cX5_goes 112 = .ok (.getfield 13, 3) := by decide +kernel
theorem dX5_goes_115 : decode cX5_goes 115 = .ok (.bipush 38, 2) := by decide +kernel
theorem dX5_goes_117 : decode cX5_goes 117 = .ok (.bipush 7, 2) := by decide +kernel
theorem dX5_goes_119 : decode cX5_goes 119 = .ok (.iload_n 2, 1) := by decide +kernel
theorem dX5_goes_120 : decode cX5_goes 120 = .ok (.imul, 1) := by decide +kernel
theorem dX5_goes_121 : decode cX5_goes 121 = .ok (.iadd, 1) := by decide +kernel
theorem dX5_goes_122 : decode cX5_goes 122 = .ok (.iload 5, 2) := by decide +kernel
theorem dX5_goes_124 : decode cX5_goes 124 = .ok (.iadd, 1) := by decide +kernel
theorem dX5_goes_125 : decode cX5_goes 125 = .ok (.dup2, 1) := by decide +kernel
theorem dX5_goes_126 : decode cX5_goes 126 = .ok (.iaload, 1) := by decide +kernel
theorem dX5_goes_127 : decode cX5_goes 127 = .ok (.iconst 1, 1) := by decide +kernel
theorem dX5_goes_128 : decode cX5_goes 128 = .ok (.iadd, 1) := by decide +kernel
theorem dX5_goes_129 : decode cX5_goes 129 = .ok (.iastore, 1) := by decide +kernel
theorem dX5_goes_130 : decode cX5_goes 130 = .ok (.aload_n 0, 1) := by decide +kernel
theorem dX5_goes_131 : decode cX5_goes 131 = .ok (.getfield 13, 3) := by decide +kernel
theorem dX5_goes_134 : decode cX5_goes 134 = .ok (.bipush 6, 2) := by decide +kernel
theorem dX5_goes_136 : decode cX5_goes 136 = .ok (.iaload, 1) := by decide +kernel
theorem dX5_goes_137 : decode cX5_goes 137 = .ok (.ifCond .le 35, 3) := by decide +kernel
theorem dX5_goes_140 : decode cX5_goes 140 = .ok (.aload_n 0, 1) := by decide +kernel
theorem dX5_goes_141 : decode cX5_goes 141 = .ok (.getfield 13, 3) := by decide +kernel
theorem dX5_goes_144 : decode cX5_goes 144 = .ok (.bipush 38, 2) := by decide +kernel
theorem dX5_goes_146 : decode cX5_goes 146 = .ok (.bipush 7, 2) := by decide +kernel
theorem dX5_goes_148 : decode cX5_goes 148 = .ok (.iload_n 2, 1) := by decide +kernel
theorem dX5_goes_149 : decode cX5_goes 149 = .ok (.imul, 1) := by decide +kernel
theorem dX5_goes_150 : decode cX5_goes 150 = .ok (.iadd, 1) := by decide +kernel
theorem dX5_goes_151 : decode cX5_goes 151 = .ok (.iload 5, 2) := by decide +kernel
theorem dX5_goes_153 : decode cX5_goes 153 = .ok (.iadd, 1) := by decide +kernel
theorem dX5_goes_154 : decode cX5_goes 154 = .ok (.iaload, 1) := by decide +kernel
theorem dX5_goes_155 : decode cX5_goes 155 = .ok (.bipush 100, 2) := by decide +kernel
theorem dX5_goes_157 : decode cX5_goes 157 = .ok (.aload_n 0, 1) := by decide +kernel
theorem dX5_goes_158 : decode cX5_goes 158 = .ok (.getfield 13, 3) := by decide +kernel
theorem dX5_goes_161 : decode cX5_goes 161 = .ok (.bipush 6, 2) := by decide +kernel
theorem dX5_goes_163 : decode cX5_goes 163 = .ok (.iaload, 1) := by decide +kernel
theorem dX5_goes_164 : decode cX5_goes 164 = .ok (.imul, 1) := by decide +kernel
theorem dX5_goes_165 : decode cX5_goes 165 = .ok (.if_icmp .lt 7, 3) := by decide +kernel
theorem dX5_goes_168 : decode cX5_goes 168 = .ok (.iconst 1, 1) := by decide +kernel
theorem dX5_goes_169 : decode cX5_goes 169 = .ok (.goto 4, 3) := by decide +kernel
theorem dX5_goes_172 : decode cX5_goes 172 = .ok (.iconst 0, 1) := by decide +kernel
theorem dX5_goes_173 : decode cX5_goes 173 = .ok (.istore 6, 2) := by decide +kernel
theorem dX5_goes_175 : decode cX5_goes 175 = .ok (.aload_n 0, 1) := by decide +kernel
theorem dX5_goes_176 : decode cX5_goes 176 = .ok (.getfield 13, 3) := by decide +kernel
theorem dX5_goes_179 : decode cX5_goes 179 = .ok (.bipush 20, 2) := by decide +kernel
theorem dX5_goes_181 : decode cX5_goes 181 = .ok (.iload_n 2, 1) := by decide +kernel
theorem dX5_goes_182 : decode cX5_goes 182 = .ok (.iadd, 1) := by decide +kernel
theorem dX5_goes_183 : decode cX5_goes 183 = .ok (.dup2, 1) := by decide +kernel
theorem dX5_goes_184 : decode cX5_goes 184 = .ok (.iaload, 1) := by decide +kernel
theorem dX5_goes_185 : decode cX5_goes 185 = .ok (.iload 6, 2) := by decide +kernel
theorem dX5_goes_187 : decode cX5_goes 187 = .ok (.ifCond .eq 10, 3) := by decide +kernel
theorem dX5_goes_190 : decode cX5_goes 190 = .ok (.iconst 1, 1) := by decide +kernel
theorem dX5_goes_191 : decode cX5_goes 191 = .ok (.iload 5, 2) := by decide +kernel
theorem dX5_goes_193 : decode cX5_goes 193 = .ok (.ishl, 1) := by decide +kernel
theorem dX5_goes_194 : decode cX5_goes 194 = .ok (.goto 4, 3) := by decide +kernel
theorem dX5_goes_197 : decode cX5_goes 197 = .ok (.iconst 0, 1) := by decide +kernel
theorem dX5_goes_198 : decode cX5_goes 198 = .ok (.ior, 1) := by decide +kernel
theorem dX5_goes_199 : decode cX5_goes 199 = .ok (.iastore, 1) := by decide +kernel
theorem dX5_goes_200 : decode cX5_goes 200 = .ok (.iload_n 3, 1) := by decide +kernel
theorem dX5_goes_201 : decode cX5_goes 201 = .ok (.iload 6, 2) := by decide +kernel
theorem dX5_goes_203 : decode cX5_goes 203 = .ok (.ifCond .eq 7, 3) := by decide +kernel
theorem dX5_goes_206 : decode cX5_goes 206 = .ok (.iconst 1, 1) := by decide +kernel
theorem dX5_goes_207 : decode cX5_goes 207 = .ok (.goto 4, 3) := by decide +kernel
theorem dX5_goes_210 : decode cX5_goes 210 = .ok (.iconst 0, 1) := by decide +kernel
theorem dX5_goes_211 : decode cX5_goes 211 = .ok (.iadd, 1) := by decide +kernel
theorem dX5_goes_212 : decode cX5_goes 212 = .ok (.istore_n 3, 1) := by decide +kernel
theorem dX5_goes_213 : decode cX5_goes 213 = .ok (.iinc 5 1, 3) := by decide +kernel
theorem dX5_goes_216 : decode cX5_goes 216 = .ok (.goto (-123), 3) := by decide +kernel
theorem dX5_goes_219 : decode cX5_goes 219 = .ok (.iload_n 3, 1) := by decide +kernel
theorem dX5_goes_220 : decode cX5_goes 220 = .ok (.ireturn, 1) := by decide +kernel
set_option maxRecDepth 20000 in
theorem ggX5_run_X5_in : GoodIn wsX5_run wsX5_in := goodIn_r _ [7] (by decide +kernel) (by decide +kernel)
set_option maxRecDepth 20000 in
theorem gX5_run_X5_in : GoodIn wsX5_run (va_wsS RX5 41 yX5_in wsX5_in) := goodIn_app (goodIn_of _ (by decide +kernel)) ggX5_run_X5_in
set_option maxRecDepth 20000 in
theorem ggX5_run_X5_fails : GoodIn wsX5_run wsX5_fails := goodIn_r _ [11, 1, 36, 37, 38, 39, 40, 41, 42, 43, 44, 45, 46, 47, 48, 49, 50, 51] (by decide +kernel) (by decide +kernel)
set_option maxRecDepth 20000 in
theorem gX5_run_X5_fails : GoodIn wsX5_run (wsV RX5 48 RX5 yX5_fails wsX5_fails) := goodIn_app (goodIn_of _ (by decide +kernel)) ggX5_run_X5_fails
set_option maxRecDepth 20000 in
theorem ggX5_run_X5_saves : GoodIn wsX5_run wsX5_saves := goodIn_r _ [15, 16, 17, 2, 36, 37, 38, 39, 40, 41, 42, 43, 44, 45, 46, 47, 48, 49, 50, 51] (by decide +kernel) (by decide +kernel)
set_option maxRecDepth 20000 in
theorem gX5_run_X5_saves : GoodIn wsX5_run (wsV RX5 94 RX5 yX5_saves wsX5_saves) := goodIn_app (goodIn_of _ (by decide +kernel)) ggX5_run_X5_saves
set_option maxRecDepth 20000 in
theorem ggX5_run_X5_goes : GoodIn wsX5_run wsX5_goes := goodIn_r _ [21, 2, 22, 23, 6, 24, 25, 26, 27, 28, 29, 30, 31, 32, 33, 34, 35, 36, 37, 38, 39, 40, 41, 42, 43, 44, 45, 46, 47, 48, 49, 50, 51] (by decide +kernel) (by decide +kernel)
set_option maxRecDepth 20000 in
theorem gX5_run_X5_goes : GoodIn wsX5_run (wsV RX5 117 RX5 yX5_goes wsX5_goes) := goodIn_app (goodIn_of _ (by decide +kernel)) ggX5_run_X5_goes
