theorem dX10_init_70 : decode cX10_init 70 = .ok (.bipush 12, 2) := by decide +kernel
theorem dX10_init_72 : decode cX10_init 72 = .ok (.newarray .int, 2) := by decide +kernel
theorem dX10_init_74 : decode cX10_init 74 = .ok (.putfield 38, 3) := by decide +kernel
theorem dX10_init_77 : decode cX10_init 77 = .ok (.aload_n 0, 1) := by decide +kernel
theorem dX10_init_78 : decode cX10_init 78 = .ok (.iconst 4, 1) := by decide +kernel
theorem dX10_init_79 : decode cX10_init 79 = .ok (.newarray .int, 2) := by decide +kernel
theorem dX10_init_81 : decode cX10_init 81 = .ok (.putfield 41, 3) := by decide +kernel
theorem dX10_init_84 : decode cX10_init 84 = .ok (.aload_n 0, 1) := by decide +kernel
theorem dX10_init_85 : decode cX10_init 85 = .ok (.iconst 5, 1) := by decide +kernel
theorem dX10_init_86 : decode cX10_init 86 = .ok (.newarray .int, 2) := by decide +kernel
theorem dX10_init_88 : decode cX10_init 88 = .ok (.putfield 44, 3) := by decide +kernel
theorem dX10_init_91 : decode cX10_init 91 = .ok (.aload_n 0, 1) := by decide +kernel
theorem dX10_init_92 : decode cX10_init 92 = .ok (.iconst 5, 1) := by decide +kernel
theorem dX10_init_93 : decode cX10_init 93 = .ok (.newarray .int, 2) := by decide +kernel
theorem dX10_init_95 : decode cX10_init 95 = .ok (.putfield 47, 3) := by decide +kernel
theorem dX10_init_98 : decode cX10_init 98 = .ok (.aload_n 0, 1) := by decide +kernel
theorem dX10_init_99 : decode cX10_init 99 = .ok (.iconst 5, 1) := by decide +kernel
theorem dX10_init_100 : decode cX10_init 100 = .ok (.newarray .int, 2) := by decide +kernel
theorem dX10_init_102 : decode cX10_init 102 = .ok (.putfield 50, 3) := by decide +kernel
theorem dX10_init_105 : decode cX10_init 105 = .ok (.aload_n 0, 1) := by decide +kernel
theorem dX10_init_106 : decode cX10_init 106 = .ok (.iconst 5, 1) := by decide +kernel
theorem dX10_init_107 : decode cX10_init 107 = .ok (.newarray .int, 2) := by decide +kernel
theorem dX10_init_109 : decode cX10_init 109 = .ok (.putfield 53, 3) := by decide +kernel
theorem dX10_init_112 : decode cX10_init 112 = .ok (.aload_n 0, 1) := by decide +kernel
theorem dX10_init_113 : decode cX10_init 113 = .ok (.sipush 460, 3) := by decide +kernel
theorem dX10_init_116 : decode cX10_init 116 = .ok (.newarray .int, 2) := by decide +kernel
theorem dX10_init_118 : decode cX10_init 118 = .ok (.putfield 56, 3) := by decide +kernel
theorem dX10_init_121 : decode cX10_init 121 = .ok (.aload_n 0, 1) := by decide +kernel
theorem dX10_init_122 : decode cX10_init 122 = .ok (.iconst 5, 1) := by decide +kernel
theorem dX10_init_123 : decode cX10_init 123 = .ok (.newarray .int, 2) := by decide +kernel
theorem dX10_init_125 : decode cX10_init 125 = .ok (.putfield 59, 3) := by decide +kernel
theorem dX10_init_128 : decode cX10_init 128 = .ok (.aload_n 0, 1) := by decide +kernel
theorem dX10_init_129 : decode cX10_init 129 = .ok (.iconst 5, 1) := by decide +kernel
theorem dX10_init_130 : decode cX10_init 130 = .ok (.newarray .int, 2) := by decide +kernel
theorem dX10_init_132 : decode cX10_init 132 = .ok (.putfield 62, 3) := by decide +kernel
theorem dX10_init_135 : decode cX10_init 135 = .ok (.aload_n 0, 1) := by decide +kernel
theorem dX10_init_136 : decode cX10_init 136 = .ok (.iconst 5, 1) := by decide +kernel
theorem dX10_init_137 : decode cX10_init 137 = .ok (.newarray .int, 2) := by decide +kernel
theorem dX10_init_139 : decode cX10_init 139 = .ok (.putfield 65, 3) := by decide +kernel
theorem dX10_init_142 : decode cX10_init 142 = .ok (.aload_n 0, 1) := by decide +kernel
theorem dX10_init_143 : decode cX10_init 143 = .ok (.bipush 6, 2) := by decide +kernel
theorem dX10_init_145 : decode cX10_init 145 = .ok (.newarray .int, 2) := by decide +kernel
theorem dX10_init_147 : decode cX10_init 147 = .ok (.putfield 68, 3) := by decide +kernel
theorem dX10_init_150 : decode cX10_init 150 = .ok (.aload_n 0, 1) := by decide +kernel
theorem dX10_init_151 : decode cX10_init 151 = .ok (.bipush 6, 2) := by decide +kernel
theorem dX10_init_153 : decode cX10_init 153 = .ok (.newarray .boolean, 2) := by decide +kernel
theorem dX10_init_155 : decode cX10_init 155 = .ok (.putfield 71, 3) := by decide +kernel
theorem dX10_init_158 : decode cX10_init 158 = .ok (.aload_n 0, 1) := by decide +kernel
theorem dX10_init_159 : decode cX10_init 159 = .ok (.bipush 15, 2) := by decide +kernel
theorem dX10_init_161 : decode cX10_init 161 = .ok (.newarray .int, 2) := by decide +kernel
theorem dX10_init_163 : decode cX10_init 163 = .ok (.putfield 75, 3) := by decide +kernel
theorem dX10_init_166 : decode cX10_init 166 = .ok (.aload_n 0, 1) := by decide +kernel
theorem dX10_init_167 : decode cX10_init 167 = .ok (.bipush 15, 2) := by decide +kernel
theorem dX10_init_169 : decode cX10_init 169 = .ok (.newarray .int, 2) := by decide +kernel
theorem dX10_init_171 : decode cX10_init 171 = .ok (.putfield 78, 3) := by decide +kernel
theorem dX10_init_174 : decode cX10_init 174 = .ok (.aload_n 0, 1) := by decide +kernel
theorem dX10_init_175 : decode cX10_init 175 = .ok (.bipush 48, 2) := by decide +kernel
theorem dX10_init_177 : decode cX10_init 177 = .ok (.newarray .int, 2) := by decide +kernel
theorem dX10_init_179 : decode cX10_init 179 = .ok (.putfield 81, 3) := by decide +kernel
theorem dX10_init_182 : decode cX10_init 182 = .ok (.aload_n 0, 1) := by decide +kernel
theorem dX10_init_183 : decode cX10_init 183 = .ok (.iconst 2, 1) := by decide +kernel
theorem dX10_init_184 : decode cX10_init 184 = .ok (.newarray .boolean, 2) := by decide +kernel
theorem dX10_init_186 : decode cX10_init 186 = .ok (.putfield 84, 3) := by decide +kernel
theorem dX10_init_189 : decode cX10_init 189 = .ok (.iconst 0, 1) := by decide +kernel
theorem dX10_init_190 : decode cX10_init 190 = .ok (.istore_n 1, 1) := by decide +kernel
theorem dX10_init_191 : decode cX10_init 191 = .ok (.iload_n 1, 1) := by decide +kernel
theorem dX10_init_192 : decode cX10_init 192 = .ok (.iconst 4, 1) := by decide +kernel
theorem dX10_init_193 : decode cX10_init 193 = .ok (.if_icmp .ge 18, 3) := by decide +kernel
theorem dX10_init_196 : decode cX10_init 196 = .ok (.aload_n 0, 1) := by decide +kernel
theorem dX10_init_197 : decode cX10_init 197 = .ok (.getfield 28, 3) := by decide +kernel
theorem dX10_init_200 : decode cX10_init 200 = .ok (.iconst 4, 1) := by decide +kernel
theorem dX10_init_201 : decode cX10_init 201 = .ok (.iload_n 1, 1) := by decide +kernel
theorem dX10_init_202 : decode cX10_init 202 = .ok (.iadd, 1) := by decide +kernel
theorem dX10_init_203 : decode cX10_init 203 = .ok (.iconst (-1), 1) := by decide +kernel
theorem dX10_init_204 : decode cX10_init 204 = .ok (.iastore, 1) := by decide +kernel
theorem dX10_init_205 : decode cX10_init 205 = .ok (.iinc 1 1, 3) := by decide +kernel
theorem dX10_init_208 : decode cX10_init 208 = .ok (.goto (-17), 3) := by decide +kernel
theorem dX10_init_211 : decode cX10_init 211 = .ok (.return_, 1) := by decide +kernel
theorem dX10_in_0 : decode cX10_in 0 = .ok (.lload_n 0, 1) := by decide +kernel
theorem dX10_in_1 : decode cX10_in 1 = .ok (.lload_n 2, 1) := by decide +kernel
theorem dX10_in_2 : decode cX10_in 2 = .ok (.lcmp, 1) := by decide +kernel
theorem dX10_in_3 : decode cX10_in 3 = .ok (.ifCond .lt 14, 3) := by decide +kernel
theorem dX10_in_6 : decode cX10_in 6 = .ok (.lload_n 0, 1) := by decide +kernel
theorem dX10_in_7 : decode cX10_in 7 = .ok (.lload 4, 2) := by decide +kernel
theorem dX10_in_9 : decode cX10_in 9 = .ok (.lcmp, 1) := by decide +kernel
theorem dX10_in_10 : decode cX10_in 10 = .ok (.ifCond .gt 7, 3) := by decide +kernel
theorem dX10_in_13 : decode cX10_in 13 = .ok (.iconst 1, 1) := by decide +kernel
theorem dX10_in_14 : decode cX10_in 14 = .ok (.goto 4, 3) := by decide +kernel
theorem dX10_in_17 : decode cX10_in 17 = .ok (.iconst 0, 1) := by decide +kernel
theorem dX10_in_18 : decode cX10_in 18 = .ok (.ireturn, 1) := by decide +kernel
set_option maxRecDepth 20000 in
theorem ggX10_isHut_X10_in : GoodIn wsX10_isHut wsX10_in := goodIn_r _ [5] (by decide +kernel) (by decide +kernel)
set_option maxRecDepth 20000 in
theorem gX10_isHut_X10_in : GoodIn wsX10_isHut (va_wsS RX10 90 yX10_in wsX10_in) := goodIn_app (goodIn_of _ (by decide +kernel)) ggX10_isHut_X10_in
theorem dX10_isHut_0 : decode cX10_isHut 0 = .ok (.iload_n 1, 1) := by decide +kernel
theorem dX10_isHut_1 : decode cX10_isHut 1 = .ok (.i2l, 1) := by decide +kernel
theorem dX10_isHut_2 : decode cX10_isHut 2 = .ok (.lconst 0, 1) := by decide +kernel
theorem dX10_isHut_3 : decode cX10_isHut 3 = .ok (.aload_n 0, 1) := by decide +kernel
theorem dX10_isHut_4 : decode cX10_isHut 4 = .ok (.getfield 87, 3) := by decide +kernel
theorem dX10_isHut_7 : decode cX10_isHut 7 = .ok (.iconst 1, 1) := by decide +kernel
theorem dX10_isHut_8 : decode cX10_isHut 8 = .ok (.isub, 1) := by decide +kernel
theorem dX10_isHut_9 : decode cX10_isHut 9 = .ok (.i2l, 1) := by decide +kernel
theorem dX10_isHut_10 : decode cX10_isHut 10 = .ok (.invokestatic 90, 3) := by decide +kernel
theorem dX10_isHut_13 : decode cX10_isHut 13 = .ok (.ireturn, 1) := by decide +kernel
set_option maxRecDepth 20000 in
theorem ggX10_isCase_X10_in : GoodIn wsX10_isCase wsX10_in := goodIn_r _ [5] (by decide +kernel) (by decide +kernel)
set_option maxRecDepth 20000 in
theorem gX10_isCase_X10_in : GoodIn wsX10_isCase (va_wsS RX10 90 yX10_in wsX10_in) := goodIn_app (goodIn_of _ (by decide +kernel)) ggX10_isCase_X10_in
theorem dX10_isCase_0 : decode cX10_isCase 0 = .ok (.iload_n 1, 1) := by decide +kernel
theorem dX10_isCase_1 : decode cX10_isCase 1 = .ok (.i2l, 1) := by decide +kernel
theorem dX10_isCase_2 : decode cX10_isCase 2 = .ok (.lconst 0, 1) := by decide +kernel
theorem dX10_isCase_3 : decode cX10_isCase 3 = .ok (.aload_n 0, 1) := by decide +kernel
theorem dX10_isCase_4 : decode cX10_isCase 4 = .ok (.getfield 94, 3) := by decide +kernel
theorem dX10_isCase_7 : decode cX10_isCase 7 = .ok (.iconst 1, 1) := by decide +kernel
theorem dX10_isCase_8 : decode cX10_isCase 8 = .ok (.isub, 1) := by decide +kernel
theorem dX10_isCase_9 : decode cX10_isCase 9 = .ok (.i2l, 1) := by decide +kernel
theorem dX10_isCase_10 : decode cX10_isCase 10 = .ok (.invokestatic 90, 3) := by decide +kernel
theorem dX10_isCase_13 : decode cX10_isCase 13 = .ok (.ireturn, 1) := by decide +kernel
set_option maxRecDepth 20000 in
theorem ggX10_isCell_X10_in : GoodIn wsX10_isCell wsX10_in := goodIn_r _ [5] (by decide +kernel) (by decide +kernel)
set_option maxRecDepth 20000 in
theorem gX10_isCell_X10_in : GoodIn wsX10_isCell (va_wsS RX10 90 yX10_in wsX10_in) := goodIn_app (goodIn_of _ (by decide +kernel)) ggX10_isCell_X10_in
theorem dX10_isCell_0 : decode cX10_isCell 0 = .ok (.iload_n 0, 1) := by decide +kernel
theorem dX10_isCell_1 : decode cX10_isCell 1 = .ok (.i2l, 1) := by decide +kernel
theorem dX10_isCell_2 : decode cX10_isCell 2 = .ok (.lconst 0, 1) := by decide +kernel
theorem dX10_isCell_3 : decode cX10_isCell 3 = .ok (.ldc2_w 97, 3) := by decide +kernel
theorem dX10_isCell_6 : decode cX10_isCell 6 = .ok (.invokestatic 90, 3) := by decide +kernel
theorem dX10_isCell_9 : decode cX10_isCell 9 = .ok (.ireturn, 1) := by decide +kernel
set_option maxRecDepth 20000 in
theorem ggX10_feed_X10_in : GoodIn wsX10_feed wsX10_in := goodIn_r _ [9] (by decide +kernel) (by decide +kernel)
set_option maxRecDepth 20000 in
theorem gX10_feed_X10_in : GoodIn wsX10_feed (va_wsS RX10 90 yX10_in wsX10_in) := goodIn_app (goodIn_of _ (by decide +kernel)) ggX10_feed_X10_in
theorem dX10_feed_0 : decode cX10_feed 0 = .ok (.iload_n 1, 1) := by decide +kernel
theorem dX10_feed_1 : decode cX10_feed 1 = .ok (.i2l, 1) := by decide +kernel
theorem dX10_feed_2 : decode cX10_feed 2 = .ok (.lconst 0, 1) := by decide +kernel
theorem dX10_feed_3 : decode cX10_feed 3 = .ok (.ldc2_w 99, 3) := by decide +kernel
theorem dX10_feed_6 : decode cX10_feed 6 = .ok (.invokestatic 90, 3) := by decide +kernel
theorem dX10_feed_9 : decode cX10_feed 9 = .ok (.ifCond .ne 6, 3) := by decide +kernel
theorem dX10_feed_12 : decode cX10_feed 12 = .ok (.ldc 101, 2) := by decide +kernel
theorem dX10_feed_14 : decode cX10_feed 14 = .ok (.ireturn, 1) := by decide +kernel
theorem dX10_feed_15 : decode cX10_feed 15 = .ok (.aload_n 0, 1) := by decide +kernel
theorem dX10_feed_16 : decode cX10_feed 16 = .ok (.getfield 102, 3) := by decide +kernel
theorem dX10_feed_19 : decode cX10_feed 19 = .ok (.sipush 240, 3) := by decide +kernel
theorem dX10_feed_22 : decode cX10_feed 22 = .ok (.if_icmp .ne 6, 3) := by decide +kernel
theorem dX10_feed_25 : decode cX10_feed 25 = .ok (.ldc 105, 2) := by decide +kernel
theorem dX10_feed_27 : decode cX10_feed 27 = .ok (.ireturn, 1) := by decide +kernel
theorem dX10_feed_28 : decode cX10_feed 28 = .ok (.aload_n 0, 1) := by decide +kernel
theorem dX10_feed_29 : decode cX10_feed 29 = .ok (.getfield 31, 3) := by decide +kernel
theorem dX10_feed_32 : decode cX10_feed 32 = .ok (.aload_n 0, 1) := by decide +kernel
theorem dX10_feed_33 : decode cX10_feed 33 = .ok (.getfield 102, 3) := by decide +kernel
theorem dX10_feed_36 : decode cX10_feed 36 = .ok (.iload_n 1, 1) := by decide +kernel
theorem dX10_feed_37 : decode cX10_feed 37 = .ok (.iastore, 1) := by decide +kernel
theorem dX10_feed_38 : decode cX10_feed 38 = .ok (.aload_n 0, 1) := by decide +kernel
theorem dX10_feed_39 : decode cX10_feed 39 = .ok (.dup, 1) := by decide +kernel
theorem dX10_feed_40 : decode cX10_feed 40 = .ok (.getfield 102, 3) := by decide +kernel
theorem dX10_feed_43 : decode cX10_feed 43 = .ok (.iconst 1, 1) := by decide +kernel
theorem dX10_feed_44 : decode cX10_feed 44 = .ok (.iadd, 1) := by decide +kernel
theorem dX10_feed_45 : decode cX10_feed 45 = .ok (.putfield 102, 3) := by decide +kernel
theorem dX10_feed_48 : decode cX10_feed 48 = .ok (.aload_n 0, 1) := by decide +kernel
theorem dX10_feed_49 : decode cX10_feed 49 = .ok (.getfield 102, 3) := by decide +kernel
theorem dX10_feed_52 : decode cX10_feed 52 = .ok (.ireturn, 1) := by decide +kernel
theorem dX10_here_0 : decode cX10_here 0 = .ok (.aload_n 0, 1) := by decide +kernel
theorem dX10_here_1 : decode cX10_here 1 = .ok (.getfield 106, 3) := by decide +kernel
theorem dX10_here_4 : decode cX10_here 4 = .ok (.aload_n 0, 1) := by decide +kernel
theorem dX10_here_5 : decode cX10_here 5 = .ok (.getfield 102, 3) := by decide +kernel
theorem dX10_here_8 : decode cX10_here 8 = .ok (.if_icmp .ge 30, 3) := by decide +kernel
theorem dX10_here_11 : decode cX10_here 11 = .ok (.aload_n 0, 1) := by decide +kernel
theorem dX10_here_12 : decode cX10_here 12 = .ok (.getfield 31, 3) := by decide +kernel
theorem dX10_here_15 : decode cX10_here 15 = .ok (.aload_n 0, 1) := by decide +kernel
theorem dX10_here_16 : decode cX10_here 16 = .ok (.getfield 106, 3) := by decide +kernel
theorem dX10_here_19 : decode cX10_here 19 = .ok (.iaload, 1) := by decide +kernel
theorem dX10_here_20 : decode cX10_here 20 = .ok (.bipush 32, 2) := by decide +kernel
theorem dX10_here_22 : decode cX10_here 22 = .ok (.if_icmp .ne 16, 3) := by decide +kernel
theorem dX10_here_25 : decode cX10_here 25 = .ok (.aload_n 0, 1) := by decide +kernel
theorem dX10_here_26 : decode cX10_here 26 = .ok (.dup, 1) := by decide +kernel
theorem dX10_here_27 : decode cX10_here 27 = .ok (.getfield 106, 3) := by decide +kernel
theorem dX10_here_30 : decode cX10_here 30 = .ok (.iconst 1, 1) := by decide +kernel
theorem dX10_here_31 : decode cX10_here 31 = .ok (.iadd, 1) := by decide +kernel
theorem dX10_here_32 : decode cX10_here 32 = .ok (.putfield 106, 3) := by decide +kernel
theorem dX10_here_35 : decode cX10_here 35 = .ok (.goto (-35), 3) := by decide +kernel
theorem dX10_here_38 : decode cX10_here 38 = .ok (.aload_n 0, 1) := by decide +kernel
theorem dX10_here_39 : decode cX10_here 39 = .ok (.getfield 106, 3) := by decide +kernel
theorem dX10_here_42 : decode cX10_here 42 = .ok (.aload_n 0, 1) := by decide +kernel
theorem dX10_here_43 : decode cX10_here 43 = .ok (.getfield 102, 3) := by decide +kernel
theorem dX10_here_46 : decode cX10_here 46 = .ok (.if_icmp .ge 15, 3) := by decide +kernel
theorem dX10_here_49 : decode cX10_here 49 = .ok (.aload_n 0, 1) := by decide +kernel
theorem dX10_here_50 : decode cX10_here 50 = .ok (.getfield 31, 3) := by decide +kernel
theorem dX10_here_53 : decode cX10_here 53 = .ok (.aload_n 0, 1) := by decide +kernel
theorem dX10_here_54 : decode cX10_here 54 = .ok (.getfield 106, 3) := by decide +kernel
theorem dX10_here_57 : decode cX10_here 57 = .ok (.iaload, 1) := by decide +kernel
theorem dX10_here_58 : decode cX10_here 58 = .ok (.goto 4, 3) := by decide +kernel
theorem dX10_here_61 : decode cX10_here 61 = .ok (.iconst (-1), 1) := by decide +kernel
theorem dX10_here_62 : decode cX10_here 62 = .ok (.ireturn, 1) := by decide +kernel
theorem dX10_fails_0 : decode cX10_fails 0 = .ok (.aload_n 0, 1) := by decide +kernel
theorem dX10_fails_1 : decode cX10_fails 1 = .ok (.iload_n 2, 1) := by decide +kernel
theorem dX10_fails_2 : decode cX10_fails 2 = .ok (.putfield 34, 3) := by decide +kernel
theorem dX10_fails_5 : decode cX10_fails 5 = .ok (.iload_n 1, 1) := by decide +kernel
theorem dX10_fails_6 : decode cX10_fails 6 = .ok (.ireturn, 1) := by decide +kernel
set_option maxRecDepth 20000 in
theorem ggX10_takeNumber_X10_here : GoodIn wsX10_takeNumber wsX10_here := goodIn_r _ [12, 3, 6, 7, 21, 22, 23, 24, 25, 26, 27, 28, 29, 30, 31, 32, 33, 34, 35, 36, 37, 38, 39, 40, 41, 42, 43, 44, 45, 46, 47, 48, 49, 50, 51, 52, 53, 54, 55, 56, 57, 58, 59] (by decide +kernel) (by decide +kernel)
set_option maxRecDepth 20000 in
theorem gX10_takeNumber_X10_here : GoodIn wsX10_takeNumber (wsV RX10 109 RX10 yX10_here wsX10_here) := goodIn_app (goodIn_of _ (by decide +kernel)) ggX10_takeNumber_X10_here
set_option maxRecDepth 20000 in
theorem ggX10_takeNumber_X10_in : GoodIn wsX10_takeNumber wsX10_in := goodIn_r _ [15] (by decide +kernel) (by decide +kernel)
set_option maxRecDepth 20000 in
theorem gX10_takeNumber_X10_in : GoodIn wsX10_takeNumber (va_wsS RX10 90 yX10_in wsX10_in) := goodIn_app (goodIn_of _ (by decide +kernel)) ggX10_takeNumber_X10_in
set_option maxRecDepth 20000 in
theorem ggX10_takeNumber_X10_fails : GoodIn wsX10_takeNumber wsX10_fails := goodIn_r _ [19, 20, 21, 22, 23, 24, 25, 26, 27, 28, 29, 30, 31, 32, 33, 34, 35, 36, 37, 38, 39, 40, 41, 42, 43, 44, 45, 46, 47, 48, 49, 50, 51, 52, 53, 54, 55, 56, 57, 58, 59] (by decide +kernel) (by decide +kernel)
set_option maxRecDepth 20000 in
theorem gX10_takeNumber_X10_fails : GoodIn wsX10_takeNumber (wsV RX10 117 RX10 yX10_fails wsX10_fails) := goodIn_app (goodIn_of _ (by decide +kernel)) ggX10_takeNumber_X10_fails
theorem dX10_takeNumber_0 : decode cX10_takeNumber 0 = .ok (.aload_n 0, 1) := by decide +kernel
theorem dX10_takeNumber_1 : decode cX10_takeNumber 1 = .ok (.invokevirtual 109, 3) := by decide +kernel
theorem dX10_takeNumber_4 : decode cX10_takeNumber 4 = .ok (.istore_n 3, 1) := by decide +kernel
theorem dX10_takeNumber_5 : decode cX10_takeNumber 5 = .ok (.iload_n 3, 1) := by decide +kernel
theorem dX10_takeNumber_6 : decode cX10_takeNumber 6 = .ok (.i2l, 1) := by decide +kernel
theorem dX10_takeNumber_7 : decode cX10_takeNumber 7 = .ok (.ldc2_w 113, 3) := by decide +kernel
theorem dX10_takeNumber_10 : decode cX10_takeNumber 10 = .ok (.ldc2_w 115, 3) := by decide +kernel
theorem dX10_takeNumber_13 : decode cX10_takeNumber 13 = .ok (.invokestatic 90, 3) := by decide +kernel
theorem dX10_takeNumber_16 : decode cX10_takeNumber 16 = .ok (.ifCond .ne 13, 3) := by decide +kernel
theorem dX10_takeNumber_19 : decode cX10_takeNumber 19 = .ok (.aload_n 0, 1) := by decide +kernel
theorem dX10_takeNumber_20 : decode cX10_takeNumber 20 = .ok (.iconst 1, 1) := by decide +kernel
theorem dX10_takeNumber_21 : decode cX10_takeNumber 21 = .ok (.aload_n 0, 1) := by decide +kernel
theorem dX10_takeNumber_22 : decode cX10_takeNumber 22 = .ok (.getfield 106, 3) := by decide +kernel
theorem dX10_takeNumber_25 : decode cX10_takeNumber 25 = .ok (.invokevirtual 117, 3) := by decide +kernel
theorem dX10_takeNumber_28 : decode cX10_takeNumber 28 = .ok (.ireturn, 1) := by decide +kernel
theorem dX10_takeNumber_29 : decode cX10_takeNumber 29 = .ok (.aload_n 0, 1) := by decide +kernel
theorem dX10_takeNumber_30 : decode cX10_takeNumber 30 = .ok (.aload_n 0, 1) := by decide +kernel
theorem dX10_takeNumber_31 : decode cX10_takeNumber 31 = .ok (.getfield 106, 3) := by decide +kernel
theorem dX10_takeNumber_34 : decode cX10_takeNumber 34 = .ok (.putfield 121, 3) := by decide +kernel
theorem dX10_takeNumber_37 : decode cX10_takeNumber 37 = .ok (.aload_n 0, 1) := by decide +kernel
theorem dX10_takeNumber_38 : decode cX10_takeNumber 38 = .ok (.iconst 0, 1) := by decide +kernel
theorem dX10_takeNumber_39 : decode cX10_takeNumber 39 = .ok (.putfield 124, 3) := by decide +kernel
theorem dX10_takeNumber_42 : decode cX10_takeNumber 42 = .ok (.aload_n 0, 1) := by decide +kernel
theorem dX10_takeNumber_43 : decode cX10_takeNumber 43 = .ok (.getfield 106, 3) := by decide +kernel
theorem dX10_takeNumber_46 : decode cX10_takeNumber 46 = .ok (.aload_n 0, 1) := by decide +kernel
theorem dX10_takeNumber_47 : decode cX10_takeNumber 47 = .ok (.getfield 102, 3) := by decide +kernel
theorem dX10_takeNumber_50 : decode cX10_takeNumber 50 = .ok (.if_icmp .ge 79, 3) := by decide +kernel
theorem dX10_takeNumber_53 : decode cX10_takeNumber 53 = .ok (.aload_n 0, 1) := by decide +kernel
theorem dX10_takeNumber_54 : decode cX10_takeNumber 54 = .ok (.getfield 31, 3) := by decide +kernel
theorem dX10_takeNumber_57 : decode cX10_takeNumber 57 = .ok (.aload_n 0, 1) := by decide +kernel
theorem dX10_takeNumber_58 : decode cX10_takeNumber 58 = .ok (.getfield 106, 3) := by decide +kernel
theorem dX10_takeNumber_61 : decode cX10_takeNumber 61 = .ok (.iaload, 1) := by decide +kernel
theorem dX10_takeNumber_62 : decode cX10_takeNumber 62 = .ok (.i2l, 1) := by decide +kernel
theorem dX10_takeNumber_63 : decode cX10_takeNumber 63 = .ok (.ldc2_w 113, 3) := by decide +kernel
theorem dX10_takeNumber_66 : decode cX10_takeNumber 66 = .ok (.ldc2_w 115, 3) := by decide +kernel
theorem dX10_takeNumber_69 : decode cX10_takeNumber 69 = .ok (.invokestatic 90, 3) := by decide +kernel
theorem dX10_takeNumber_72 : decode cX10_takeNumber 72 = .ok (.ifCond .eq 57, 3) := by decide +kernel
theorem dX10_takeNumber_75 : decode cX10_takeNumber 75 = .ok (.aload_n 0, 1) := by decide +kernel
theorem dX10_takeNumber_76 : decode cX10_takeNumber 76 = .ok (.aload_n 0, 1) := by decide +kernel
theorem dX10_takeNumber_77 : decode cX10_takeNumber 77 = .ok (.getfield 124, 3) := by decide +kernel
theorem dX10_takeNumber_80 : decode cX10_takeNumber 80 = .ok (.sipush 10000, 3) := by decide +kernel
theorem dX10_takeNumber_83 : decode cX10_takeNumber 83 = .ok (.if_icmp .le 10, 3) := by decide +kernel
theorem dX10_takeNumber_86 : decode cX10_takeNumber 86 = .ok (.aload_n 0, 1) := by decide +kernel
theorem dX10_takeNumber_87 : decode cX10_takeNumber 87 = .ok (.getfield 124, 3) := by decide +kernel
theorem dX10_takeNumber_90 : decode cX10_takeNumber 90 = .ok (.goto 23, 3) := by decide +kernel
theorem dX10_takeNumber_93 : decode cX10_takeNumber 93 = .ok (.bipush 10, 2) := by decide +kernel
theorem dX10_takeNumber_95 : decode cX10_takeNumber 95 = .ok (.aload_n 0, 1) := by decide +kernel
theorem dX10_takeNumber_96 : decode cX10_takeNumber 96 = .ok (.getfield 124, 3) := by decide +kernel
theorem dX10_takeNumber_99 : decode cX10_takeNumber 99 = .ok (.imul, 1) := by decide +kernel
theorem dX10_takeNumber_100 : decode cX10_takeNumber 100 = .ok (.aload_n 0, 1) := by decide +kernel
theorem dX10_takeNumber_101 : decode cX10_takeNumber 101 = .ok (.getfield 31, 3) := by decide +kernel
theorem dX10_takeNumber_104 : decode cX10_takeNumber 104 = .ok (.aload_n 0, 1) := by decide +kernel
theorem dX10_takeNumber_105 : decode cX10_takeNumber 105 = .ok (.getfield 106, 3) := by decide +kernel
theorem dX10_takeNumber_108 : decode cX10_takeNumber 108 = .ok (.iaload, 1) := by decide +kernel
theorem dX10_takeNumber_109 : decode cX10_takeNumber 109 = .ok (.iadd, 1) := by decide +kernel
theorem dX10_takeNumber_110 : decode cX10_takeNumber 110 = .ok (.bipush 48, 2) := by decide +kernel
theorem dX10_takeNumber_112 : decode cX10_takeNumber 112 = .ok (.isub, 1) := by decide +kernel
theorem dX10_takeNumber_113 : decode cX10_takeNumber 113 = .ok (.putfield 124, 3) := by decide +kernel
theorem dX10_takeNumber_116 : decode cX10_takeNumber 116 = .ok (.aload_n 0, 1) := by decide +kernel
theorem dX10_takeNumber_117 : decode cX10_takeNumber 117 = .ok (.dup, 1) := by decide +kernel
theorem dX10_takeNumber_118 : decode cX10_takeNumber 118 = .ok (.getfield 106, 3) := by decide +kernel
theorem dX10_takeNumber_121 : decode cX10_takeNumber 121 = .ok (.iconst 1, 1) := by decide +kernel
theorem dX10_takeNumber_122 : decode cX10_takeNumber 122 = .ok (.iadd, 1) := by decide +kernel
theorem dX10_takeNumber_123 : decode cX10_takeNumber 123 = .ok (.putfield 106, 3) := by decide +kernel
theorem dX10_takeNumber_126 : decode cX10_takeNumber 126 = .ok (.goto (-84), 3) := by decide +kernel
theorem dX10_takeNumber_129 : decode cX10_takeNumber 129 = .ok (.aload_n 0, 1) := by decide +kernel
theorem dX10_takeNumber_130 : decode cX10_takeNumber 130 = .ok (.getfield 106, 3) := by decide +kernel
theorem dX10_takeNumber_133 : decode cX10_takeNumber 133 = .ok (.aload_n 0, 1) := by decide +kernel
theorem dX10_takeNumber_134 : decode cX10_takeNumber 134 = .ok (.getfield 121, 3) := by decide +kernel
theorem dX10_takeNumber_137 : decode cX10_takeNumber 137 = .ok (.isub, 1) := by decide +kernel
theorem dX10_takeNumber_138 : decode cX10_takeNumber 138 = .ok (.iconst 3, 1) := by decide +kernel
theorem dX10_takeNumber_139 : decode cX10_takeNumber 139 = .ok (.if_icmp .gt 18, 3) := by decide +kernel
theorem dX10_takeNumber_142 : decode cX10_takeNumber 142 = .ok (.aload_n 0, 1) := by decide +kernel
theorem dX10_takeNumber_143 : decode cX10_takeNumber 143 = .ok (.getfield 124, 3) := by decide +kernel
theorem dX10_takeNumber_146 : decode cX10_takeNumber 146 = .ok (.i2l, 1) := by decide +kernel
theorem dX10_takeNumber_147 : decode cX10_takeNumber 147 = .ok (.iload_n 1, 1) := by decide +kernel
theorem dX10_takeNumber_148 : decode cX10_takeNumber 148 = .ok (.i2l, 1) := by decide +kernel
theorem dX10_takeNumber_149 : decode cX10_takeNumber 149 = .ok (.iload_n 2, 1) := by decide +kernel
theorem dX10_takeNumber_150 : decode cX10_takeNumber 150 = .ok (.i2l, 1) := by decide +kernel
theorem dX10_takeNumber_151 : decode cX10_takeNumber 151 = .ok (.invokestatic 90, 3) := by decide +kernel
theorem dX10_takeNumber_154 : decode cX10_takeNumber 154 = .ok (.ifCond .ne 15, 3) := by decide +kernel
theorem dX10_takeNumber_157 : decode cX10_takeNumber 157 = .ok (.aload_n 0, 1) := by decide +kernel
theorem dX10_takeNumber_158 : decode cX10_takeNumber 158 = .ok (.iconst 2, 1) := by decide +kernel
theorem dX10_takeNumber_159 : decode cX10_takeNumber 159 = .ok (.aload_n 0, 1) := by decide +kernel
theorem dX10_takeNumber_160 : decode cX10_takeNumber 160 = .ok (.getfield 121, 3) := by decide +kernel
theorem dX10_takeNumber_163 : decode cX10_takeNumber 163 = .ok (.invokevirtual 117, 3) := by decide +kernel
theorem dX10_takeNumber_166 : decode cX10_takeNumber 166 = .ok (.goto 4, 3) := by decide +kernel
theorem dX10_takeNumber_169 : decode cX10_takeNumber 169 = .ok (.iconst 0, 1) := by decide +kernel
theorem dX10_takeNumber_170 : decode cX10_takeNumber 170 = .ok (.ireturn, 1) := by decide +kernel
set_option maxRecDepth 20000 in
theorem ggX10_into_X10_takeNumber : GoodIn wsX10_into wsX10_takeNumber := goodIn_r _ [6, 7, 8, 9, 10, 1, 11, 12, 13, 14, 15, 5, 16, 17, 18, 19, 20, 21, 22, 23, 24, 25, 26, 27, 28, 29, 30, 31, 32, 33, 34, 35, 36, 37, 38, 39, 40, 41, 42, 43, 44, 45, 46, 47, 48, 49, 50, 51, 52, 53, 54, 55, 56, 57, 58, 59, 60, 61, 62, 63] (by decide +kernel) (by decide +kernel)
set_option maxRecDepth 20000 in
theorem gX10_into_X10_takeNumber : GoodIn wsX10_into (wsV RX10 127 RX10 yX10_takeNumber wsX10_takeNumber) := goodIn_app (goodIn_of _ (by decide +kernel)) ggX10_into_X10_takeNumber
theorem dX10_into_0 : decode cX10_into 0 = .ok (.aload_n 0, 1) := by decide +kernel
theorem dX10_into_1 : decode cX10_into 1 = .ok (.iload_n 3, 1) := by decide +kernel
theorem dX10_into_2 : decode cX10_into 2 = .ok (.iload 4, 2) := by decide +kernel
theorem dX10_into_4 : decode cX10_into 4 = .ok (.invokevirtual 127, 3) := by decide +kernel
theorem dX10_into_7 : decode cX10_into 7 = .ok (.istore 5, 2) := by decide +kernel
theorem dX10_into_9 : decode cX10_into 9 = .ok (.aload_n 1, 1) := by decide +kernel
theorem dX10_into_10 : decode cX10_into 10 = .ok (.iload_n 2, 1) := by decide +kernel
theorem dX10_into_11 : decode cX10_into 11 = .ok (.aload_n 0, 1) := by decide +kernel
theorem dX10_into_12 : decode cX10_into 12 = .ok (.getfield 124, 3) := by decide +kernel
theorem dX10_into_15 : decode cX10_into 15 = .ok (.iastore, 1) := by decide +kernel
theorem dX10_into_16 : decode cX10_into 16 = .ok (.iload 5, 2) := by decide +kernel
theorem dX10_into_18 : decode cX10_into 18 = .ok (.ireturn, 1) := by decide +kernel
set_option maxRecDepth 20000 in
theorem ggX10_takeTide_X10_into : GoodIn wsX10_takeTide wsX10_into := goodIn_r _ [8, 9, 10, 11, 12, 7, 13, 14, 15, 3, 16, 17, 18, 19, 20, 21, 22, 23, 24, 25, 26, 27, 28, 29, 30, 31, 32, 33, 34, 35, 36, 37, 38, 39, 40, 41, 42, 43, 44, 45, 46, 47, 48, 49, 50, 51, 52, 53, 54, 55, 56, 57, 58, 59, 60, 61, 62, 63, 64, 65, 66, 67, 68, 69] (by decide +kernel) (by decide +kernel)
set_option maxRecDepth 20000 in
theorem gX10_takeTide_X10_into : GoodIn wsX10_takeTide (wsV RX10 130 RX10 yX10_into wsX10_into) := goodIn_app (goodIn_of _ (by decide +kernel)) ggX10_takeTide_X10_into
set_option maxRecDepth 20000 in
theorem ggX10_takeTide_X10_here : GoodIn wsX10_takeTide wsX10_here := goodIn_r _ [22, 3, 17, 18, 31, 32, 33, 34, 35, 36, 37, 38, 39, 40, 41, 42, 43, 44, 45, 46, 47, 48, 49, 50, 51, 52, 53, 54, 55, 56, 57, 58, 59, 60, 61, 62, 63, 64, 65, 66, 67, 68, 69] (by decide +kernel) (by decide +kernel)
set_option maxRecDepth 20000 in
theorem gX10_takeTide_X10_here : GoodIn wsX10_takeTide (wsV RX10 109 RX10 yX10_here wsX10_here) := goodIn_app (goodIn_of _ (by decide +kernel)) ggX10_takeTide_X10_here
set_option maxRecDepth 20000 in
theorem ggX10_takeTide_X10_fails : GoodIn wsX10_takeTide wsX10_fails := goodIn_r _ [29, 30, 31, 32, 33, 34, 35, 36, 37, 38, 39, 40, 41, 42, 43, 44, 45, 46, 47, 48, 49, 50, 51, 52, 53, 54, 55, 56, 57, 58, 59, 60, 61, 62, 63, 64, 65, 66, 67, 68, 69] (by decide +kernel) (by decide +kernel)
set_option maxRecDepth 20000 in
theorem gX10_takeTide_X10_fails : GoodIn wsX10_takeTide (wsV RX10 117 RX10 yX10_fails wsX10_fails) := goodIn_app (goodIn_of _ (by decide +kernel)) ggX10_takeTide_X10_fails
theorem dX10_takeTide_0 : decode cX10_takeTide 0 = .ok (.aload_n 0, 1) := by decide +kernel
theorem dX10_takeTide_1 : decode cX10_takeTide 1 = .ok (.aload_n 0, 1) := by decide +kernel
theorem dX10_takeTide_2 : decode cX10_takeTide 2 = .ok (.getfield 38, 3) := by decide +kernel
theorem dX10_takeTide_5 : decode cX10_takeTide 5 = .ok (.iconst 0, 1) := by decide +kernel
theorem dX10_takeTide_6 : decode cX10_takeTide 6 = .ok (.iconst 0, 1) := by decide +kernel
theorem dX10_takeTide_7 : decode cX10_takeTide 7 = .ok (.bipush 9, 2) := by decide +kernel
theorem dX10_takeTide_9 : decode cX10_takeTide 9 = .ok (.invokevirtual 130, 3) := by decide +kernel
theorem dX10_takeTide_12 : decode cX10_takeTide 12 = .ok (.istore_n 1, 1) := by decide +kernel
theorem dX10_takeTide_13 : decode cX10_takeTide 13 = .ok (.aload_n 0, 1) := by decide +kernel
theorem dX10_takeTide_14 : decode cX10_takeTide 14 = .ok (.iconst 1, 1) := by decide +kernel
theorem dX10_takeTide_15 : decode cX10_takeTide 15 = .ok (.putfield 134, 3) := by decide +kernel
theorem dX10_takeTide_18 : decode cX10_takeTide 18 = .ok (.iload_n 1, 1) := by decide +kernel
theorem dX10_takeTide_19 : decode cX10_takeTide 19 = .ok (.ifCond .ne 70, 3) := by decide +kernel
theorem dX10_takeTide_22 : decode cX10_takeTide 22 = .ok (.aload_n 0, 1) := by decide +kernel
theorem dX10_takeTide_23 : decode cX10_takeTide 23 = .ok (.invokevirtual 109, 3) := by decide +kernel
theorem dX10_takeTide_26 : decode cX10_takeTide 26 = .ok (.bipush 44, 2) := by decide +kernel
theorem dX10_takeTide_28 : decode cX10_takeTide 28 = .ok (.if_icmp .ne 61, 3) := by decide +kernel
theorem dX10_takeTide_31 : decode cX10_takeTide 31 = .ok (.aload_n 0, 1) := by decide +kernel
theorem dX10_takeTide_32 : decode cX10_takeTide 32 = .ok (.getfield 134, 3) := by decide +kernel
theorem dX10_takeTide_35 : decode cX10_takeTide 35 = .ok (.bipush 12, 2) := by decide +kernel
theorem dX10_takeTide_37 : decode cX10_takeTide 37 = .ok (.if_icmp .ne 13, 3) := by decide +kernel
theorem dX10_takeTide_40 : decode cX10_takeTide 40 = .ok (.aload_n 0, 1) := by decide +kernel
theorem dX10_takeTide_41 : decode cX10_takeTide 41 = .ok (.iconst 1, 1) := by decide +kernel
theorem dX10_takeTide_42 : decode cX10_takeTide 42 = .ok (.aload_n 0, 1) := by decide +kernel
theorem dX10_takeTide_43 : decode cX10_takeTide 43 = .ok (.getfield 106, 3) := by decide +kernel
theorem dX10_takeTide_46 : decode cX10_takeTide 46 = .ok (.invokevirtual 117, 3) := by decide +kernel
theorem dX10_takeTide_49 : decode cX10_takeTide 49 = .ok (.ireturn, 1) := by decide +kernel
theorem dX10_takeTide_50 : decode cX10_takeTide 50 = .ok (.aload_n 0, 1) := by decide +kernel
theorem dX10_takeTide_51 : decode cX10_takeTide 51 = .ok (.dup, 1) := by decide +kernel
theorem dX10_takeTide_52 : decode cX10_takeTide 52 = .ok (.getfield 106, 3) := by decide +kernel
theorem dX10_takeTide_55 : decode cX10_takeTide 55 = .ok (.iconst 1, 1) := by decide +kernel
theorem dX10_takeTide_56 : decode cX10_takeTide 56 = .ok (.iadd, 1) := by decide +kernel
theorem dX10_takeTide_57 : decode cX10_takeTide 57 = .ok (.putfield 106, 3) := by decide +kernel
theorem dX10_takeTide_60 : decode cX10_takeTide 60 = .ok (.aload_n 0, 1) := by decide +kernel
theorem dX10_takeTide_61 : decode cX10_takeTide 61 = .ok (.aload_n 0, 1) := by decide +kernel
theorem dX10_takeTide_62 : decode cX10_takeTide 62 = .ok (.getfield 38, 3) := by decide +kernel
theorem dX10_takeTide_65 : decode cX10_takeTide 65 = .ok (.aload_n 0, 1) := by decide +kernel
theorem dX10_takeTide_66 : decode cX10_takeTide 66 = .ok (.getfield 134, 3) := by decide +kernel
theorem dX10_takeTide_69 : decode cX10_takeTide 69 = .ok (.iconst 0, 1) := by decide +kernel
theorem dX10_takeTide_70 : decode cX10_takeTide 70 = .ok (.bipush 9, 2) := by decide +kernel
theorem dX10_takeTide_72 : decode cX10_takeTide 72 = .ok (.invokevirtual 130, 3) := by decide +kernel
theorem dX10_takeTide_75 : decode cX10_takeTide 75 = .ok (.istore_n 1, 1) := by decide +kernel
theorem dX10_takeTide_76 : decode cX10_takeTide 76 = .ok (.aload_n 0, 1) := by decide +kernel
theorem dX10_takeTide_77 : decode cX10_takeTide 77 = .ok (.dup, 1) := by decide +kernel
theorem dX10_takeTide_78 : decode cX10_takeTide 78 = .ok (.getfield 134, 3) := by decide +kernel
theorem dX10_takeTide_81 : decode cX10_takeTide 81 = .ok (.iconst 1, 1) := by decide +kernel
theorem dX10_takeTide_82 : decode cX10_takeTide 82 = .ok (.iadd, 1) := by decide +kernel
theorem dX10_takeTide_83 : decode cX10_takeTide 83 = .ok (.putfield 134, 3) := by decide +kernel
theorem dX10_takeTide_86 : decode cX10_takeTide 86 = .ok (.goto (-68), 3) := by decide +kernel
theorem dX10_takeTide_89 : decode cX10_takeTide 89 = .ok (.iload_n 1, 1) := by decide +kernel
theorem dX10_takeTide_90 : decode cX10_takeTide 90 = .ok (.ireturn, 1) := by decide +kernel
set_option maxRecDepth 20000 in
theorem ggX10_takeHut_X10_into : GoodIn wsX10_takeHut wsX10_into := goodIn_r _ [7, 8, 9, 10, 11, 6, 12, 13, 14, 15, 16, 17, 18, 19, 20, 21, 22, 23, 24, 25, 26, 27, 28, 29, 30, 31, 32, 33, 34, 35, 36, 37, 38, 39, 40, 41, 42, 43, 44, 45, 46, 47, 48, 49, 50, 51, 52, 53, 54, 55, 56, 57, 58, 59, 60, 61, 62, 63, 64, 65, 66, 67, 68, 69] (by decide +kernel) (by decide +kernel)
set_option maxRecDepth 20000 in
theorem gX10_takeHut_X10_into : GoodIn wsX10_takeHut (wsV RX10 130 RX10 yX10_into wsX10_into) := goodIn_app (goodIn_of _ (by decide +kernel)) ggX10_takeHut_X10_into
theorem dX10_takeHut_0 : decode cX10_takeHut 0 = .ok (.aload_n 0, 1) := by decide +kernel
theorem dX10_takeHut_1 : decode cX10_takeHut 1 = .ok (.getfield 137, 3) := by decide +kernel
theorem dX10_takeHut_4 : decode cX10_takeHut 4 = .ok (.istore_n 1, 1) := by decide +kernel
theorem dX10_takeHut_5 : decode cX10_takeHut 5 = .ok (.aload_n 0, 1) := by decide +kernel
theorem dX10_takeHut_6 : decode cX10_takeHut 6 = .ok (.dup, 1) := by decide +kernel
theorem dX10_takeHut_7 : decode cX10_takeHut 7 = .ok (.getfield 137, 3) := by decide +kernel
theorem dX10_takeHut_10 : decode cX10_takeHut 10 = .ok (.iconst 1, 1) := by decide +kernel
theorem dX10_takeHut_11 : decode cX10_takeHut 11 = .ok (.iadd, 1) := by decide +kernel
theorem dX10_takeHut_12 : decode cX10_takeHut 12 = .ok (.putfield 137, 3) := by decide +kernel
theorem dX10_takeHut_15 : decode cX10_takeHut 15 = .ok (.aload_n 0, 1) := by decide +kernel
theorem dX10_takeHut_16 : decode cX10_takeHut 16 = .ok (.aload_n 0, 1) := by decide +kernel
theorem dX10_takeHut_17 : decode cX10_takeHut 17 = .ok (.getfield 41, 3) := by decide +kernel
theorem dX10_takeHut_20 : decode cX10_takeHut 20 = .ok (.iload_n 1, 1) := by decide +kernel
theorem dX10_takeHut_21 : decode cX10_takeHut 21 = .ok (.iconst 1, 1) := by decide +kernel
theorem dX10_takeHut_22 : decode cX10_takeHut 22 = .ok (.bipush 9, 2) := by decide +kernel
theorem dX10_takeHut_24 : decode cX10_takeHut 24 = .ok (.invokevirtual 130, 3) := by decide +kernel
theorem dX10_takeHut_27 : decode cX10_takeHut 27 = .ok (.ireturn, 1) := by decide +kernel
set_option maxRecDepth 20000 in
theorem ggX10_takeCase_X10_into : GoodIn wsX10_takeCase wsX10_into := goodIn_r _ [10, 11, 12, 13, 14, 9, 15, 16, 17, 18, 19, 20, 21, 22, 23, 24, 25, 26, 27, 28, 29, 30, 31, 32, 33, 34, 35, 36, 37, 38, 39, 40, 41, 42, 43, 44, 45, 46, 47, 48, 49, 50, 51, 52, 53, 54, 55, 56, 57, 58, 59, 60, 61, 62, 63, 64, 65, 66, 67, 68, 69, 70, 71, 72] (by decide +kernel) (by decide +kernel)
set_option maxRecDepth 20000 in
theorem gX10_takeCase_X10_into : GoodIn wsX10_takeCase (wsV RX10 130 RX10 yX10_into wsX10_into) := goodIn_app (goodIn_of _ (by decide +kernel)) ggX10_takeCase_X10_into
theorem dX10_takeCase_0 : decode cX10_takeCase 0 = .ok (.aload_n 0, 1) := by decide +kernel
theorem dX10_takeCase_1 : decode cX10_takeCase 1 = .ok (.getfield 140, 3) := by decide +kernel
theorem dX10_takeCase_4 : decode cX10_takeCase 4 = .ok (.istore_n 1, 1) := by decide +kernel
theorem dX10_takeCase_5 : decode cX10_takeCase 5 = .ok (.aload_n 0, 1) := by decide +kernel
theorem dX10_takeCase_6 : decode cX10_takeCase 6 = .ok (.dup, 1) := by decide +kernel
theorem dX10_takeCase_7 : decode cX10_takeCase 7 = .ok (.getfield 140, 3) := by decide +kernel
theorem dX10_takeCase_10 : decode cX10_takeCase 10 = .ok (.iconst 1, 1) := by decide +kernel
theorem dX10_takeCase_11 : decode cX10_takeCase 11 = .ok (.iadd, 1) := by decide +kernel
theorem dX10_takeCase_12 : decode cX10_takeCase 12 = .ok (.putfield 140, 3) := by decide +kernel
theorem dX10_takeCase_15 : decode cX10_takeCase 15 = .ok (.aload_n 0, 1) := by decide +kernel
theorem dX10_takeCase_16 : decode cX10_takeCase 16 = .ok (.aload_n 0, 1) := by decide +kernel
theorem dX10_takeCase_17 : decode cX10_takeCase 17 = .ok (.getfield 44, 3) := by decide +kernel
theorem dX10_takeCase_20 : decode cX10_takeCase 20 = .ok (.iload_n 1, 1) := by decide +kernel
theorem dX10_takeCase_21 : decode cX10_takeCase 21 = .ok (.iconst 1, 1) := by decide +kernel
theorem dX10_takeCase_22 : decode cX10_takeCase 22 = .ok (.bipush 9, 2) := by decide +kernel
theorem dX10_takeCase_24 : decode cX10_takeCase 24 = .ok (.invokevirtual 130, 3) := by decide +kernel
theorem dX10_takeCase_27 : decode cX10_takeCase 27 = .ok (.istore_n 2, 1) := by decide +kernel
theorem dX10_takeCase_28 : decode cX10_takeCase 28 = .ok (.iload_n 2, 1) := by decide +kernel
theorem dX10_takeCase_29 : decode cX10_takeCase 29 = .ok (.ifCond .le 7, 3) := by decide +kernel
theorem dX10_takeCase_32 : decode cX10_takeCase 32 = .ok (.iload_n 2, 1) := by decide +kernel
theorem dX10_takeCase_33 : decode cX10_takeCase 33 = .ok (.goto 14, 3) := by decide +kernel
theorem dX10_takeCase_36 : decode cX10_takeCase 36 = .ok (.aload_n 0, 1) := by decide +kernel
theorem dX10_takeCase_37 : decode cX10_takeCase 37 = .ok (.aload_n 0, 1) := by decide +kernel
theorem dX10_takeCase_38 : decode cX10_takeCase 38 = .ok (.getfield 47, 3) := by decide +kernel
theorem dX10_takeCase_41 : decode cX10_takeCase 41 = .ok (.iload_n 1, 1) := by decide +kernel
theorem dX10_takeCase_42 : decode cX10_takeCase 42 = .ok (.iconst 1, 1) := by decide +kernel
theorem dX10_takeCase_43 : decode cX10_takeCase 43 = .ok (.iconst 4, 1) := by decide +kernel
theorem dX10_takeCase_44 : decode cX10_takeCase 44 = .ok (.invokevirtual 130, 3) := by decide +kernel
theorem dX10_takeCase_47 : decode cX10_takeCase 47 = .ok (.istore_n 2, 1) := by decide +kernel
theorem dX10_takeCase_48 : decode cX10_takeCase 48 = .ok (.iload_n 2, 1) := by decide +kernel
theorem dX10_takeCase_49 : decode cX10_takeCase 49 = .ok (.ifCond .le 7, 3) := by decide +kernel
theorem dX10_takeCase_52 : decode cX10_takeCase 52 = .ok (.iload_n 2, 1) := by decide +kernel
theorem dX10_takeCase_53 : decode cX10_takeCase 53 = .ok (.goto 15, 3) := by decide +kernel
theorem dX10_takeCase_56 : decode cX10_takeCase 56 = .ok (.aload_n 0, 1) := by decide +kernel
theorem dX10_takeCase_57 : decode cX10_takeCase 57 = .ok (.aload_n 0, 1) := by decide +kernel
theorem dX10_takeCase_58 : decode cX10_takeCase 58 = .ok (.getfield 50, 3) := by decide +kernel
theorem dX10_takeCase_61 : decode cX10_takeCase 61 = .ok (.iload_n 1, 1) := by decide +kernel
theorem dX10_takeCase_62 : decode cX10_takeCase 62 = .ok (.iconst 0, 1) := by decide +kernel
theorem dX10_takeCase_63 : decode cX10_takeCase 63 = .ok (.bipush 9, 2) := by decide +kernel
theorem dX10_takeCase_65 : decode cX10_takeCase 65 = .ok (.invokevirtual 130, 3) := by decide +kernel
theorem dX10_takeCase_68 : decode cX10_takeCase 68 = .ok (.istore_n 2, 1) := by decide +kernel
theorem dX10_takeCase_69 : decode cX10_takeCase 69 = .ok (.iload_n 2, 1) := by decide +kernel
theorem dX10_takeCase_70 : decode cX10_takeCase 70 = .ok (.ifCond .le 7, 3) := by decide +kernel
theorem dX10_takeCase_73 : decode cX10_takeCase 73 = .ok (.iload_n 2, 1) := by decide +kernel
theorem dX10_takeCase_74 : decode cX10_takeCase 74 = .ok (.goto 16, 3) := by decide +kernel
theorem dX10_takeCase_77 : decode cX10_takeCase 77 = .ok (.aload_n 0, 1) := by decide +kernel
theorem dX10_takeCase_78 : decode cX10_takeCase 78 = .ok (.aload_n 0, 1) := by decide +kernel
theorem dX10_takeCase_79 : decode cX10_takeCase 79 = .ok (.getfield 53, 3) := by decide +kernel
theorem dX10_takeCase_82 : decode cX10_takeCase 82 = .ok (.iload_n 1, 1) := by decide +kernel
theorem dX10_takeCase_83 : decode cX10_takeCase 83 = .ok (.iconst 0, 1) := by decide +kernel
theorem dX10_takeCase_84 : decode cX10_takeCase 84 = .ok (.sipush 999, 3) := by decide +kernel
theorem dX10_takeCase_87 : decode cX10_takeCase 87 = .ok (.invokevirtual 130, 3) := by decide +kernel
theorem dX10_takeCase_90 : decode cX10_takeCase 90 = .ok (.ireturn, 1) := by decide +kernel
set_option maxRecDepth 20000 in
theorem ggX10_takeClause_X10_here : GoodIn wsX10_takeClause wsX10_here := goodIn_r _ [9, 2, 10, 11, 50, 51, 52, 53, 54, 55, 56, 57, 58, 59, 60, 61, 62, 63, 64, 65, 66, 67, 68, 69, 70, 71, 72, 73, 74, 75, 76, 77, 78, 79, 80, 81, 82, 83, 84, 85, 86, 87, 88] (by decide +kernel) (by decide +kernel)
set_option maxRecDepth 20000 in
theorem gX10_takeClause_X10_here : GoodIn wsX10_takeClause (wsV RX10 109 RX10 yX10_here wsX10_here) := goodIn_app (goodIn_of _ (by decide +kernel)) ggX10_takeClause_X10_here
set_option maxRecDepth 20000 in
theorem ggX10_takeClause_X10_fails : GoodIn wsX10_takeClause wsX10_fails := goodIn_r _ [15, 16, 50, 51, 52, 53, 54, 55, 56, 57, 58, 59, 60, 61, 62, 63, 64, 65, 66, 67, 68, 69, 70, 71, 72, 73, 74, 75, 76, 77, 78, 79, 80, 81, 82, 83, 84, 85, 86, 87, 88] (by decide +kernel) (by decide +kernel)
set_option maxRecDepth 20000 in
theorem gX10_takeClause_X10_fails : GoodIn wsX10_takeClause (wsV RX10 117 RX10 yX10_fails wsX10_fails) := goodIn_app (goodIn_of _ (by decide +kernel)) ggX10_takeClause_X10_fails
set_option maxRecDepth 20000 in
theorem ggX10_takeClause_X10_takeTide : GoodIn wsX10_takeClause wsX10_takeTide := goodIn_r _ [20, 21, 1, 2, 22, 23, 24, 8, 25, 26, 27, 28, 29, 30, 31, 32, 33, 10, 11, 5, 6, 7, 9, 34, 35, 36, 12, 13, 14, 15, 16, 50, 51, 52, 53, 54, 55, 56, 57, 58, 59, 60, 61, 62, 63, 64, 65, 66, 67, 68, 69, 70, 71, 72, 73, 74, 75, 76, 77, 78, 79, 80, 81, 82, 83, 84, 85, 86, 87, 88] (by decide +kernel) (by decide +kernel)
set_option maxRecDepth 20000 in
theorem gX10_takeClause_X10_takeTide : GoodIn wsX10_takeClause (wsV RX10 143 RX10 yX10_takeTide wsX10_takeTide) := goodIn_app (goodIn_of _ (by decide +kernel)) ggX10_takeClause_X10_takeTide
set_option maxRecDepth 20000 in
theorem ggX10_takeClause_X10_takeHut : GoodIn wsX10_takeClause wsX10_takeHut := goodIn_r _ [40, 3, 41, 22, 23, 24, 8, 25, 26, 27, 28, 29, 30, 31, 32, 2, 33, 10, 11, 5, 6, 7, 9, 34, 35, 36, 12, 13, 14, 15, 16, 50, 51, 52, 53, 54, 55, 56, 57, 58, 59, 60, 61, 62, 63, 64, 65, 66, 67, 68, 69, 70, 71, 72, 73, 74, 75, 76, 77, 78, 79, 80, 81, 82, 83, 84, 85, 86, 87, 88] (by decide +kernel) (by decide +kernel)
set_option maxRecDepth 20000 in
theorem gX10_takeClause_X10_takeHut : GoodIn wsX10_takeClause (wsV RX10 146 RX10 yX10_takeHut wsX10_takeHut) := goodIn_app (goodIn_of _ (by decide +kernel)) ggX10_takeClause_X10_takeHut
set_option maxRecDepth 20000 in
theorem ggX10_takeClause_X10_takeCase : GoodIn wsX10_takeClause wsX10_takeCase := goodIn_r _ [45, 4, 46, 47, 48, 49, 22, 23, 24, 8, 25, 26, 27, 28, 29, 30, 31, 32, 2, 33, 10, 11, 5, 6, 7, 9, 34, 35, 36, 12, 13, 14, 15, 16, 50, 51, 52, 53, 54, 55, 56, 57, 58, 59, 60, 61, 62, 63, 64, 65, 66, 67, 68, 69, 70, 71, 72, 73, 74, 75, 76, 77, 78, 79, 80, 81, 82, 83, 84, 85, 86, 87, 88] (by decide +kernel) (by decide +kernel)
set_option maxRecDepth 20000 in
theorem gX10_takeClause_X10_takeCase : GoodIn wsX10_takeClause (wsV RX10 149 RX10 yX10_takeCase wsX10_takeCase) := goodIn_app (goodIn_of _ (by decide +kernel)) ggX10_takeClause_X10_takeCase
theorem dX10_takeClause_0 : decode cX10_takeClause 0 = .ok (.aload_n 0, 1) := by decide +kernel
theorem dX10_takeClause_1 : decode cX10_takeClause 1 = .ok (.invokevirtual 109, 3) := by decide +kernel
theorem dX10_takeClause_4 : decode cX10_takeClause 4 = .ok (.istore_n 1, 1) := by decide +kernel
theorem dX10_takeClause_5 : decode cX10_takeClause 5 = .ok (.iload_n 1, 1) := by decide +kernel
theorem dX10_takeClause_6 : decode cX10_takeClause 6 = .ok (.bipush 98, 2) := by decide +kernel
theorem dX10_takeClause_8 : decode cX10_takeClause 8 = .ok (.if_icmp .ne 7, 3) := by decide +kernel
theorem dX10_takeClause_11 : decode cX10_takeClause 11 = .ok (.iconst 0, 1) := by decide +kernel
theorem dX10_takeClause_12 : decode cX10_takeClause 12 = .ok (.goto 24, 3) := by decide +kernel
theorem dX10_takeClause_15 : decode cX10_takeClause 15 = .ok (.iload_n 1, 1) := by decide +kernel
theorem dX10_takeClause_16 : decode cX10_takeClause 16 = .ok (.bipush 104, 2) := by decide +kernel
theorem dX10_takeClause_18 : decode cX10_takeClause 18 = .ok (.if_icmp .ne 7, 3) := by decide +kernel
theorem dX10_takeClause_21 : decode cX10_takeClause 21 = .ok (.iconst 1, 1) := by decide +kernel
theorem dX10_takeClause_22 : decode cX10_takeClause 22 = .ok (.goto 14, 3) := by decide +kernel
theorem dX10_takeClause_25 : decode cX10_takeClause 25 = .ok (.iload_n 1, 1) := by decide +kernel
theorem dX10_takeClause_26 : decode cX10_takeClause 26 = .ok (.bipush 99, 2) := by decide +kernel
theorem dX10_takeClause_28 : decode cX10_takeClause 28 = .ok (.if_icmp .ne 7, 3) := by decide +kernel
theorem dX10_takeClause_31 : decode cX10_takeClause 31 = .ok (.iconst 2, 1) := by decide +kernel
theorem dX10_takeClause_32 : decode cX10_takeClause 32 = .ok (.goto 4, 3) := by decide +kernel
theorem dX10_takeClause_35 : decode cX10_takeClause 35 = .ok (.iconst (-1), 1) := by decide +kernel
theorem dX10_takeClause_36 : decode cX10_takeClause 36 = .ok (.istore_n 2, 1) := by decide +kernel
theorem dX10_takeClause_37 : decode cX10_takeClause 37 = .ok (.iload_n 2, 1) := by decide +kernel
theorem dX10_takeClause_38 : decode cX10_takeClause 38 = .ok (.ifCond .lt 14, 3) := by decide +kernel
theorem dX10_takeClause_41 : decode cX10_takeClause 41 = .ok (.iload_n 2, 1) := by decide +kernel
theorem dX10_takeClause_42 : decode cX10_takeClause 42 = .ok (.ifCond .le 20, 3) := by decide +kernel
theorem dX10_takeClause_45 : decode cX10_takeClause 45 = .ok (.aload_n 0, 1) := by decide +kernel
theorem dX10_takeClause_46 : decode cX10_takeClause 46 = .ok (.getfield 134, 3) := by decide +kernel
theorem dX10_takeClause_49 : decode cX10_takeClause 49 = .ok (.ifCond .ne 13, 3) := by decide +kernel
theorem dX10_takeClause_52 : decode cX10_takeClause 52 = .ok (.aload_n 0, 1) := by decide +kernel
theorem dX10_takeClause_53 : decode cX10_takeClause 53 = .ok (.iconst 1, 1) := by decide +kernel
theorem dX10_takeClause_54 : decode cX10_takeClause 54 = .ok (.aload_n 0, 1) := by decide +kernel
theorem dX10_takeClause_55 : decode cX10_takeClause 55 = .ok (.getfield 106, 3) := by decide +kernel
theorem dX10_takeClause_58 : decode cX10_takeClause 58 = .ok (.invokevirtual 117, 3) := by decide +kernel
theorem dX10_takeClause_61 : decode cX10_takeClause 61 = .ok (.ireturn, 1) := by decide +kernel
theorem dX10_takeClause_62 : decode cX10_takeClause 62 = .ok (.iload_n 2, 1) := by decide +kernel
theorem dX10_takeClause_63 : decode cX10_takeClause 63 = .ok (.ifCond .ne 18, 3) := by decide +kernel
theorem dX10_takeClause_66 : decode cX10_takeClause 66 = .ok (.aload_n 0, 1) := by decide +kernel
theorem dX10_takeClause_67 : decode cX10_takeClause 67 = .ok (.getfield 134, 3) := by decide +kernel
theorem dX10_takeClause_70 : decode cX10_takeClause 70 = .ok (.ifCond .le 7, 3) := by decide +kernel
theorem dX10_takeClause_73 : decode cX10_takeClause 73 = .ok (.iconst 1, 1) := by decide +kernel
theorem dX10_takeClause_74 : decode cX10_takeClause 74 = .ok (.goto 41, 3) := by decide +kernel
theorem dX10_takeClause_77 : decode cX10_takeClause 77 = .ok (.iconst 0, 1) := by decide +kernel
theorem dX10_takeClause_78 : decode cX10_takeClause 78 = .ok (.goto 37, 3) := by decide +kernel
theorem dX10_takeClause_81 : decode cX10_takeClause 81 = .ok (.iload_n 2, 1) := by decide +kernel
theorem dX10_takeClause_82 : decode cX10_takeClause 82 = .ok (.iconst 1, 1) := by decide +kernel
theorem dX10_takeClause_83 : decode cX10_takeClause 83 = .ok (.if_icmp .ne 19, 3) := by decide +kernel
theorem dX10_takeClause_86 : decode cX10_takeClause 86 = .ok (.aload_n 0, 1) := by decide +kernel
theorem dX10_takeClause_87 : decode cX10_takeClause 87 = .ok (.getfield 137, 3) := by decide +kernel
theorem dX10_takeClause_90 : decode cX10_takeClause 90 = .ok (.iconst 4, 1) := by decide +kernel
theorem dX10_takeClause_91 : decode cX10_takeClause 91 = .ok (.if_icmp .ne 7, 3) := by decide +kernel
theorem dX10_takeClause_94 : decode cX10_takeClause 94 = .ok (.iconst 1, 1) := by decide +kernel
theorem dX10_takeClause_95 : decode cX10_takeClause 95 = .ok (.goto 20, 3) := by decide +kernel
theorem dX10_takeClause_98 : decode cX10_takeClause 98 = .ok (.iconst 0, 1) := by decide +kernel
theorem dX10_takeClause_99 : decode cX10_takeClause 99 = .ok (.goto 16, 3) := by decide +kernel
theorem dX10_takeClause_102 : decode cX10_takeClause 102 = .ok (.aload_n 0, 1) := by decide +kernel
theorem dX10_takeClause_103 : decode cX10_takeClause 103 = .ok (.getfield 140, 3) := by decide +kernel
theorem dX10_takeClause_106 : decode cX10_takeClause 106 = .ok (.iconst 5, 1) := by decide +kernel
theorem dX10_takeClause_107 : decode cX10_takeClause 107 = .ok (.if_icmp .ne 7, 3) := by decide +kernel
theorem dX10_takeClause_110 : decode cX10_takeClause 110 = .ok (.iconst 1, 1) := by decide +kernel
theorem dX10_takeClause_111 : decode cX10_takeClause 111 = .ok (.goto 4, 3) := by decide +kernel
theorem dX10_takeClause_114 : decode cX10_takeClause 114 = .ok (.iconst 0, 1) := by decide +kernel
theorem dX10_takeClause_115 : decode cX10_takeClause 115 = .ok (.istore_n 3, 1) := by decide +kernel
theorem dX10_takeClause_116 : decode cX10_takeClause 116 = .ok (.iload_n 3, 1) := by decide +kernel
theorem dX10_takeClause_117 : decode cX10_takeClause 117 = .ok (.ifCond .eq 13, 3) := by decide +kernel
theorem dX10_takeClause_120 : decode cX10_takeClause 120 = .ok (.aload_n 0, 1) := by decide +kernel
theorem dX10_takeClause_121 : decode cX10_takeClause 121 = .ok (.iconst 3, 1) := by decide +kernel
theorem dX10_takeClause_122 : decode cX10_takeClause 122 = .ok (.aload_n 0, 1) := by decide +kernel
theorem dX10_takeClause_123 : decode cX10_takeClause 123 = .ok (.getfield 106, 3) := by decide +kernel
theorem dX10_takeClause_126 : decode cX10_takeClause 126 = .ok (.invokevirtual 117, 3) := by decide +kernel
theorem dX10_takeClause_129 : decode cX10_takeClause 129 = .ok (.ireturn, 1) := by decide +kernel
theorem dX10_takeClause_130 : decode cX10_takeClause 130 = .ok (.aload_n 0, 1) := by decide +kernel
theorem dX10_takeClause_131 : decode cX10_takeClause 131 = .ok (.dup, 1) := by decide +kernel
theorem dX10_takeClause_132 : decode cX10_takeClause 132 = .ok (.getfield 106, 3) := by decide +kernel
theorem dX10_takeClause_135 : decode cX10_takeClause 135 = .ok (.iconst 1, 1) := by decide +kernel
theorem dX10_takeClause_136 : decode cX10_takeClause 136 = .ok (.iadd, 1) := by decide +kernel
theorem dX10_takeClause_137 : decode cX10_takeClause 137 = .ok (.putfield 106, 3) := by decide +kernel
theorem dX10_takeClause_140 : decode cX10_takeClause 140 = .ok (.iload_n 2, 1) := by decide +kernel
theorem dX10_takeClause_141 : decode cX10_takeClause 141 = .ok (.ifCond .ne 10, 3) := by decide +kernel
theorem dX10_takeClause_144 : decode cX10_takeClause 144 = .ok (.aload_n 0, 1) := by decide +kernel
theorem dX10_takeClause_145 : decode cX10_takeClause 145 = .ok (.invokevirtual 143, 3) := by decide +kernel
theorem dX10_takeClause_148 : decode cX10_takeClause 148 = .ok (.goto 19, 3) := by decide +kernel
theorem dX10_takeClause_151 : decode cX10_takeClause 151 = .ok (.iload_n 2, 1) := by decide +kernel
theorem dX10_takeClause_152 : decode cX10_takeClause 152 = .ok (.iconst 1, 1) := by decide +kernel
theorem dX10_takeClause_153 : decode cX10_takeClause 153 = .ok (.if_icmp .ne 10, 3) := by decide +kernel
theorem dX10_takeClause_156 : decode cX10_takeClause 156 = .ok (.aload_n 0, 1) := by decide +kernel
theorem dX10_takeClause_157 : decode cX10_takeClause 157 = .ok (.invokevirtual 146, 3) := by decide +kernel
theorem dX10_takeClause_160 : decode cX10_takeClause 160 = .ok (.goto 7, 3) := by decide +kernel
theorem dX10_takeClause_163 : decode cX10_takeClause 163 = .ok (.aload_n 0, 1) := by decide +kernel
theorem dX10_takeClause_164 : decode cX10_takeClause 164 = .ok (.invokevirtual 149, 3) := by decide +kernel
theorem dX10_takeClause_167 : decode cX10_takeClause 167 = .ok (.istore 4, 2) := by decide +kernel
theorem dX10_takeClause_169 : decode cX10_takeClause 169 = .ok (.iload 4, 2) := by decide +kernel
theorem dX10_takeClause_171 : decode cX10_takeClause 171 = .ok (.ifCond .ne 22, 3) := by decide +kernel
theorem dX10_takeClause_174 : decode cX10_takeClause 174 = .ok (.aload_n 0, 1) := by decide +kernel
theorem dX10_takeClause_175 : decode cX10_takeClause 175 = .ok (.invokevirtual 109, 3) := by decide +kernel
theorem dX10_takeClause_178 : decode cX10_takeClause 178 = .ok (.bipush 59, 2) := by decide +kernel
theorem dX10_takeClause_180 : decode cX10_takeClause 180 = .ok (.if_icmp .eq 13, 3) := by decide +kernel
theorem dX10_takeClause_183 : decode cX10_takeClause 183 = .ok (.aload_n 0, 1) := by decide +kernel
theorem dX10_takeClause_184 : decode cX10_takeClause 184 = .ok (.iconst 1, 1) := by decide +kernel
theorem dX10_takeClause_185 : decode cX10_takeClause 185 = .ok (.aload_n 0, 1) := by decide +kernel
theorem dX10_takeClause_186 : decode cX10_takeClause 186 = .ok (.getfield 106, 3) := by decide +kernel
theorem dX10_takeClause_189 : decode cX10_takeClause 189 = .ok (.invokevirtual 117, 3) := by decide +kernel
theorem dX10_takeClause_192 : decode cX10_takeClause 192 = .ok (.ireturn, 1) := by decide +kernel
theorem dX10_takeClause_193 : decode cX10_takeClause 193 = .ok (.aload_n 0, 1) := by decide +kernel
theorem dX10_takeClause_194 : decode cX10_takeClause 194 = .ok (.dup, 1) := by decide +kernel
theorem dX10_takeClause_195 : decode cX10_takeClause 195 = .ok (.getfield 106, 3) := by decide +kernel
theorem dX10_takeClause_198 : decode cX10_takeClause 198 = .ok (.iconst 1, 1) := by decide +kernel
theorem dX10_takeClause_199 : decode cX10_takeClause 199 = .ok (.iadd, 1) := by decide +kernel
theorem dX10_takeClause_200 : decode cX10_takeClause 200 = .ok (.putfield 106, 3) := by decide +kernel
theorem dX10_takeClause_203 : decode cX10_takeClause 203 = .ok (.iload 4, 2) := by decide +kernel
theorem dX10_takeClause_205 : decode cX10_takeClause 205 = .ok (.ireturn, 1) := by decide +kernel
theorem dX10_takeRead_0 : decode cX10_takeRead 0 = .ok (.aload_n 0, 1) := by decide +kernel
theorem dX10_takeRead_1 : decode cX10_takeRead 1 = .ok (.aload_n 0, 1) := by decide +kernel
theorem dX10_takeRead_2 : decode cX10_takeRead 2 = .ok (.getfield 134, 3) := by decide +kernel
theorem dX10_takeRead_5 : decode cX10_takeRead 5 = .ok (.putfield 152, 3) := by decide +kernel
theorem dX10_takeRead_8 : decode cX10_takeRead 8 = .ok (.aload_n 0, 1) := by decide +kernel
theorem dX10_takeRead_9 : decode cX10_takeRead 9 = .ok (.aload_n 0, 1) := by decide +kernel
theorem dX10_takeRead_10 : decode cX10_takeRead 10 = .ok (.getfield 137, 3) := by decide +kernel
theorem dX10_takeRead_13 : decode cX10_takeRead 13 = .ok (.putfield 87, 3) := by decide +kernel
theorem dX10_takeRead_16 : decode cX10_takeRead 16 = .ok (.aload_n 0, 1) := by decide +kernel
theorem dX10_takeRead_17 : decode cX10_takeRead 17 = .ok (.aload_n 0, 1) := by decide +kernel
theorem dX10_takeRead_18 : decode cX10_takeRead 18 = .ok (.getfield 140, 3) := by decide +kernel
theorem dX10_takeRead_21 : decode cX10_takeRead 21 = .ok (.putfield 94, 3) := by decide +kernel
theorem dX10_takeRead_24 : decode cX10_takeRead 24 = .ok (.iconst 0, 1) := by decide +kernel
theorem dX10_takeRead_25 : decode cX10_takeRead 25 = .ok (.istore_n 1, 1) := by decide +kernel
theorem dX10_takeRead_26 : decode cX10_takeRead 26 = .ok (.iload_n 1, 1) := by decide +kernel
theorem dX10_takeRead_27 : decode cX10_takeRead 27 = .ok (.aload_n 0, 1) := by decide +kernel
theorem dX10_takeRead_28 : decode cX10_takeRead 28 = .ok (.getfield 152, 3) := by decide +kernel
theorem dX10_takeRead_31 : decode cX10_takeRead 31 = .ok (.if_icmp .ge 21, 3) := by decide +kernel
theorem dX10_takeRead_34 : decode cX10_takeRead 34 = .ok (.aload_n 0, 1) := by decide +kernel
theorem dX10_takeRead_35 : decode cX10_takeRead 35 = .ok (.getfield 7, 3) := by decide +kernel
theorem dX10_takeRead_38 : decode cX10_takeRead 38 = .ok (.iload_n 1, 1) := by decide +kernel
theorem dX10_takeRead_39 : decode cX10_takeRead 39 = .ok (.aload_n 0, 1) := by decide +kernel
theorem dX10_takeRead_40 : decode cX10_takeRead 40 = .ok (.getfield 38, 3) := by decide +kernel
theorem dX10_takeRead_43 : decode cX10_takeRead 43 = .ok (.iload_n 1, 1) := by decide +kernel
theorem dX10_takeRead_44 : decode cX10_takeRead 44 = .ok (.iaload, 1) := by decide +kernel
theorem dX10_takeRead_45 : decode cX10_takeRead 45 = .ok (.iastore, 1) := by decide +kernel
theorem dX10_takeRead_46 : decode cX10_takeRead 46 = .ok (.iinc 1 1, 3) := by decide +kernel
theorem dX10_takeRead_49 : decode cX10_takeRead 49 = .ok (.goto (-23), 3) := by decide +kernel
theorem dX10_takeRead_52 : decode cX10_takeRead 52 = .ok (.iconst 0, 1) := by decide +kernel
theorem dX10_takeRead_53 : decode cX10_takeRead 53 = .ok (.istore_n 1, 1) := by decide +kernel
theorem dX10_takeRead_54 : decode cX10_takeRead 54 = .ok (.iload_n 1, 1) := by decide +kernel
theorem dX10_takeRead_55 : decode cX10_takeRead 55 = .ok (.aload_n 0, 1) := by decide +kernel
theorem dX10_takeRead_56 : decode cX10_takeRead 56 = .ok (.getfield 87, 3) := by decide +kernel
theorem dX10_takeRead_59 : decode cX10_takeRead 59 = .ok (.if_icmp .ge 21, 3) := by decide +kernel
theorem dX10_takeRead_62 : decode cX10_takeRead 62 = .ok (.aload_n 0, 1) := by decide +kernel
theorem dX10_takeRead_63 : decode cX10_takeRead 63 = .ok (.getfield 13, 3) := by decide +kernel
theorem dX10_takeRead_66 : decode cX10_takeRead 66 = .ok (.iload_n 1, 1) := by decide +kernel
theorem dX10_takeRead_67 : decode cX10_takeRead 67 = .ok (.aload_n 0, 1) := by decide +kernel
theorem dX10_takeRead_68 : decode cX10_takeRead 68 = .ok (.getfield 41, 3) := by decide +kernel
theorem dX10_takeRead_71 : decode cX10_takeRead 71 = .ok (.iload_n 1, 1) := by decide +kernel
theorem dX10_takeRead_72 : decode cX10_takeRead 72 = .ok (.iaload, 1) := by decide +kernel
theorem dX10_takeRead_73 : decode cX10_takeRead 73 = .ok (.iastore, 1) := by decide +kernel
theorem dX10_takeRead_74 : decode cX10_takeRead 74 = .ok (.iinc 1 1, 3) := by decide +kernel
theorem dX10_takeRead_77 : decode cX10_takeRead 77 = .ok (.goto (-23), 3) := by decide +kernel
theorem dX10_takeRead_80 : decode cX10_takeRead 80 = .ok (.iconst 0, 1) := by decide +kernel
theorem dX10_takeRead_81 : decode cX10_takeRead 81 = .ok (.istore_n 1, 1) := by decide +kernel
theorem dX10_takeRead_82 : decode cX10_takeRead 82 = .ok (.iload_n 1, 1) := by decide +kernel
theorem dX10_takeRead_83 : decode cX10_takeRead 83 = .ok (.aload_n 0, 1) := by decide +kernel
theorem dX10_takeRead_84 : decode cX10_takeRead 84 = .ok (.getfield 94, 3) := by decide +kernel
theorem dX10_takeRead_87 : decode cX10_takeRead 87 = .ok (.if_icmp .ge 57, 3) := by decide +kernel
theorem dX10_takeRead_90 : decode cX10_takeRead 90 = .ok (.aload_n 0, 1) := by decide +kernel
theorem dX10_takeRead_91 : decode cX10_takeRead 91 = .ok (.getfield 16, 3) := by decide +kernel
theorem dX10_takeRead_94 : decode cX10_takeRead 94 = .ok (.iload_n 1, 1) := by decide +kernel
theorem dX10_takeRead_95 : decode cX10_takeRead 95 = .ok (.aload_n 0, 1) := by decide +kernel
theorem dX10_takeRead_96 : decode cX10_takeRead 96 = .ok (.getfield 44, 3) := by decide +kernel
theorem dX10_takeRead_99 : decode cX10_takeRead 99 = .ok (.iload_n 1, 1) := by decide +kernel
theorem dX10_takeRead_100 : decode cX10_takeRead 100 = .ok (.iaload, 1) := by decide +kernel
theorem dX10_takeRead_101 : decode cX10_takeRead 101 = .ok (.iastore, 1) := by decide +kernel
theorem dX10_takeRead_102 : decode cX10_takeRead 102 = .ok (.aload_n 0, 1) := by decide +kernel
theorem dX10_takeRead_103 : decode cX10_takeRead 103 = .ok (.getfield 19, 3) := by decide +kernel
theorem dX10_takeRead_106 : decode cX10_takeRead 106 = .ok (.iload_n 1, 1) := by decide +kernel
theorem dX10_takeRead_107 : decode cX10_takeRead 107 = .ok (.aload_n 0, 1) := by decide +kernel
theorem dX10_takeRead_108 : decode cX10_takeRead 108 = .ok (.getfield 47, 3) := by decide +kernel
theorem dX10_takeRead_111 : decode cX10_takeRead 111 = .ok (.iload_n 1, 1) := by decide +kernel
theorem dX10_takeRead_112 : decode cX10_takeRead 112 = .ok (.iaload, 1) := by decide +kernel
theorem dX10_takeRead_113 : decode cX10_takeRead 113 = .ok (.iastore, 1) := by decide +kernel
theorem dX10_takeRead_114 : decode cX10_takeRead 114 = .ok (.aload_n 0, 1) := by decide +kernel
theorem dX10_takeRead_115 : decode cX10_takeRead 115 = .ok (.getfield 22, 3) := by decide +kernel
theorem dX10_takeRead_118 : decode cX10_takeRead 118 = .ok (.iload_n 1, 1) := by decide +kernel
theorem dX10_takeRead_119 : decode cX10_takeRead 119 = .ok (.aload_n 0, 1) := by decide +kernel
theorem dX10_takeRead_120 : decode cX10_takeRead 120 = .ok (.getfield 50, 3) := by decide +kernel
theorem dX10_takeRead_123 : decode cX10_takeRead 123 = .ok (.iload_n 1, 1) := by decide +kernel
theorem dX10_takeRead_124 : decode cX10_takeRead 124 = .ok (.iaload, 1) := by decide +kernel
theorem dX10_takeRead_125 : decode cX10_takeRead 125 = .ok (.iastore, 1) := by decide +kernel
theorem dX10_takeRead_126 : decode cX10_takeRead 126 = .ok (.aload_n 0, 1) := by decide +kernel
theorem dX10_takeRead_127 : decode cX10_takeRead 127 = .ok (.getfield 25, 3) := by decide +kernel
theorem dX10_takeRead_130 : decode cX10_takeRead 130 = .ok (.iload_n 1, 1) := by decide +kernel
theorem dX10_takeRead_131 : decode cX10_takeRead 131 = .ok (.aload_n 0, 1) := by decide +kernel
theorem dX10_takeRead_132 : decode cX10_takeRead 132 = .ok (.getfield 53, 3) := by decide +kernel
theorem dX10_takeRead_135 : decode cX10_takeRead 135 = .ok (.iload_n 1, 1) := by decide +kernel
theorem dX10_takeRead_136 : decode cX10_takeRead 136 = .ok (.iaload, 1) := by decide +kernel
theorem dX10_takeRead_137 : decode cX10_takeRead 137 = .ok (.iastore, 1) := by decide +kernel
theorem dX10_takeRead_138 : decode cX10_takeRead 138 = .ok (.iinc 1 1, 3) := by decide +kernel
theorem dX10_takeRead_141 : decode cX10_takeRead 141 = .ok (.goto (-59), 3) := by decide +kernel
theorem dX10_takeRead_144 : decode cX10_takeRead 144 = .ok (.iconst 0, 1) := by decide +kernel
theorem dX10_takeRead_145 : decode cX10_takeRead 145 = .ok (.istore_n 1, 1) := by decide +kernel
theorem dX10_takeRead_146 : decode cX10_takeRead 146 = .ok (.iload_n 1, 1) := by decide +kernel
theorem dX10_takeRead_147 : decode cX10_takeRead 147 = .ok (.bipush 23, 2) := by decide +kernel
theorem dX10_takeRead_149 : decode cX10_takeRead 149 = .ok (.if_icmp .ge 16, 3) := by decide +kernel
theorem dX10_takeRead_152 : decode cX10_takeRead 152 = .ok (.aload_n 0, 1) := by decide +kernel
theorem dX10_takeRead_153 : decode cX10_takeRead 153 = .ok (.getfield 28, 3) := by decide +kernel
theorem dX10_takeRead_156 : decode cX10_takeRead 156 = .ok (.iload_n 1, 1) := by decide +kernel
theorem dX10_takeRead_157 : decode cX10_takeRead 157 = .ok (.iconst 0, 1) := by decide +kernel
theorem dX10_takeRead_158 : decode cX10_takeRead 158 = .ok (.iastore, 1) := by decide +kernel
theorem dX10_takeRead_159 : decode cX10_takeRead 159 = .ok (.iinc 1 1, 3) := by decide +kernel
theorem dX10_takeRead_162 : decode cX10_takeRead 162 = .ok (.goto (-16), 3) := by decide +kernel
theorem dX10_takeRead_165 : decode cX10_takeRead 165 = .ok (.iconst 0, 1) := by decide +kernel
theorem dX10_takeRead_166 : decode cX10_takeRead 166 = .ok (.istore_n 1, 1) := by decide +kernel
theorem dX10_takeRead_167 : decode cX10_takeRead 167 = .ok (.iload_n 1, 1) := by decide +kernel
theorem dX10_takeRead_168 : decode cX10_takeRead 168 = .ok (.iconst 4, 1) := by decide +kernel
theorem dX10_takeRead_169 : decode cX10_takeRead 169 = .ok (.if_icmp .ge 18, 3) := by decide +kernel
theorem dX10_takeRead_172 : decode cX10_takeRead 172 = .ok (.aload_n 0, 1) := by decide +kernel
theorem dX10_takeRead_173 : decode cX10_takeRead 173 = .ok (.getfield 28, 3) := by decide +kernel
theorem dX10_takeRead_176 : decode cX10_takeRead 176 = .ok (.iconst 4, 1) := by decide +kernel
theorem dX10_takeRead_177 : decode cX10_takeRead 177 = .ok (.iload_n 1, 1) := by decide +kernel
theorem dX10_takeRead_178 : decode cX10_takeRead 178 = .ok (.iadd, 1) := by decide +kernel
theorem dX10_takeRead_179 : decode cX10_takeRead 179 = .ok (.iconst (-1), 1) := by decide +kernel
theorem dX10_takeRead_180 : decode cX10_takeRead 180 = .ok (.iastore, 1) := by decide +kernel
theorem dX10_takeRead_181 : decode cX10_takeRead 181 = .ok (.iinc 1 1, 3) := by decide +kernel
theorem dX10_takeRead_184 : decode cX10_takeRead 184 = .ok (.goto (-17), 3) := by decide +kernel
theorem dX10_takeRead_187 : decode cX10_takeRead 187 = .ok (.return_, 1) := by decide +kernel
set_option maxRecDepth 20000 in
theorem ggX10_beach_X10_here : GoodIn wsX10_beach wsX10_here := goodIn_r _ [16, 2, 6, 17, 72, 73, 74, 75, 76, 77, 78, 79, 80, 81, 82, 83, 84, 85, 86, 87, 88, 89, 90, 91, 92, 93, 94, 95, 96, 97, 98, 99, 100, 101, 102, 103, 104, 105, 106, 107, 108, 109, 110] (by decide +kernel) (by decide +kernel)
set_option maxRecDepth 20000 in
theorem gX10_beach_X10_here : GoodIn wsX10_beach (wsV RX10 109 RX10 yX10_here wsX10_here) := goodIn_app (goodIn_of _ (by decide +kernel)) ggX10_beach_X10_here
set_option maxRecDepth 20000 in
theorem ggX10_beach_X10_takeClause : GoodIn wsX10_beach wsX10_takeClause := goodIn_r _ [21, 3, 2, 4, 5, 12, 13, 14, 15, 16, 6, 17, 22, 23, 24, 25, 1, 26, 27, 28, 29, 30, 31, 32, 33, 34, 35, 36, 37, 38, 39, 40, 41, 42, 43, 44, 45, 46, 47, 48, 49, 50, 51, 52, 53, 54, 55, 56, 57, 58, 72, 73, 74, 75, 76, 77, 78, 79, 80, 81, 82, 83, 84, 85, 86, 87, 88, 89, 90, 91, 92, 93, 94, 95, 96, 97, 98, 99, 100, 101, 102, 103, 104, 105, 106, 107, 108, 109, 110] (by decide +kernel) (by decide +kernel)
set_option maxRecDepth 20000 in
theorem gX10_beach_X10_takeClause : GoodIn wsX10_beach (wsV RX10 155 RX10 yX10_takeClause wsX10_takeClause) := goodIn_app (goodIn_of _ (by decide +kernel)) ggX10_beach_X10_takeClause
set_option maxRecDepth 20000 in
theorem ggX10_beach_X10_takeRead : GoodIn wsX10_beach wsX10_takeRead := goodIn_r _ [62, 3, 63, 4, 64, 5, 11, 65, 30, 66, 50, 67, 55, 68, 56, 69, 57, 70, 58, 71, 72, 73, 74, 75, 76, 77, 78, 79, 80, 81, 82, 83, 84, 85, 86, 87, 88, 89, 90, 91, 92, 93, 94, 95, 96, 97, 98, 99, 100, 101, 102, 103, 104, 105, 106, 107, 108, 109, 110] (by decide +kernel) (by decide +kernel)
set_option maxRecDepth 20000 in
theorem gX10_beach_X10_takeRead : GoodIn wsX10_beach (wsV RX10 158 RX10 yX10_takeRead wsX10_takeRead) := goodIn_app (goodIn_of _ (by decide +kernel)) ggX10_beach_X10_takeRead
theorem dX10_beach_0 : decode cX10_beach 0 = .ok (.aload_n 0, 1) := by decide +kernel
theorem dX10_beach_1 : decode cX10_beach 1 = .ok (.iconst (-1), 1) := by decide +kernel
theorem dX10_beach_2 : decode cX10_beach 2 = .ok (.putfield 34, 3) := by decide +kernel
theorem dX10_beach_5 : decode cX10_beach 5 = .ok (.aload_n 0, 1) := by decide +kernel
theorem dX10_beach_6 : decode cX10_beach 6 = .ok (.iconst 0, 1) := by decide +kernel
theorem dX10_beach_7 : decode cX10_beach 7 = .ok (.putfield 106, 3) := by decide +kernel
theorem dX10_beach_10 : decode cX10_beach 10 = .ok (.aload_n 0, 1) := by decide +kernel
theorem dX10_beach_11 : decode cX10_beach 11 = .ok (.iconst 0, 1) := by decide +kernel
theorem dX10_beach_12 : decode cX10_beach 12 = .ok (.putfield 134, 3) := by decide +kernel
theorem dX10_beach_15 : decode cX10_beach 15 = .ok (.aload_n 0, 1) := by decide +kernel
theorem dX10_beach_16 : decode cX10_beach 16 = .ok (.iconst 0, 1) := by decide +kernel
theorem dX10_beach_17 : decode cX10_beach 17 = .ok (.putfield 137, 3) := by decide +kernel
theorem dX10_beach_20 : decode cX10_beach 20 = .ok (.aload_n 0, 1) := by decide +kernel
theorem dX10_beach_21 : decode cX10_beach 21 = .ok (.iconst 0, 1) := by decide +kernel
theorem dX10_beach_22 : decode cX10_beach 22 = .ok (.putfield 140, 3) := by decide +kernel
theorem dX10_beach_25 : decode cX10_beach 25 = .ok (.iconst 0, 1) := by decide +kernel
theorem dX10_beach_26 : decode cX10_beach 26 = .ok (.istore_n 1, 1) := by decide +kernel
theorem dX10_beach_27 : decode cX10_beach 27 = .ok (.iload_n 1, 1) := by decide +kernel
theorem dX10_beach_28 : decode cX10_beach 28 = .ok (.ifCond .ne 18, 3) := by decide +kernel
theorem dX10_beach_31 : decode cX10_beach 31 = .ok (.aload_n 0, 1) := by decide +kernel
theorem dX10_beach_32 : decode cX10_beach 32 = .ok (.invokevirtual 109, 3) := by decide +kernel
theorem dX10_beach_35 : decode cX10_beach 35 = .ok (.ifCond .lt 11, 3) := by decide +kernel
theorem dX10_beach_38 : decode cX10_beach 38 = .ok (.aload_n 0, 1) := by decide +kernel
theorem dX10_beach_39 : decode cX10_beach 39 = .ok (.invokevirtual 155, 3) := by decide +kernel
theorem dX10_beach_42 : decode cX10_beach 42 = .ok (.istore_n 1, 1) := by decide +kernel
theorem dX10_beach_43 : decode cX10_beach 43 = .ok (.goto (-16), 3) := by decide +kernel
theorem dX10_beach_46 : decode cX10_beach 46 = .ok (.aload_n 0, 1) := by decide +kernel
theorem dX10_beach_47 : decode cX10_beach 47 = .ok (.iconst 0, 1) := by decide +kernel
theorem dX10_beach_48 : decode cX10_beach 48 = .ok (.putfield 102, 3) := by decide +kernel
theorem dX10_beach_51 : decode cX10_beach 51 = .ok (.iload_n 1, 1) := by decide +kernel
theorem dX10_beach_52 : decode cX10_beach 52 = .ok (.ifCond .le 8, 3) := by decide +kernel
theorem dX10_beach_55 : decode cX10_beach 55 = .ok (.bipush (-10), 2) := by decide +kernel
theorem dX10_beach_57 : decode cX10_beach 57 = .ok (.iload_n 1, 1) := by decide +kernel
theorem dX10_beach_58 : decode cX10_beach 58 = .ok (.isub, 1) := by decide +kernel
theorem dX10_beach_59 : decode cX10_beach 59 = .ok (.ireturn, 1) := by decide +kernel
theorem dX10_beach_60 : decode cX10_beach 60 = .ok (.aload_n 0, 1) := by decide +kernel
theorem dX10_beach_61 : decode cX10_beach 61 = .ok (.invokevirtual 158, 3) := by decide +kernel
theorem dX10_beach_64 : decode cX10_beach 64 = .ok (.aload_n 0, 1) := by decide +kernel
theorem dX10_beach_65 : decode cX10_beach 65 = .ok (.iconst 0, 1) := by decide +kernel
theorem dX10_beach_66 : decode cX10_beach 66 = .ok (.putfield 161, 3) := by decide +kernel
theorem dX10_beach_69 : decode cX10_beach 69 = .ok (.aload_n 0, 1) := by decide +kernel
theorem dX10_beach_70 : decode cX10_beach 70 = .ok (.iconst 0, 1) := by decide +kernel
theorem dX10_beach_71 : decode cX10_beach 71 = .ok (.putfield 164, 3) := by decide +kernel
theorem dX10_beach_74 : decode cX10_beach 74 = .ok (.aload_n 0, 1) := by decide +kernel
theorem dX10_beach_75 : decode cX10_beach 75 = .ok (.iconst 0, 1) := by decide +kernel
theorem dX10_beach_76 : decode cX10_beach 76 = .ok (.putfield 167, 3) := by decide +kernel
theorem dX10_beach_79 : decode cX10_beach 79 = .ok (.aload_n 0, 1) := by decide +kernel
theorem dX10_beach_80 : decode cX10_beach 80 = .ok (.getfield 84, 3) := by decide +kernel
theorem dX10_beach_83 : decode cX10_beach 83 = .ok (.iconst 0, 1) := by decide +kernel
theorem dX10_beach_84 : decode cX10_beach 84 = .ok (.iconst 0, 1) := by decide +kernel
theorem dX10_beach_85 : decode cX10_beach 85 = .ok (.bastore, 1) := by decide +kernel
theorem dX10_beach_86 : decode cX10_beach 86 = .ok (.aload_n 0, 1) := by decide +kernel
theorem dX10_beach_87 : decode cX10_beach 87 = .ok (.getfield 84, 3) := by decide +kernel
theorem dX10_beach_90 : decode cX10_beach 90 = .ok (.iconst 1, 1) := by decide +kernel
theorem dX10_beach_91 : decode cX10_beach 91 = .ok (.iconst 0, 1) := by decide +kernel
theorem dX10_beach_92 : decode cX10_beach 92 = .ok (.bastore, 1) := by decide +kernel
theorem dX10_beach_93 : decode cX10_beach 93 = .ok (.aload_n 0, 1) := by decide +kernel
theorem dX10_beach_94 : decode cX10_beach 94 = .ok (.getfield 94, 3) := by decide +kernel
theorem dX10_beach_97 : decode cX10_beach 97 = .ok (.ireturn, 1) := by decide +kernel
theorem dX10_fault_0 : decode cX10_fault 0 = .ok (.aload_n 0, 1) := by decide +kernel
theorem dX10_fault_1 : decode cX10_fault 1 = .ok (.getfield 34, 3) := by decide +kernel
theorem dX10_fault_4 : decode cX10_fault 4 = .ok (.ireturn, 1) := by decide +kernel
theorem dX10_allThat_0 : decode cX10_allThat 0 = .ok (.iconst 0, 1) := by decide +kernel
theorem dX10_allThat_1 : decode cX10_allThat 1 = .ok (.istore_n 2, 1) := by decide +kernel
theorem dX10_allThat_2 : decode cX10_allThat 2 = .ok (.iconst 0, 1) := by decide +kernel
theorem dX10_allThat_3 : decode cX10_allThat 3 = .ok (.istore_n 3, 1) := by decide +kernel
theorem dX10_allThat_4 : decode cX10_allThat 4 = .ok (.iload_n 3, 1) := by decide +kernel
theorem dX10_allThat_5 : decode cX10_allThat 5 = .ok (.aload_n 0, 1) := by decide +kernel
theorem dX10_allThat_6 : decode cX10_allThat 6 = .ok (.getfield 94, 3) := by decide +kernel
theorem dX10_allThat_9 : decode cX10_allThat 9 = .ok (.if_icmp .ge 32, 3) := by decide +kernel
theorem dX10_allThat_12 : decode cX10_allThat 12 = .ok (.iload_n 2, 1) := by decide +kernel
theorem dX10_allThat_13 : decode cX10_allThat 13 = .ok (.aload_n 0, 1) := by decide +kernel
theorem dX10_allThat_14 : decode cX10_allThat 14 = .ok (.getfield 28, 3) := by decide +kernel
theorem dX10_allThat_17 : decode cX10_allThat 17 = .ok (.bipush 12, 2) := by decide +kernel
theorem dX10_allThat_19 : decode cX10_allThat 19 = .ok (.iload_n 3, 1) := by decide +kernel
theorem dX10_allThat_20 : decode cX10_allThat 20 = .ok (.iadd, 1) := by decide +kernel
theorem dX10_allThat_21 : decode cX10_allThat 21 = .ok (.iaload, 1) := by decide +kernel
theorem dX10_allThat_22 : decode cX10_allThat 22 = .ok (.iload_n 1, 1) := by decide +kernel
theorem dX10_allThat_23 : decode cX10_allThat 23 = .ok (.if_icmp .ne 9, 3) := by decide +kernel
theorem dX10_allThat_26 : decode cX10_allThat 26 = .ok (.iconst 1, 1) := by decide +kernel
theorem dX10_allThat_27 : decode cX10_allThat 27 = .ok (.iload_n 3, 1) := by decide +kernel
theorem dX10_allThat_28 : decode cX10_allThat 28 = .ok (.ishl, 1) := by decide +kernel
theorem dX10_allThat_29 : decode cX10_allThat 29 = .ok (.goto 4, 3) := by decide +kernel
theorem dX10_allThat_32 : decode cX10_allThat 32 = .ok (.iconst 0, 1) := by decide +kernel
theorem dX10_allThat_33 : decode cX10_allThat 33 = .ok (.ior, 1) := by decide +kernel
theorem dX10_allThat_34 : decode cX10_allThat 34 = .ok (.istore_n 2, 1) := by decide +kernel
theorem dX10_allThat_35 : decode cX10_allThat 35 = .ok (.iinc 3 1, 3) := by decide +kernel
theorem dX10_allThat_38 : decode cX10_allThat 38 = .ok (.goto (-34), 3) := by decide +kernel
theorem dX10_allThat_41 : decode cX10_allThat 41 = .ok (.iload_n 2, 1) := by decide +kernel
theorem dX10_allThat_42 : decode cX10_allThat 42 = .ok (.ireturn, 1) := by decide +kernel
theorem dX10_owed_0 : decode cX10_owed 0 = .ok (.iconst 0, 1) := by decide +kernel
theorem dX10_owed_1 : decode cX10_owed 1 = .ok (.istore_n 1, 1) := by decide +kernel
theorem dX10_owed_2 : decode cX10_owed 2 = .ok (.iconst 0, 1) := by decide +kernel
theorem dX10_owed_3 : decode cX10_owed 3 = .ok (.istore_n 2, 1) := by decide +kernel
theorem dX10_owed_4 : decode cX10_owed 4 = .ok (.iload_n 2, 1) := by decide +kernel
theorem dX10_owed_5 : decode cX10_owed 5 = .ok (.aload_n 0, 1) := by decide +kernel
theorem dX10_owed_6 : decode cX10_owed 6 = .ok (.getfield 94, 3) := by decide +kernel
theorem dX10_owed_9 : decode cX10_owed 9 = .ok (.if_icmp .ge 35, 3) := by decide +kernel
theorem dX10_owed_12 : decode cX10_owed 12 = .ok (.iload_n 1, 1) := by decide +kernel
theorem dX10_owed_13 : decode cX10_owed 13 = .ok (.aload_n 0, 1) := by decide +kernel
theorem dX10_owed_14 : decode cX10_owed 14 = .ok (.getfield 28, 3) := by decide +kernel
theorem dX10_owed_17 : decode cX10_owed 17 = .ok (.bipush 12, 2) := by decide +kernel
theorem dX10_owed_19 : decode cX10_owed 19 = .ok (.iload_n 2, 1) := by decide +kernel
theorem dX10_owed_20 : decode cX10_owed 20 = .ok (.iadd, 1) := by decide +kernel
theorem dX10_owed_21 : decode cX10_owed 21 = .ok (.iaload, 1) := by decide +kernel
theorem dX10_owed_22 : decode cX10_owed 22 = .ok (.iconst 2, 1) := by decide +kernel
theorem dX10_owed_23 : decode cX10_owed 23 = .ok (.if_icmp .ne 12, 3) := by decide +kernel
theorem dX10_owed_26 : decode cX10_owed 26 = .ok (.aload_n 0, 1) := by decide +kernel
theorem dX10_owed_27 : decode cX10_owed 27 = .ok (.getfield 25, 3) := by decide +kernel
theorem dX10_owed_30 : decode cX10_owed 30 = .ok (.iload_n 2, 1) := by decide +kernel
theorem dX10_owed_31 : decode cX10_owed 31 = .ok (.iaload, 1) := by decide +kernel
theorem dX10_owed_32 : decode cX10_owed 32 = .ok (.goto 4, 3) := by decide +kernel
theorem dX10_owed_35 : decode cX10_owed 35 = .ok (.iconst 0, 1) := by decide +kernel
theorem dX10_owed_36 : decode cX10_owed 36 = .ok (.iadd, 1) := by decide +kernel
theorem dX10_owed_37 : decode cX10_owed 37 = .ok (.istore_n 1, 1) := by decide +kernel
theorem dX10_owed_38 : decode cX10_owed 38 = .ok (.iinc 2 1, 3) := by decide +kernel
theorem dX10_owed_41 : decode cX10_owed 41 = .ok (.goto (-37), 3) := by decide +kernel
theorem dX10_owed_44 : decode cX10_owed 44 = .ok (.iload_n 1, 1) := by decide +kernel
theorem dX10_owed_45 : decode cX10_owed 45 = .ok (.ireturn, 1) := by decide +kernel
set_option maxRecDepth 20000 in
theorem ggX10_told_X10_allThat : GoodIn wsX10_told wsX10_allThat := goodIn_r _ [14, 3, 5, 20, 21, 22, 23, 24, 25, 26, 27, 28, 29, 30, 31, 32, 33, 34, 35, 36, 37, 38, 39, 40, 41, 42, 43, 44, 45, 46, 47, 48, 49, 50, 51, 52, 53, 54, 55, 56, 57, 58] (by decide +kernel) (by decide +kernel)
set_option maxRecDepth 20000 in
theorem gX10_told_X10_allThat : GoodIn wsX10_told (wsV RX10 170 RX10 yX10_allThat wsX10_allThat) := goodIn_app (goodIn_of _ (by decide +kernel)) ggX10_told_X10_allThat
set_option maxRecDepth 20000 in
theorem ggX10_told_X10_owed : GoodIn wsX10_told wsX10_owed := goodIn_r _ [18, 3, 5, 19, 20, 21, 22, 23, 24, 25, 26, 27, 28, 29, 30, 31, 32, 33, 34, 35, 36, 37, 38, 39, 40, 41, 42, 43, 44, 45, 46, 47, 48, 49, 50, 51, 52, 53, 54, 55, 56, 57, 58] (by decide +kernel) (by decide +kernel)
set_option maxRecDepth 20000 in
theorem gX10_told_X10_owed : GoodIn wsX10_told (wsV RX10 174 RX10 yX10_owed wsX10_owed) := goodIn_app (goodIn_of _ (by decide +kernel)) ggX10_told_X10_owed
theorem dX10_told_0 : decode cX10_told 0 = .ok (.iload_n 1, 1) := by decide +kernel
theorem dX10_told_1 : decode cX10_told 1 = .ok (.tableswitch 139 0 12 #[67, 72, 77, 82, 87, 95, 101, 107, 113, 119, 124, 129, 134], 67) := by decide +kernel
theorem dX10_told_68 : decode cX10_told 68 = .ok (.aload_n 0, 1) := by decide +kernel
theorem dX10_told_69 : decode cX10_told 69 = .ok (.getfield 152, 3) := by decide +kernel
theorem dX10_told_72 : decode cX10_told 72 = .ok (.ireturn, 1) := by decide +kernel
theorem dX10_told_73 : decode cX10_told 73 = .ok (.aload_n 0, 1) := by decide +kernel
theorem dX10_told_74 : decode cX10_told 74 = .ok (.getfield 87, 3) := by decide +kernel
theorem dX10_told_77 : decode cX10_told 77 = .ok (.ireturn, 1) := by decide +kernel
theorem dX10_told_78 : decode cX10_told 78 = .ok (.aload_n 0, 1) := by decide +kernel
theorem dX10_told_79 : decode cX10_told 79 = .ok (.getfield 94, 3) := by decide +kernel
theorem dX10_told_82 : decode cX10_told 82 = .ok (.ireturn, 1) := by decide +kernel
theorem dX10_told_83 : decode cX10_told 83 = .ok (.aload_n 0, 1) := by decide +kernel
theorem dX10_told_84 : decode cX10_told 84 = .ok (.getfield 102, 3) := by decide +kernel
theorem dX10_told_87 : decode cX10_told 87 = .ok (.ireturn, 1) := by decide +kernel
theorem dX10_told_88 : decode cX10_told 88 = .ok (.aload_n 0, 1) := by decide +kernel
theorem dX10_told_89 : decode cX10_told 89 = .ok (.getfield 28, 3) := by decide +kernel
theorem dX10_told_92 : decode cX10_told 92 = .ok (.bipush 22, 2) := by decide +kernel
theorem dX10_told_94 : decode cX10_told 94 = .ok (.iaload, 1) := by decide +kernel
theorem dX10_told_95 : decode cX10_told 95 = .ok (.ireturn, 1) := by decide +kernel
theorem dX10_told_96 : decode cX10_told 96 = .ok (.aload_n 0, 1) := by decide +kernel
theorem dX10_told_97 : decode cX10_told 97 = .ok (.iconst 0, 1) := by decide +kernel
theorem dX10_told_98 : decode cX10_told 98 = .ok (.invokevirtual 170, 3) := by decide +kernel
theorem dX10_told_101 : decode cX10_told 101 = .ok (.ireturn, 1) := by decide +kernel
theorem dX10_told_102 : decode cX10_told 102 = .ok (.aload_n 0, 1) := by decide +kernel
theorem dX10_told_103 : decode cX10_told 103 = .ok (.iconst 2, 1) := by decide +kernel
theorem dX10_told_104 : decode cX10_told 104 = .ok (.invokevirtual 170, 3) := by decide +kernel
theorem dX10_told_107 : decode cX10_told 107 = .ok (.ireturn, 1) := by decide +kernel
theorem dX10_told_108 : decode cX10_told 108 = .ok (.aload_n 0, 1) := by decide +kernel
theorem dX10_told_109 : decode cX10_told 109 = .ok (.iconst 3, 1) := by decide +kernel
theorem dX10_told_110 : decode cX10_told 110 = .ok (.invokevirtual 170, 3) := by decide +kernel
theorem dX10_told_113 : decode cX10_told 113 = .ok (.ireturn, 1) := by decide +kernel
theorem dX10_told_114 : decode cX10_told 114 = .ok (.aload_n 0, 1) := by decide +kernel
theorem dX10_told_115 : decode cX10_told 115 = .ok (.iconst 4, 1) := by decide +kernel
theorem dX10_told_116 : decode cX10_told 116 = .ok (.invokevirtual 170, 3) := by decide +kernel
theorem dX10_told_119 : decode cX10_told 119 = .ok (.ireturn, 1) := by decide +kernel
theorem dX10_told_120 : decode cX10_told 120 = .ok (.aload_n 0, 1) := by decide +kernel
theorem dX10_told_121 : decode cX10_told 121 = .ok (.invokevirtual 174, 3) := by decide +kernel
theorem dX10_told_124 : decode cX10_told 124 = .ok (.ireturn, 1) := by decide +kernel
theorem dX10_told_125 : decode cX10_told 125 = .ok (.aload_n 0, 1) := by decide +kernel
theorem dX10_told_126 : decode cX10_told 126 = .ok (.getfield 161, 3) := by decide +kernel
theorem dX10_told_129 : decode cX10_told 129 = .ok (.ireturn, 1) := by decide +kernel
theorem dX10_told_130 : decode cX10_told 130 = .ok (.aload_n 0, 1) := by decide +kernel
theorem dX10_told_131 : decode cX10_told 131 = .ok (.getfield 164, 3) := by decide +kernel
theorem dX10_told_134 : decode cX10_told 134 = .ok (.ireturn, 1) := by decide +kernel
theorem dX10_told_135 : decode cX10_told 135 = .ok (.aload_n 0, 1) := by decide +kernel
theorem dX10_told_136 : decode cX10_told 136 = .ok (.getfield 167, 3) := by decide +kernel
theorem dX10_told_139 : decode cX10_told 139 = .ok (.ireturn, 1) := by decide +kernel
theorem dX10_told_140 : decode cX10_told 140 = .ok (.ldc 101, 2) := by decide +kernel
theorem dX10_told_142 : decode cX10_told 142 = .ok (.ireturn, 1) := by decide +kernel
theorem dX10_depthBehind_0 : decode cX10_depthBehind 0 = .ok (.iload_n 1, 1) := by decide +kernel
theorem dX10_depthBehind_1 : decode cX10_depthBehind 1 = .ok (.iconst 1, 1) := by decide +kernel
theorem dX10_depthBehind_2 : decode cX10_depthBehind 2 = .ok (.iadd, 1) := by decide +kernel
theorem dX10_depthBehind_3 : decode cX10_depthBehind 3 = .ok (.aload_n 0, 1) := by decide +kernel
theorem dX10_depthBehind_4 : decode cX10_depthBehind 4 = .ok (.getfield 7, 3) := by decide +kernel
theorem dX10_depthBehind_7 : decode cX10_depthBehind 7 = .ok (.aload_n 0, 1) := by decide +kernel
theorem dX10_depthBehind_8 : decode cX10_depthBehind 8 = .ok (.getfield 28, 3) := by decide +kernel
theorem dX10_depthBehind_11 : decode cX10_depthBehind 11 = .ok (.bipush 22, 2) := by decide +kernel
theorem dX10_depthBehind_13 : decode cX10_depthBehind 13 = .ok (.iaload, 1) := by decide +kernel
theorem dX10_depthBehind_14 : decode cX10_depthBehind 14 = .ok (.iload_n 2, 1) := by decide +kernel
theorem dX10_depthBehind_15 : decode cX10_depthBehind 15 = .ok (.iadd, 1) := by decide +kernel
theorem dX10_depthBehind_16 : decode cX10_depthBehind 16 = .ok (.aload_n 0, 1) := by decide +kernel
theorem dX10_depthBehind_17 : decode cX10_depthBehind 17 = .ok (.getfield 152, 3) := by decide +kernel
theorem dX10_depthBehind_20 : decode cX10_depthBehind 20 = .ok (.irem, 1) := by decide +kernel
theorem dX10_depthBehind_21 : decode cX10_depthBehind 21 = .ok (.iaload, 1) := by decide +kernel
theorem dX10_depthBehind_22 : decode cX10_depthBehind 22 = .ok (.isub, 1) := by decide +kernel
theorem dX10_depthBehind_23 : decode cX10_depthBehind 23 = .ok (.istore_n 3, 1) := by decide +kernel
theorem dX10_depthBehind_24 : decode cX10_depthBehind 24 = .ok (.iload_n 3, 1) := by decide +kernel
theorem dX10_depthBehind_25 : decode cX10_depthBehind 25 = .ok (.ifCond .le 7, 3) := by decide +kernel
theorem dX10_depthBehind_28 : decode cX10_depthBehind 28 = .ok (.iload_n 3, 1) := by decide +kernel
theorem dX10_depthBehind_29 : decode cX10_depthBehind 29 = .ok (.goto 4, 3) := by decide +kernel
theorem dX10_depthBehind_32 : decode cX10_depthBehind 32 = .ok (.iconst 0, 1) := by decide +kernel
theorem dX10_depthBehind_33 : decode cX10_depthBehind 33 = .ok (.ireturn, 1) := by decide +kernel
set_option maxRecDepth 20000 in
theorem ggX10_depth_X10_isCell : GoodIn wsX10_depth wsX10_isCell := goodIn_r _ [8, 9, 10, 11, 7, 12] (by decide +kernel) (by decide +kernel)
set_option maxRecDepth 20000 in
theorem gX10_depth_X10_isCell : GoodIn wsX10_depth (va_wsS RX10 177 yX10_isCell wsX10_isCell) := goodIn_app (goodIn_of _ (by decide +kernel)) ggX10_depth_X10_isCell
set_option maxRecDepth 20000 in
theorem ggX10_depth_X10_in : GoodIn wsX10_depth wsX10_in := goodIn_r _ [12] (by decide +kernel) (by decide +kernel)
set_option maxRecDepth 20000 in
theorem gX10_depth_X10_in : GoodIn wsX10_depth (va_wsS RX10 90 yX10_in wsX10_in) := goodIn_app (goodIn_of _ (by decide +kernel)) ggX10_depth_X10_in
set_option maxRecDepth 20000 in
theorem ggX10_depth_X10_depthBehind : GoodIn wsX10_depth wsX10_depthBehind := goodIn_r _ [16, 17, 18, 3, 19, 20, 21, 22, 23, 24, 25, 26, 27, 28, 29, 30, 31, 32, 33, 34, 35, 36, 37, 38, 39, 40, 41, 42, 43, 44, 45, 46, 47, 48, 49, 50, 51, 52, 53, 54, 55, 56, 57] (by decide +kernel) (by decide +kernel)
set_option maxRecDepth 20000 in
theorem gX10_depth_X10_depthBehind : GoodIn wsX10_depth (wsV RX10 184 RX10 yX10_depthBehind wsX10_depthBehind) := goodIn_app (goodIn_of _ (by decide +kernel)) ggX10_depth_X10_depthBehind
theorem dX10_depth_0 : decode cX10_depth 0 = .ok (.iload_n 1, 1) := by decide +kernel
theorem dX10_depth_1 : decode cX10_depth 1 = .ok (.invokestatic 177, 3) := by decide +kernel
theorem dX10_depth_4 : decode cX10_depth 4 = .ok (.ifCond .eq 15, 3) := by decide +kernel
theorem dX10_depth_7 : decode cX10_depth 7 = .ok (.iload_n 2, 1) := by decide +kernel
theorem dX10_depth_8 : decode cX10_depth 8 = .ok (.i2l, 1) := by decide +kernel
theorem dX10_depth_9 : decode cX10_depth 9 = .ok (.lconst 0, 1) := by decide +kernel
theorem dX10_depth_10 : decode cX10_depth 10 = .ok (.ldc2_w 181, 3) := by decide +kernel
theorem dX10_depth_13 : decode cX10_depth 13 = .ok (.invokestatic 90, 3) := by decide +kernel
theorem dX10_depth_16 : decode cX10_depth 16 = .ok (.ifCond .ne 6, 3) := by decide +kernel
theorem dX10_depth_19 : decode cX10_depth 19 = .ok (.ldc 101, 2) := by decide +kernel
theorem dX10_depth_21 : decode cX10_depth 21 = .ok (.ireturn, 1) := by decide +kernel
theorem dX10_depth_22 : decode cX10_depth 22 = .ok (.aload_n 0, 1) := by decide +kernel
theorem dX10_depth_23 : decode cX10_depth 23 = .ok (.getfield 152, 3) := by decide +kernel
theorem dX10_depth_26 : decode cX10_depth 26 = .ok (.ifCond .ne 8, 3) := by decide +kernel
theorem dX10_depth_29 : decode cX10_depth 29 = .ok (.ldc 183, 2) := by decide +kernel
theorem dX10_depth_31 : decode cX10_depth 31 = .ok (.goto 9, 3) := by decide +kernel
theorem dX10_depth_34 : decode cX10_depth 34 = .ok (.aload_n 0, 1) := by decide +kernel
theorem dX10_depth_35 : decode cX10_depth 35 = .ok (.iload_n 1, 1) := by decide +kernel
theorem dX10_depth_36 : decode cX10_depth 36 = .ok (.iload_n 2, 1) := by decide +kernel
theorem dX10_depth_37 : decode cX10_depth 37 = .ok (.invokevirtual 184, 3) := by decide +kernel
theorem dX10_depth_40 : decode cX10_depth 40 = .ok (.ireturn, 1) := by decide +kernel
set_option maxRecDepth 20000 in
theorem ggX10_hut_X10_isHut : GoodIn wsX10_hut wsX10_isHut := goodIn_r _ [9, 10, 11, 12, 8, 13, 14, 15, 16, 17, 18, 19, 20, 21, 22, 23, 24, 25, 26, 27, 28, 29, 30, 31, 32, 33, 34, 35, 36, 37, 38, 39, 40, 41, 42, 43, 44, 45, 46, 47, 48, 49, 50, 51, 52] (by decide +kernel) (by decide +kernel)
set_option maxRecDepth 20000 in
theorem gX10_hut_X10_isHut : GoodIn wsX10_hut (wsV RX10 187 RX10 yX10_isHut wsX10_isHut) := goodIn_app (goodIn_of _ (by decide +kernel)) ggX10_hut_X10_isHut
theorem dX10_hut_0 : decode cX10_hut 0 = .ok (.aload_n 0, 1) := by decide +kernel
theorem dX10_hut_1 : decode cX10_hut 1 = .ok (.iload_n 1, 1) := by decide +kernel
theorem dX10_hut_2 : decode cX10_hut 2 = .ok (.invokevirtual 187, 3) := by decide +kernel
theorem dX10_hut_5 : decode cX10_hut 5 = .ok (.ifCond .ne 6, 3) := by decide +kernel
theorem dX10_hut_8 : decode cX10_hut 8 = .ok (.ldc 190, 2) := by decide +kernel
theorem dX10_hut_10 : decode cX10_hut 10 = .ok (.ireturn, 1) := by decide +kernel
theorem dX10_hut_11 : decode cX10_hut 11 = .ok (.iload_n 2, 1) := by decide +kernel
theorem dX10_hut_12 : decode cX10_hut 12 = .ok (.tableswitch 65 0 3 #[32, 39, 46, 55], 32) := by decide +kernel
theorem dX10_hut_44 : decode cX10_hut 44 = .ok (.aload_n 0, 1) := by decide +kernel
theorem dX10_hut_45 : decode cX10_hut 45 = .ok (.getfield 13, 3) := by decide +kernel
theorem dX10_hut_48 : decode cX10_hut 48 = .ok (.iload_n 1, 1) := by decide +kernel
theorem dX10_hut_49 : decode cX10_hut 49 = .ok (.iaload, 1) := by decide +kernel
theorem dX10_hut_50 : decode cX10_hut 50 = .ok (.ireturn, 1) := by decide +kernel
theorem dX10_hut_51 : decode cX10_hut 51 = .ok (.aload_n 0, 1) := by decide +kernel
theorem dX10_hut_52 : decode cX10_hut 52 = .ok (.getfield 28, 3) := by decide +kernel
theorem dX10_hut_55 : decode cX10_hut 55 = .ok (.iload_n 1, 1) := by decide +kernel
theorem dX10_hut_56 : decode cX10_hut 56 = .ok (.iaload, 1) := by decide +kernel
theorem dX10_hut_57 : decode cX10_hut 57 = .ok (.ireturn, 1) := by decide +kernel
theorem dX10_hut_58 : decode cX10_hut 58 = .ok (.aload_n 0, 1) := by decide +kernel
theorem dX10_hut_59 : decode cX10_hut 59 = .ok (.getfield 28, 3) := by decide +kernel
theorem dX10_hut_62 : decode cX10_hut 62 = .ok (.iconst 4, 1) := by decide +kernel
theorem dX10_hut_63 : decode cX10_hut 63 = .ok (.iload_n 1, 1) := by decide +kernel
theorem dX10_hut_64 : decode cX10_hut 64 = .ok (.iadd, 1) := by decide +kernel
theorem dX10_hut_65 : decode cX10_hut 65 = .ok (.iaload, 1) := by decide +kernel
theorem dX10_hut_66 : decode cX10_hut 66 = .ok (.ireturn, 1) := by decide +kernel
theorem dX10_hut_67 : decode cX10_hut 67 = .ok (.aload_n 0, 1) := by decide +kernel
theorem dX10_hut_68 : decode cX10_hut 68 = .ok (.getfield 28, 3) := by decide +kernel
theorem dX10_hut_71 : decode cX10_hut 71 = .ok (.bipush 8, 2) := by decide +kernel
theorem dX10_hut_73 : decode cX10_hut 73 = .ok (.iload_n 1, 1) := by decide +kernel
theorem dX10_hut_74 : decode cX10_hut 74 = .ok (.iadd, 1) := by decide +kernel
theorem dX10_hut_75 : decode cX10_hut 75 = .ok (.iaload, 1) := by decide +kernel
theorem dX10_hut_76 : decode cX10_hut 76 = .ok (.ireturn, 1) := by decide +kernel
theorem dX10_hut_77 : decode cX10_hut 77 = .ok (.ldc 101, 2) := by decide +kernel
theorem dX10_hut_79 : decode cX10_hut 79 = .ok (.ireturn, 1) := by decide +kernel
set_option maxRecDepth 20000 in
theorem ggX10_legal_X10_isCase : GoodIn wsX10_legal wsX10_isCase := goodIn_r _ [12, 13, 14, 15, 11, 16, 17, 18, 19, 20, 21, 22, 23, 24, 25, 26, 27, 28, 29, 30, 31, 32, 33, 34, 35, 36, 37, 38, 39, 40, 41, 42, 43, 44, 45, 46, 47, 48, 49, 50, 51, 52, 53, 54, 55] (by decide +kernel) (by decide +kernel)
set_option maxRecDepth 20000 in
theorem gX10_legal_X10_isCase : GoodIn wsX10_legal (wsV RX10 191 RX10 yX10_isCase wsX10_isCase) := goodIn_app (goodIn_of _ (by decide +kernel)) ggX10_legal_X10_isCase
theorem dX10_legal_0 : decode cX10_legal 0 = .ok (.aload_n 0, 1) := by decide +kernel
theorem dX10_legal_1 : decode cX10_legal 1 = .ok (.iload_n 1, 1) := by decide +kernel
theorem dX10_legal_2 : decode cX10_legal 2 = .ok (.invokevirtual 191, 3) := by decide +kernel
theorem dX10_legal_5 : decode cX10_legal 5 = .ok (.ifCond .ne 6, 3) := by decide +kernel
theorem dX10_legal_8 : decode cX10_legal 8 = .ok (.ldc 190, 2) := by decide +kernel
theorem dX10_legal_10 : decode cX10_legal 10 = .ok (.ireturn, 1) := by decide +kernel
theorem dX10_legal_11 : decode cX10_legal 11 = .ok (.iload_n 2, 1) := by decide +kernel
theorem dX10_legal_12 : decode cX10_legal 12 = .ok (.tableswitch 88 0 5 #[40, 47, 54, 61, 68, 78], 40) := by decide +kernel
theorem dX10_legal_52 : decode cX10_legal 52 = .ok (.aload_n 0, 1) := by decide +kernel
theorem dX10_legal_53 : decode cX10_legal 53 = .ok (.getfield 16, 3) := by decide +kernel
theorem dX10_legal_56 : decode cX10_legal 56 = .ok (.iload_n 1, 1) := by decide +kernel
theorem dX10_legal_57 : decode cX10_legal 57 = .ok (.iaload, 1) := by decide +kernel
theorem dX10_legal_58 : decode cX10_legal 58 = .ok (.ireturn, 1) := by decide +kernel
theorem dX10_legal_59 : decode cX10_legal 59 = .ok (.aload_n 0, 1) := by decide +kernel
theorem dX10_legal_60 : decode cX10_legal 60 = .ok (.getfield 19, 3) := by decide +kernel
theorem dX10_legal_63 : decode cX10_legal 63 = .ok (.iload_n 1, 1) := by decide +kernel
theorem dX10_legal_64 : decode cX10_legal 64 = .ok (.iaload, 1) := by decide +kernel
theorem dX10_legal_65 : decode cX10_legal 65 = .ok (.ireturn, 1) := by decide +kernel
theorem dX10_legal_66 : decode cX10_legal 66 = .ok (.aload_n 0, 1) := by decide +kernel
theorem dX10_legal_67 : decode cX10_legal 67 = .ok (.getfield 22, 3) := by decide +kernel
theorem dX10_legal_70 : decode cX10_legal 70 = .ok (.iload_n 1, 1) := by decide +kernel
theorem dX10_legal_71 : decode cX10_legal 71 = .ok (.iaload, 1) := by decide +kernel
theorem dX10_legal_72 : decode cX10_legal 72 = .ok (.ireturn, 1) := by decide +kernel
theorem dX10_legal_73 : decode cX10_legal 73 = .ok (.aload_n 0, 1) := by decide +kernel
theorem dX10_legal_74 : decode cX10_legal 74 = .ok (.getfield 25, 3) := by decide +kernel
theorem dX10_legal_77 : decode cX10_legal 77 = .ok (.iload_n 1, 1) := by decide +kernel
theorem dX10_legal_78 : decode cX10_legal 78 = .ok (.iaload, 1) := by decide +kernel
theorem dX10_legal_79 : decode cX10_legal 79 = .ok (.ireturn, 1) := by decide +kernel
theorem dX10_legal_80 : decode cX10_legal 80 = .ok (.aload_n 0, 1) := by decide +kernel
theorem dX10_legal_81 : decode cX10_legal 81 = .ok (.getfield 28, 3) := by decide +kernel
theorem dX10_legal_84 : decode cX10_legal 84 = .ok (.bipush 12, 2) := by decide +kernel
theorem dX10_legal_86 : decode cX10_legal 86 = .ok (.iload_n 1, 1) := by decide +kernel
theorem dX10_legal_87 : decode cX10_legal 87 = .ok (.iadd, 1) := by decide +kernel
theorem dX10_legal_88 : decode cX10_legal 88 = .ok (.iaload, 1) := by decide +kernel
theorem dX10_legal_89 : decode cX10_legal 89 = .ok (.ireturn, 1) := by decide +kernel
theorem dX10_legal_90 : decode cX10_legal 90 = .ok (.aload_n 0, 1) := by decide +kernel
theorem dX10_legal_91 : decode cX10_legal 91 = .ok (.getfield 28, 3) := by decide +kernel
theorem dX10_legal_94 : decode cX10_legal 94 = .ok (.bipush 17, 2) := by decide +kernel
theorem dX10_legal_96 : decode cX10_legal 96 = .ok (.iload_n 1, 1) := by decide +kernel
theorem dX10_legal_97 : decode cX10_legal 97 = .ok (.iadd, 1) := by decide +kernel
theorem dX10_legal_98 : decode cX10_legal 98 = .ok (.iaload, 1) := by decide +kernel
theorem dX10_legal_99 : decode cX10_legal 99 = .ok (.ireturn, 1) := by decide +kernel
theorem dX10_legal_100 : decode cX10_legal 100 = .ok (.ldc 101, 2) := by decide +kernel
theorem dX10_legal_102 : decode cX10_legal 102 = .ok (.ireturn, 1) := by decide +kernel
theorem dX10_remember_0 : decode cX10_remember 0 = .ok (.aload_n 0, 1) := by decide +kernel
theorem dX10_remember_1 : decode cX10_remember 1 = .ok (.getfield 167, 3) := by decide +kernel
theorem dX10_remember_4 : decode cX10_remember 4 = .ok (.bipush 20, 2) := by decide +kernel
theorem dX10_remember_6 : decode cX10_remember 6 = .ok (.if_icmp .ne 44, 3) := by decide +kernel
theorem dX10_remember_9 : decode cX10_remember 9 = .ok (.bipush 23, 2) := by decide +kernel
theorem dX10_remember_11 : decode cX10_remember 11 = .ok (.istore_n 1, 1) := by decide +kernel
theorem dX10_remember_12 : decode cX10_remember 12 = .ok (.iload_n 1, 1) := by decide +kernel
theorem dX10_remember_13 : decode cX10_remember 13 = .ok (.sipush 460, 3) := by decide +kernel
theorem dX10_remember_16 : decode cX10_remember 16 = .ok (.if_icmp .ge 24, 3) := by decide +kernel
theorem dX10_remember_19 : decode cX10_remember 19 = .ok (.aload_n 0, 1) := by decide +kernel
theorem dX10_remember_20 : decode cX10_remember 20 = .ok (.getfield 56, 3) := by decide +kernel
theorem dX10_remember_23 : decode cX10_remember 23 = .ok (.iload_n 1, 1) := by decide +kernel
theorem dX10_remember_24 : decode cX10_remember 24 = .ok (.bipush 23, 2) := by decide +kernel
theorem dX10_remember_26 : decode cX10_remember 26 = .ok (.isub, 1) := by decide +kernel
theorem dX10_remember_27 : decode cX10_remember 27 = .ok (.aload_n 0, 1) := by decide +kernel
theorem dX10_remember_28 : decode cX10_remember 28 = .ok (.getfield 56, 3) := by decide +kernel
theorem dX10_remember_31 : decode cX10_remember 31 = .ok (.iload_n 1, 1) := by decide +kernel
theorem dX10_remember_32 : decode cX10_remember 32 = .ok (.iaload, 1) := by decide +kernel
theorem dX10_remember_33 : decode cX10_remember 33 = .ok (.iastore, 1) := by decide +kernel
theorem dX10_remember_34 : decode cX10_remember 34 = .ok (.iinc 1 1, 3) := by decide +kernel
theorem dX10_remember_37 : decode cX10_remember 37 = .ok (.goto (-25), 3) := by decide +kernel
theorem dX10_remember_40 : decode cX10_remember 40 = .ok (.aload_n 0, 1) := by decide +kernel
theorem dX10_remember_41 : decode cX10_remember 41 = .ok (.dup, 1) := by decide +kernel
theorem dX10_remember_42 : decode cX10_remember 42 = .ok (.getfield 167, 3) := by decide +kernel
theorem dX10_remember_45 : decode cX10_remember 45 = .ok (.iconst 1, 1) := by decide +kernel
theorem dX10_remember_46 : decode cX10_remember 46 = .ok (.isub, 1) := by decide +kernel
theorem dX10_remember_47 : decode cX10_remember 47 = .ok (.putfield 167, 3) := by decide +kernel
theorem dX10_remember_50 : decode cX10_remember 50 = .ok (.iconst 0, 1) := by decide +kernel
theorem dX10_remember_51 : decode cX10_remember 51 = .ok (.istore_n 1, 1) := by decide +kernel
theorem dX10_remember_52 : decode cX10_remember 52 = .ok (.iload_n 1, 1) := by decide +kernel
theorem dX10_remember_53 : decode cX10_remember 53 = .ok (.bipush 23, 2) := by decide +kernel
theorem dX10_remember_55 : decode cX10_remember 55 = .ok (.if_icmp .ge 29, 3) := by decide +kernel
theorem dX10_remember_58 : decode cX10_remember 58 = .ok (.aload_n 0, 1) := by decide +kernel
theorem dX10_remember_59 : decode cX10_remember 59 = .ok (.getfield 56, 3) := by decide +kernel
theorem dX10_remember_62 : decode cX10_remember 62 = .ok (.bipush 23, 2) := by decide +kernel
theorem dX10_remember_64 : decode cX10_remember 64 = .ok (.aload_n 0, 1) := by decide +kernel
theorem dX10_remember_65 : decode cX10_remember 65 = .ok (.getfield 167, 3) := by decide +kernel
theorem dX10_remember_68 : decode cX10_remember 68 = .ok (.imul, 1) := by decide +kernel
theorem dX10_remember_69 : decode cX10_remember 69 = .ok (.iload_n 1, 1) := by decide +kernel
theorem dX10_remember_70 : decode cX10_remember 70 = .ok (.iadd, 1) := by decide +kernel
theorem dX10_remember_71 : decode cX10_remember 71 = .ok (.aload_n 0, 1) := by decide +kernel
theorem dX10_remember_72 : decode cX10_remember 72 = .ok (.getfield 28, 3) := by decide +kernel
theorem dX10_remember_75 : decode cX10_remember 75 = .ok (.iload_n 1, 1) := by decide +kernel
theorem dX10_remember_76 : decode cX10_remember 76 = .ok (.iaload, 1) := by decide +kernel
theorem dX10_remember_77 : decode cX10_remember 77 = .ok (.iastore, 1) := by decide +kernel
theorem dX10_remember_78 : decode cX10_remember 78 = .ok (.iinc 1 1, 3) := by decide +kernel
theorem dX10_remember_81 : decode cX10_remember 81 = .ok (.goto (-29), 3) := by decide +kernel
theorem dX10_remember_84 : decode cX10_remember 84 = .ok (.aload_n 0, 1) := by decide +kernel
theorem dX10_remember_85 : decode cX10_remember 85 = .ok (.dup, 1) := by decide +kernel
theorem dX10_remember_86 : decode cX10_remember 86 = .ok (.getfield 167, 3) := by decide +kernel
theorem dX10_remember_89 : decode cX10_remember 89 = .ok (.iconst 1, 1) := by decide +kernel
theorem dX10_remember_90 : decode cX10_remember 90 = .ok (.iadd, 1) := by decide +kernel
theorem dX10_remember_91 : decode cX10_remember 91 = .ok (.putfield 167, 3) := by decide +kernel
theorem dX10_remember_94 : decode cX10_remember 94 = .ok (.return_, 1) := by decide +kernel
set_option maxRecDepth 20000 in
theorem ggX10_isDeepEnough_X10_in : GoodIn wsX10_isDeepEnough wsX10_in := goodIn_r _ [6] (by decide +kernel) (by decide +kernel)
set_option maxRecDepth 20000 in
theorem gX10_isDeepEnough_X10_in : GoodIn wsX10_isDeepEnough (va_wsS RX10 90 yX10_in wsX10_in) := goodIn_app (goodIn_of _ (by decide +kernel)) ggX10_isDeepEnough_X10_in
theorem dX10_isDeepEnough_0 : decode cX10_isDeepEnough 0 = .ok (.iload_n 2, 1) := by decide +kernel
theorem dX10_isDeepEnough_1 : decode cX10_isDeepEnough 1 = .ok (.i2l, 1) := by decide +kernel
theorem dX10_isDeepEnough_2 : decode cX10_isDeepEnough 2 = .ok (.aload_n 0, 1) := by decide +kernel
theorem dX10_isDeepEnough_3 : decode cX10_isDeepEnough 3 = .ok (.getfield 16, 3) := by decide +kernel
theorem dX10_isDeepEnough_6 : decode cX10_isDeepEnough 6 = .ok (.iload_n 1, 1) := by decide +kernel
theorem dX10_isDeepEnough_7 : decode cX10_isDeepEnough 7 = .ok (.iaload, 1) := by decide +kernel
theorem dX10_isDeepEnough_8 : decode cX10_isDeepEnough 8 = .ok (.i2l, 1) := by decide +kernel
theorem dX10_isDeepEnough_9 : decode cX10_isDeepEnough 9 = .ok (.aload_n 0, 1) := by decide +kernel
theorem dX10_isDeepEnough_10 : decode cX10_isDeepEnough 10 = .ok (.getfield 16, 3) := by decide +kernel
theorem dX10_isDeepEnough_13 : decode cX10_isDeepEnough 13 = .ok (.iload_n 1, 1) := by decide +kernel
theorem dX10_isDeepEnough_14 : decode cX10_isDeepEnough 14 = .ok (.iaload, 1) := by decide +kernel
theorem dX10_isDeepEnough_15 : decode cX10_isDeepEnough 15 = .ok (.aload_n 0, 1) := by decide +kernel
theorem dX10_isDeepEnough_16 : decode cX10_isDeepEnough 16 = .ok (.getfield 22, 3) := by decide +kernel
theorem dX10_isDeepEnough_19 : decode cX10_isDeepEnough 19 = .ok (.iload_n 1, 1) := by decide +kernel
theorem dX10_isDeepEnough_20 : decode cX10_isDeepEnough 20 = .ok (.iaload, 1) := by decide +kernel
theorem dX10_isDeepEnough_21 : decode cX10_isDeepEnough 21 = .ok (.iadd, 1) := by decide +kernel
theorem dX10_isDeepEnough_22 : decode cX10_isDeepEnough 22 = .ok (.i2l, 1) := by decide +kernel
theorem dX10_isDeepEnough_23 : decode cX10_isDeepEnough 23 = .ok (.invokestatic 90, 3) := by decide +kernel
theorem dX10_isDeepEnough_26 : decode cX10_isDeepEnough 26 = .ok (.ireturn, 1) := by decide +kernel
set_option maxRecDepth 20000 in
theorem ggX10_tell_X10_depthBehind : GoodIn wsX10_tell wsX10_depthBehind := goodIn_r _ [9, 10, 1, 11, 12, 13, 14, 15, 16, 17, 18, 19, 20, 21, 22, 23, 24, 25, 26, 27, 28, 29, 30, 31, 32, 33, 34, 35, 36, 37, 38, 39, 40, 41, 42, 43, 44, 45, 46, 47, 48, 49, 50] (by decide +kernel) (by decide +kernel)
set_option maxRecDepth 20000 in
theorem gX10_tell_X10_depthBehind : GoodIn wsX10_tell (wsV RX10 184 RX10 yX10_depthBehind wsX10_depthBehind) := goodIn_app (goodIn_of _ (by decide +kernel)) ggX10_tell_X10_depthBehind
theorem dX10_tell_0 : decode cX10_tell 0 = .ok (.aload_n 0, 1) := by decide +kernel
theorem dX10_tell_1 : decode cX10_tell 1 = .ok (.aload_n 0, 1) := by decide +kernel
theorem dX10_tell_2 : decode cX10_tell 2 = .ok (.getfield 28, 3) := by decide +kernel
theorem dX10_tell_5 : decode cX10_tell 5 = .ok (.iload_n 1, 1) := by decide +kernel
theorem dX10_tell_6 : decode cX10_tell 6 = .ok (.iaload, 1) := by decide +kernel
theorem dX10_tell_7 : decode cX10_tell 7 = .ok (.iconst 0, 1) := by decide +kernel
theorem dX10_tell_8 : decode cX10_tell 8 = .ok (.invokevirtual 184, 3) := by decide +kernel
theorem dX10_tell_11 : decode cX10_tell 11 = .ok (.istore_n 3, 1) := by decide +kernel
theorem dX10_tell_12 : decode cX10_tell 12 = .ok (.iload_n 3, 1) := by decide +kernel
theorem dX10_tell_13 : decode cX10_tell 13 = .ok (.aload_n 0, 1) := by decide +kernel
theorem dX10_tell_14 : decode cX10_tell 14 = .ok (.getfield 16, 3) := by decide +kernel
theorem dX10_tell_17 : decode cX10_tell 17 = .ok (.iload_n 2, 1) := by decide +kernel
theorem dX10_tell_18 : decode cX10_tell 18 = .ok (.iaload, 1) := by decide +kernel
theorem dX10_tell_19 : decode cX10_tell 19 = .ok (.aload_n 0, 1) := by decide +kernel
theorem dX10_tell_20 : decode cX10_tell 20 = .ok (.getfield 22, 3) := by decide +kernel
theorem dX10_tell_23 : decode cX10_tell 23 = .ok (.iload_n 2, 1) := by decide +kernel
theorem dX10_tell_24 : decode cX10_tell 24 = .ok (.iaload, 1) := by decide +kernel
theorem dX10_tell_25 : decode cX10_tell 25 = .ok (.iadd, 1) := by decide +kernel
theorem dX10_tell_26 : decode cX10_tell 26 = .ok (.if_icmp .le 25, 3) := by decide +kernel
theorem dX10_tell_29 : decode cX10_tell 29 = .ok (.aload_n 0, 1) := by decide +kernel
theorem dX10_tell_30 : decode cX10_tell 30 = .ok (.getfield 28, 3) := by decide +kernel
theorem dX10_tell_33 : decode cX10_tell 33 = .ok (.bipush 12, 2) := by decide +kernel
theorem dX10_tell_35 : decode cX10_tell 35 = .ok (.iload_n 2, 1) := by decide +kernel
theorem dX10_tell_36 : decode cX10_tell 36 = .ok (.iadd, 1) := by decide +kernel
theorem dX10_tell_37 : decode cX10_tell 37 = .ok (.iconst 4, 1) := by decide +kernel
theorem dX10_tell_38 : decode cX10_tell 38 = .ok (.iastore, 1) := by decide +kernel
theorem dX10_tell_39 : decode cX10_tell 39 = .ok (.aload_n 0, 1) := by decide +kernel
theorem dX10_tell_40 : decode cX10_tell 40 = .ok (.getfield 28, 3) := by decide +kernel
theorem dX10_tell_43 : decode cX10_tell 43 = .ok (.iconst 4, 1) := by decide +kernel
theorem dX10_tell_44 : decode cX10_tell 44 = .ok (.iload_n 1, 1) := by decide +kernel
theorem dX10_tell_45 : decode cX10_tell 45 = .ok (.iadd, 1) := by decide +kernel
theorem dX10_tell_46 : decode cX10_tell 46 = .ok (.iconst (-1), 1) := by decide +kernel
theorem dX10_tell_47 : decode cX10_tell 47 = .ok (.iastore, 1) := by decide +kernel
theorem dX10_tell_48 : decode cX10_tell 48 = .ok (.goto 63, 3) := by decide +kernel
theorem dX10_tell_51 : decode cX10_tell 51 = .ok (.iload_n 3, 1) := by decide +kernel
theorem dX10_tell_52 : decode cX10_tell 52 = .ok (.aload_n 0, 1) := by decide +kernel
theorem dX10_tell_53 : decode cX10_tell 53 = .ok (.getfield 16, 3) := by decide +kernel
theorem dX10_tell_56 : decode cX10_tell 56 = .ok (.iload_n 2, 1) := by decide +kernel
theorem dX10_tell_57 : decode cX10_tell 57 = .ok (.iaload, 1) := by decide +kernel
theorem dX10_tell_58 : decode cX10_tell 58 = .ok (.if_icmp .lt 53, 3) := by decide +kernel
theorem dX10_tell_61 : decode cX10_tell 61 = .ok (.aload_n 0, 1) := by decide +kernel
theorem dX10_tell_62 : decode cX10_tell 62 = .ok (.getfield 28, 3) := by decide +kernel
theorem dX10_tell_65 : decode cX10_tell 65 = .ok (.bipush 17, 2) := by decide +kernel
theorem dX10_tell_67 : decode cX10_tell 67 = .ok (.iload_n 2, 1) := by decide +kernel
theorem dX10_tell_68 : decode cX10_tell 68 = .ok (.iadd, 1) := by decide +kernel
theorem dX10_tell_69 : decode cX10_tell 69 = .ok (.dup2, 1) := by decide +kernel
theorem dX10_tell_70 : decode cX10_tell 70 = .ok (.iaload, 1) := by decide +kernel
theorem dX10_tell_71 : decode cX10_tell 71 = .ok (.iconst 1, 1) := by decide +kernel
theorem dX10_tell_72 : decode cX10_tell 72 = .ok (.iadd, 1) := by decide +kernel
theorem dX10_tell_73 : decode cX10_tell 73 = .ok (.iastore, 1) := by decide +kernel
theorem dX10_tell_74 : decode cX10_tell 74 = .ok (.aload_n 0, 1) := by decide +kernel
theorem dX10_tell_75 : decode cX10_tell 75 = .ok (.getfield 28, 3) := by decide +kernel
theorem dX10_tell_78 : decode cX10_tell 78 = .ok (.bipush 17, 2) := by decide +kernel
theorem dX10_tell_80 : decode cX10_tell 80 = .ok (.iload_n 2, 1) := by decide +kernel
theorem dX10_tell_81 : decode cX10_tell 81 = .ok (.iadd, 1) := by decide +kernel
theorem dX10_tell_82 : decode cX10_tell 82 = .ok (.iaload, 1) := by decide +kernel
theorem dX10_tell_83 : decode cX10_tell 83 = .ok (.aload_n 0, 1) := by decide +kernel
theorem dX10_tell_84 : decode cX10_tell 84 = .ok (.getfield 19, 3) := by decide +kernel
theorem dX10_tell_87 : decode cX10_tell 87 = .ok (.iload_n 2, 1) := by decide +kernel
theorem dX10_tell_88 : decode cX10_tell 88 = .ok (.iaload, 1) := by decide +kernel
theorem dX10_tell_89 : decode cX10_tell 89 = .ok (.if_icmp .lt 22, 3) := by decide +kernel
theorem dX10_tell_92 : decode cX10_tell 92 = .ok (.aload_n 0, 1) := by decide +kernel
theorem dX10_tell_93 : decode cX10_tell 93 = .ok (.getfield 28, 3) := by decide +kernel
theorem dX10_tell_96 : decode cX10_tell 96 = .ok (.bipush 12, 2) := by decide +kernel
theorem dX10_tell_98 : decode cX10_tell 98 = .ok (.iload_n 2, 1) := by decide +kernel
theorem dX10_tell_99 : decode cX10_tell 99 = .ok (.iadd, 1) := by decide +kernel
theorem dX10_tell_100 : decode cX10_tell 100 = .ok (.iconst 2, 1) := by decide +kernel
theorem dX10_tell_101 : decode cX10_tell 101 = .ok (.iastore, 1) := by decide +kernel
theorem dX10_tell_102 : decode cX10_tell 102 = .ok (.aload_n 0, 1) := by decide +kernel
theorem dX10_tell_103 : decode cX10_tell 103 = .ok (.getfield 28, 3) := by decide +kernel
theorem dX10_tell_106 : decode cX10_tell 106 = .ok (.iconst 4, 1) := by decide +kernel
theorem dX10_tell_107 : decode cX10_tell 107 = .ok (.iload_n 1, 1) := by decide +kernel
theorem dX10_tell_108 : decode cX10_tell 108 = .ok (.iadd, 1) := by decide +kernel
theorem dX10_tell_109 : decode cX10_tell 109 = .ok (.iconst (-1), 1) := by decide +kernel
theorem dX10_tell_110 : decode cX10_tell 110 = .ok (.iastore, 1) := by decide +kernel
theorem dX10_tell_111 : decode cX10_tell 111 = .ok (.return_, 1) := by decide +kernel
set_option maxRecDepth 20000 in
theorem ggX10_pass_X10_tell : GoodIn wsX10_pass wsX10_tell := goodIn_r _ [7, 2, 8, 9, 10, 11, 12, 13, 6, 14, 15, 16, 17, 18, 19, 20, 21, 22, 23, 24, 25, 26, 27, 28, 29, 30, 31, 32, 33, 34, 35, 36, 37, 38, 39, 40, 41, 42, 43, 44, 45, 46, 47, 48, 49, 50, 51, 52, 53, 54, 55] (by decide +kernel) (by decide +kernel)
set_option maxRecDepth 20000 in
theorem gX10_pass_X10_tell : GoodIn wsX10_pass (wsV RX10 194 RX10 yX10_tell wsX10_tell) := goodIn_app (goodIn_of _ (by decide +kernel)) ggX10_pass_X10_tell
theorem dX10_pass_0 : decode cX10_pass 0 = .ok (.iconst 0, 1) := by decide +kernel
theorem dX10_pass_1 : decode cX10_pass 1 = .ok (.istore_n 1, 1) := by decide +kernel
theorem dX10_pass_2 : decode cX10_pass 2 = .ok (.iload_n 1, 1) := by decide +kernel
theorem dX10_pass_3 : decode cX10_pass 3 = .ok (.aload_n 0, 1) := by decide +kernel
theorem dX10_pass_4 : decode cX10_pass 4 = .ok (.getfield 87, 3) := by decide +kernel
theorem dX10_pass_7 : decode cX10_pass 7 = .ok (.if_icmp .ge 43, 3) := by decide +kernel
theorem dX10_pass_10 : decode cX10_pass 10 = .ok (.aload_n 0, 1) := by decide +kernel
theorem dX10_pass_11 : decode cX10_pass 11 = .ok (.getfield 28, 3) := by decide +kernel
theorem dX10_pass_14 : decode cX10_pass 14 = .ok (.iconst 4, 1) := by decide +kernel
theorem dX10_pass_15 : decode cX10_pass 15 = .ok (.iload_n 1, 1) := by decide +kernel
theorem dX10_pass_16 : decode cX10_pass 16 = .ok (.iadd, 1) := by decide +kernel
theorem dX10_pass_17 : decode cX10_pass 17 = .ok (.iaload, 1) := by decide +kernel
theorem dX10_pass_18 : decode cX10_pass 18 = .ok (.ifCond .lt 16, 3) := by decide +kernel
theorem dX10_pass_21 : decode cX10_pass 21 = .ok (.aload_n 0, 1) := by decide +kernel
theorem dX10_pass_22 : decode cX10_pass 22 = .ok (.iload_n 1, 1) := by decide +kernel
theorem dX10_pass_23 : decode cX10_pass 23 = .ok (.aload_n 0, 1) := by decide +kernel
theorem dX10_pass_24 : decode cX10_pass 24 = .ok (.getfield 28, 3) := by decide +kernel
theorem dX10_pass_27 : decode cX10_pass 27 = .ok (.iconst 4, 1) := by decide +kernel
theorem dX10_pass_28 : decode cX10_pass 28 = .ok (.iload_n 1, 1) := by decide +kernel
theorem dX10_pass_29 : decode cX10_pass 29 = .ok (.iadd, 1) := by decide +kernel
theorem dX10_pass_30 : decode cX10_pass 30 = .ok (.iaload, 1) := by decide +kernel
theorem dX10_pass_31 : decode cX10_pass 31 = .ok (.invokevirtual 194, 3) := by decide +kernel
theorem dX10_pass_34 : decode cX10_pass 34 = .ok (.aload_n 0, 1) := by decide +kernel
theorem dX10_pass_35 : decode cX10_pass 35 = .ok (.getfield 28, 3) := by decide +kernel
theorem dX10_pass_38 : decode cX10_pass 38 = .ok (.bipush 8, 2) := by decide +kernel
theorem dX10_pass_40 : decode cX10_pass 40 = .ok (.iload_n 1, 1) := by decide +kernel
theorem dX10_pass_41 : decode cX10_pass 41 = .ok (.iadd, 1) := by decide +kernel
theorem dX10_pass_42 : decode cX10_pass 42 = .ok (.iconst 0, 1) := by decide +kernel
theorem dX10_pass_43 : decode cX10_pass 43 = .ok (.iastore, 1) := by decide +kernel
theorem dX10_pass_44 : decode cX10_pass 44 = .ok (.iinc 1 1, 3) := by decide +kernel
theorem dX10_pass_47 : decode cX10_pass 47 = .ok (.goto (-45), 3) := by decide +kernel
theorem dX10_pass_50 : decode cX10_pass 50 = .ok (.aload_n 0, 1) := by decide +kernel
theorem dX10_pass_51 : decode cX10_pass 51 = .ok (.getfield 28, 3) := by decide +kernel
theorem dX10_pass_54 : decode cX10_pass 54 = .ok (.bipush 22, 2) := by decide +kernel
theorem dX10_pass_56 : decode cX10_pass 56 = .ok (.dup2, 1) := by decide +kernel
theorem dX10_pass_57 : decode cX10_pass 57 = .ok (.iaload, 1) := by decide +kernel
theorem dX10_pass_58 : decode cX10_pass 58 = .ok (.iconst 1, 1) := by decide +kernel
theorem dX10_pass_59 : decode cX10_pass 59 = .ok (.iadd, 1) := by decide +kernel
theorem dX10_pass_60 : decode cX10_pass 60 = .ok (.iastore, 1) := by decide +kernel
theorem dX10_pass_61 : decode cX10_pass 61 = .ok (.return_, 1) := by decide +kernel
set_option maxRecDepth 20000 in
theorem ggX10_hoursRefused_X10_in : GoodIn wsX10_hoursRefused wsX10_in := goodIn_r _ [10] (by decide +kernel) (by decide +kernel)
set_option maxRecDepth 20000 in
theorem gX10_hoursRefused_X10_in : GoodIn wsX10_hoursRefused (va_wsS RX10 90 yX10_in wsX10_in) := goodIn_app (goodIn_of _ (by decide +kernel)) ggX10_hoursRefused_X10_in
theorem dX10_hoursRefused_0 : decode cX10_hoursRefused 0 = .ok (.iload_n 1, 1) := by decide +kernel
theorem dX10_hoursRefused_1 : decode cX10_hoursRefused 1 = .ok (.i2l, 1) := by decide +kernel
theorem dX10_hoursRefused_2 : decode cX10_hoursRefused 2 = .ok (.lconst 1, 1) := by decide +kernel
theorem dX10_hoursRefused_3 : decode cX10_hoursRefused 3 = .ok (.ldc2_w 198, 3) := by decide +kernel
theorem dX10_hoursRefused_6 : decode cX10_hoursRefused 6 = .ok (.invokestatic 90, 3) := by decide +kernel
theorem dX10_hoursRefused_9 : decode cX10_hoursRefused 9 = .ok (.ifCond .ne 6, 3) := by decide +kernel
theorem dX10_hoursRefused_12 : decode cX10_hoursRefused 12 = .ok (.ldc 101, 2) := by decide +kernel
theorem dX10_hoursRefused_14 : decode cX10_hoursRefused 14 = .ok (.ireturn, 1) := by decide +kernel
theorem dX10_hoursRefused_15 : decode cX10_hoursRefused 15 = .ok (.aload_n 0, 1) := by decide +kernel
theorem dX10_hoursRefused_16 : decode cX10_hoursRefused 16 = .ok (.getfield 152, 3) := by decide +kernel
theorem dX10_hoursRefused_19 : decode cX10_hoursRefused 19 = .ok (.ifCond .ne 8, 3) := by decide +kernel
theorem dX10_hoursRefused_22 : decode cX10_hoursRefused 22 = .ok (.ldc 183, 2) := by decide +kernel
theorem dX10_hoursRefused_24 : decode cX10_hoursRefused 24 = .ok (.goto 22, 3) := by decide +kernel
theorem dX10_hoursRefused_27 : decode cX10_hoursRefused 27 = .ok (.aload_n 0, 1) := by decide +kernel
theorem dX10_hoursRefused_28 : decode cX10_hoursRefused 28 = .ok (.getfield 28, 3) := by decide +kernel
theorem dX10_hoursRefused_31 : decode cX10_hoursRefused 31 = .ok (.bipush 22, 2) := by decide +kernel
theorem dX10_hoursRefused_33 : decode cX10_hoursRefused 33 = .ok (.iaload, 1) := by decide +kernel
theorem dX10_hoursRefused_34 : decode cX10_hoursRefused 34 = .ok (.sipush 9000, 3) := by decide +kernel
theorem dX10_hoursRefused_37 : decode cX10_hoursRefused 37 = .ok (.if_icmp .le 8, 3) := by decide +kernel
theorem dX10_hoursRefused_40 : decode cX10_hoursRefused 40 = .ok (.ldc 105, 2) := by decide +kernel
theorem dX10_hoursRefused_42 : decode cX10_hoursRefused 42 = .ok (.goto 4, 3) := by decide +kernel
theorem dX10_hoursRefused_45 : decode cX10_hoursRefused 45 = .ok (.iconst 0, 1) := by decide +kernel
theorem dX10_hoursRefused_46 : decode cX10_hoursRefused 46 = .ok (.ireturn, 1) := by decide +kernel
set_option maxRecDepth 20000 in
theorem ggX10_hour_X10_hoursRefused : GoodIn wsX10_hour wsX10_hoursRefused := goodIn_r _ [6, 7, 8, 9, 10, 1, 11, 12, 13, 5, 14, 38, 39, 40, 41, 42, 43, 44, 45, 46, 47, 48, 49, 50, 51, 52, 53, 54, 55, 56, 57, 58, 59, 60, 61, 62, 63, 64, 65, 66, 67, 68, 69, 70, 71, 72, 73, 74, 75, 76] (by decide +kernel) (by decide +kernel)
set_option maxRecDepth 20000 in
theorem gX10_hour_X10_hoursRefused : GoodIn wsX10_hour (wsV RX10 200 RX10 yX10_hoursRefused wsX10_hoursRefused) := goodIn_app (goodIn_of _ (by decide +kernel)) ggX10_hour_X10_hoursRefused
set_option maxRecDepth 20000 in
theorem ggX10_hour_X10_remember : GoodIn wsX10_hour wsX10_remember := goodIn_r _ [18, 19, 20, 1, 38, 39, 40, 41, 42, 43, 44, 45, 46, 47, 48, 49, 50, 51, 52, 53, 54, 55, 56, 57, 58, 59, 60, 61, 62, 63, 64, 65, 66, 67, 68, 69, 70, 71, 72, 73, 74, 75, 76] (by decide +kernel) (by decide +kernel)
set_option maxRecDepth 20000 in
theorem gX10_hour_X10_remember : GoodIn wsX10_hour (wsV RX10 203 RX10 yX10_remember wsX10_remember) := goodIn_app (goodIn_of _ (by decide +kernel)) ggX10_hour_X10_remember
set_option maxRecDepth 20000 in
theorem ggX10_hour_X10_pass : GoodIn wsX10_hour wsX10_pass := goodIn_r _ [24, 25, 1, 26, 27, 28, 5, 29, 30, 31, 32, 33, 34, 35, 36, 37, 9, 38, 39, 40, 41, 42, 43, 44, 45, 46, 47, 48, 49, 50, 51, 52, 53, 54, 55, 56, 57, 58, 59, 60, 61, 62, 63, 64, 65, 66, 67, 68, 69, 70, 71, 72, 73, 74, 75, 76] (by decide +kernel) (by decide +kernel)
set_option maxRecDepth 20000 in
theorem gX10_hour_X10_pass : GoodIn wsX10_hour (wsV RX10 206 RX10 yX10_pass wsX10_pass) := goodIn_app (goodIn_of _ (by decide +kernel)) ggX10_hour_X10_pass
theorem dX10_hour_0 : decode cX10_hour 0 = .ok (.aload_n 0, 1) := by decide +kernel
theorem dX10_hour_1 : decode cX10_hour 1 = .ok (.iload_n 1, 1) := by decide +kernel
theorem dX10_hour_2 : decode cX10_hour 2 = .ok (.invokevirtual 200, 3) := by decide +kernel
theorem dX10_hour_5 : decode cX10_hour 5 = .ok (.istore_n 2, 1) := by decide +kernel
theorem dX10_hour_6 : decode cX10_hour 6 = .ok (.iload_n 2, 1) := by decide +kernel
theorem dX10_hour_7 : decode cX10_hour 7 = .ok (.ifCond .eq 5, 3) := by decide +kernel
theorem dX10_hour_10 : decode cX10_hour 10 = .ok (.iload_n 2, 1) := by decide +kernel
theorem dX10_hour_11 : decode cX10_hour 11 = .ok (.ireturn, 1) := by decide +kernel
theorem dX10_hour_12 : decode cX10_hour 12 = .ok (.aload_n 0, 1) := by decide +kernel
theorem dX10_hour_13 : decode cX10_hour 13 = .ok (.invokevirtual 203, 3) := by decide +kernel
theorem dX10_hour_16 : decode cX10_hour 16 = .ok (.iconst 0, 1) := by decide +kernel
theorem dX10_hour_17 : decode cX10_hour 17 = .ok (.istore_n 3, 1) := by decide +kernel
theorem dX10_hour_18 : decode cX10_hour 18 = .ok (.iload_n 3, 1) := by decide +kernel
theorem dX10_hour_19 : decode cX10_hour 19 = .ok (.iload_n 1, 1) := by decide +kernel
theorem dX10_hour_20 : decode cX10_hour 20 = .ok (.if_icmp .ge 13, 3) := by decide +kernel
theorem dX10_hour_23 : decode cX10_hour 23 = .ok (.aload_n 0, 1) := by decide +kernel
theorem dX10_hour_24 : decode cX10_hour 24 = .ok (.invokevirtual 206, 3) := by decide +kernel
theorem dX10_hour_27 : decode cX10_hour 27 = .ok (.iinc 3 1, 3) := by decide +kernel
theorem dX10_hour_30 : decode cX10_hour 30 = .ok (.goto (-12), 3) := by decide +kernel
theorem dX10_hour_33 : decode cX10_hour 33 = .ok (.aload_n 0, 1) := by decide +kernel
theorem dX10_hour_34 : decode cX10_hour 34 = .ok (.getfield 28, 3) := by decide +kernel
theorem dX10_hour_37 : decode cX10_hour 37 = .ok (.bipush 22, 2) := by decide +kernel
theorem dX10_hour_39 : decode cX10_hour 39 = .ok (.iaload, 1) := by decide +kernel
theorem dX10_hour_40 : decode cX10_hour 40 = .ok (.ireturn, 1) := by decide +kernel
theorem dX10_canBring_0 : decode cX10_canBring 0 = .ok (.aload_n 0, 1) := by decide +kernel
theorem dX10_canBring_1 : decode cX10_canBring 1 = .ok (.getfield 28, 3) := by decide +kernel
theorem dX10_canBring_4 : decode cX10_canBring 4 = .ok (.bipush 12, 2) := by decide +kernel
theorem dX10_canBring_6 : decode cX10_canBring 6 = .ok (.iload_n 1, 1) := by decide +kernel
theorem dX10_canBring_7 : decode cX10_canBring 7 = .ok (.iadd, 1) := by decide +kernel
theorem dX10_canBring_8 : decode cX10_canBring 8 = .ok (.iaload, 1) := by decide +kernel
theorem dX10_canBring_9 : decode cX10_canBring 9 = .ok (.ifCond .ne 27, 3) := by decide +kernel
theorem dX10_canBring_12 : decode cX10_canBring 12 = .ok (.aload_n 0, 1) := by decide +kernel
theorem dX10_canBring_13 : decode cX10_canBring 13 = .ok (.getfield 28, 3) := by decide +kernel
theorem dX10_canBring_16 : decode cX10_canBring 16 = .ok (.iconst 4, 1) := by decide +kernel
theorem dX10_canBring_17 : decode cX10_canBring 17 = .ok (.iload_n 2, 1) := by decide +kernel
theorem dX10_canBring_18 : decode cX10_canBring 18 = .ok (.iadd, 1) := by decide +kernel
theorem dX10_canBring_19 : decode cX10_canBring 19 = .ok (.iaload, 1) := by decide +kernel
theorem dX10_canBring_20 : decode cX10_canBring 20 = .ok (.ifCond .ge 16, 3) := by decide +kernel
theorem dX10_canBring_23 : decode cX10_canBring 23 = .ok (.aload_n 0, 1) := by decide +kernel
theorem dX10_canBring_24 : decode cX10_canBring 24 = .ok (.getfield 28, 3) := by decide +kernel
theorem dX10_canBring_27 : decode cX10_canBring 27 = .ok (.iload_n 2, 1) := by decide +kernel
theorem dX10_canBring_28 : decode cX10_canBring 28 = .ok (.iaload, 1) := by decide +kernel
theorem dX10_canBring_29 : decode cX10_canBring 29 = .ok (.ifCond .ne 7, 3) := by decide +kernel
theorem dX10_canBring_32 : decode cX10_canBring 32 = .ok (.iconst 1, 1) := by decide +kernel
theorem dX10_canBring_33 : decode cX10_canBring 33 = .ok (.goto 4, 3) := by decide +kernel
theorem dX10_canBring_36 : decode cX10_canBring 36 = .ok (.iconst 0, 1) := by decide +kernel
theorem dX10_canBring_37 : decode cX10_canBring 37 = .ok (.ireturn, 1) := by decide +kernel
theorem dX10_bringNow_0 : decode cX10_bringNow 0 = .ok (.aload_n 0, 1) := by decide +kernel
theorem dX10_bringNow_1 : decode cX10_bringNow 1 = .ok (.getfield 28, 3) := by decide +kernel
theorem dX10_bringNow_4 : decode cX10_bringNow 4 = .ok (.bipush 12, 2) := by decide +kernel
theorem dX10_bringNow_6 : decode cX10_bringNow 6 = .ok (.iload_n 1, 1) := by decide +kernel
theorem dX10_bringNow_7 : decode cX10_bringNow 7 = .ok (.iadd, 1) := by decide +kernel
theorem dX10_bringNow_8 : decode cX10_bringNow 8 = .ok (.iconst 1, 1) := by decide +kernel
theorem dX10_bringNow_9 : decode cX10_bringNow 9 = .ok (.iastore, 1) := by decide +kernel
theorem dX10_bringNow_10 : decode cX10_bringNow 10 = .ok (.aload_n 0, 1) := by decide +kernel
theorem dX10_bringNow_11 : decode cX10_bringNow 11 = .ok (.getfield 28, 3) := by decide +kernel
theorem dX10_bringNow_14 : decode cX10_bringNow 14 = .ok (.iconst 4, 1) := by decide +kernel
theorem dX10_bringNow_15 : decode cX10_bringNow 15 = .ok (.iload_n 2, 1) := by decide +kernel
theorem dX10_bringNow_16 : decode cX10_bringNow 16 = .ok (.iadd, 1) := by decide +kernel
theorem dX10_bringNow_17 : decode cX10_bringNow 17 = .ok (.iload_n 1, 1) := by decide +kernel
theorem dX10_bringNow_18 : decode cX10_bringNow 18 = .ok (.iastore, 1) := by decide +kernel
theorem dX10_bringNow_19 : decode cX10_bringNow 19 = .ok (.return_, 1) := by decide +kernel
set_option maxRecDepth 20000 in
theorem ggX10_bring_X10_isCase : GoodIn wsX10_bring wsX10_isCase := goodIn_r _ [7, 8, 9, 10, 6, 11, 36, 37, 38, 39, 40, 41, 42, 43, 44, 45, 46, 47, 48, 49, 50, 51, 52, 53, 54, 55, 56, 57, 58, 59, 60, 61, 62, 63, 64, 65, 66, 67, 68, 69, 70, 71, 72, 73, 74] (by decide +kernel) (by decide +kernel)
set_option maxRecDepth 20000 in
theorem gX10_bring_X10_isCase : GoodIn wsX10_bring (wsV RX10 191 RX10 yX10_isCase wsX10_isCase) := goodIn_app (goodIn_of _ (by decide +kernel)) ggX10_bring_X10_isCase
set_option maxRecDepth 20000 in
theorem ggX10_bring_X10_isHut : GoodIn wsX10_bring wsX10_isHut := goodIn_r _ [15, 16, 9, 10, 6, 11, 36, 37, 38, 39, 40, 41, 42, 43, 44, 45, 46, 47, 48, 49, 50, 51, 52, 53, 54, 55, 56, 57, 58, 59, 60, 61, 62, 63, 64, 65, 66, 67, 68, 69, 70, 71, 72, 73, 74] (by decide +kernel) (by decide +kernel)
set_option maxRecDepth 20000 in
theorem gX10_bring_X10_isHut : GoodIn wsX10_bring (wsV RX10 187 RX10 yX10_isHut wsX10_isHut) := goodIn_app (goodIn_of _ (by decide +kernel)) ggX10_bring_X10_isHut
set_option maxRecDepth 20000 in
theorem ggX10_bring_X10_canBring : GoodIn wsX10_bring wsX10_canBring := goodIn_r _ [20, 21, 36, 37, 38, 39, 40, 41, 42, 43, 44, 45, 46, 47, 48, 49, 50, 51, 52, 53, 54, 55, 56, 57, 58, 59, 60, 61, 62, 63, 64, 65, 66, 67, 68, 69, 70, 71, 72, 73, 74] (by decide +kernel) (by decide +kernel)
set_option maxRecDepth 20000 in
theorem gX10_bring_X10_canBring : GoodIn wsX10_bring (wsV RX10 209 RX10 yX10_canBring wsX10_canBring) := goodIn_app (goodIn_of _ (by decide +kernel)) ggX10_bring_X10_canBring
set_option maxRecDepth 20000 in
theorem ggX10_bring_X10_remember : GoodIn wsX10_bring wsX10_remember := goodIn_r _ [25, 26, 27, 21, 36, 37, 38, 39, 40, 41, 42, 43, 44, 45, 46, 47, 48, 49, 50, 51, 52, 53, 54, 55, 56, 57, 58, 59, 60, 61, 62, 63, 64, 65, 66, 67, 68, 69, 70, 71, 72, 73, 74] (by decide +kernel) (by decide +kernel)
set_option maxRecDepth 20000 in
theorem gX10_bring_X10_remember : GoodIn wsX10_bring (wsV RX10 203 RX10 yX10_remember wsX10_remember) := goodIn_app (goodIn_of _ (by decide +kernel)) ggX10_bring_X10_remember
set_option maxRecDepth 20000 in
theorem ggX10_bring_X10_bringNow : GoodIn wsX10_bring wsX10_bringNow := goodIn_r _ [31, 21, 36, 37, 38, 39, 40, 41, 42, 43, 44, 45, 46, 47, 48, 49, 50, 51, 52, 53, 54, 55, 56, 57, 58, 59, 60, 61, 62, 63, 64, 65, 66, 67, 68, 69, 70, 71, 72, 73, 74] (by decide +kernel) (by decide +kernel)
set_option maxRecDepth 20000 in
theorem gX10_bring_X10_bringNow : GoodIn wsX10_bring (wsV RX10 213 RX10 yX10_bringNow wsX10_bringNow) := goodIn_app (goodIn_of _ (by decide +kernel)) ggX10_bring_X10_bringNow
set_option maxRecDepth 20000 in
theorem ggX10_bring_X10_allThat : GoodIn wsX10_bring wsX10_allThat := goodIn_r _ [35, 8, 21, 36, 37, 38, 39, 40, 41, 42, 43, 44, 45, 46, 47, 48, 49, 50, 51, 52, 53, 54, 55, 56, 57, 58, 59, 60, 61, 62, 63, 64, 65, 66, 67, 68, 69, 70, 71, 72, 73, 74] (by decide +kernel) (by decide +kernel)
set_option maxRecDepth 20000 in
theorem gX10_bring_X10_allThat : GoodIn wsX10_bring (wsV RX10 170 RX10 yX10_allThat wsX10_allThat) := goodIn_app (goodIn_of _ (by decide +kernel)) ggX10_bring_X10_allThat
theorem dX10_bring_0 : decode cX10_bring 0 = .ok (.aload_n 0, 1) := by decide +kernel
theorem dX10_bring_1 : decode cX10_bring 1 = .ok (.iload_n 1, 1) := by decide +kernel
theorem dX10_bring_2 : decode cX10_bring 2 = .ok (.invokevirtual 191, 3) := by decide +kernel
theorem dX10_bring_5 : decode cX10_bring 5 = .ok (.ifCond .eq 11, 3) := by decide +kernel
theorem dX10_bring_8 : decode cX10_bring 8 = .ok (.aload_n 0, 1) := by decide +kernel
theorem dX10_bring_9 : decode cX10_bring 9 = .ok (.iload_n 2, 1) := by decide +kernel
theorem dX10_bring_10 : decode cX10_bring 10 = .ok (.invokevirtual 187, 3) := by decide +kernel
theorem dX10_bring_13 : decode cX10_bring 13 = .ok (.ifCond .ne 6, 3) := by decide +kernel
theorem dX10_bring_16 : decode cX10_bring 16 = .ok (.ldc 190, 2) := by decide +kernel
theorem dX10_bring_18 : decode cX10_bring 18 = .ok (.ireturn, 1) := by decide +kernel
theorem dX10_bring_19 : decode cX10_bring 19 = .ok (.aload_n 0, 1) := by decide +kernel
theorem dX10_bring_20 : decode cX10_bring 20 = .ok (.iload_n 1, 1) := by decide +kernel
theorem dX10_bring_21 : decode cX10_bring 21 = .ok (.iload_n 2, 1) := by decide +kernel
theorem dX10_bring_22 : decode cX10_bring 22 = .ok (.invokevirtual 209, 3) := by decide +kernel
theorem dX10_bring_25 : decode cX10_bring 25 = .ok (.ifCond .ne 6, 3) := by decide +kernel
theorem dX10_bring_28 : decode cX10_bring 28 = .ok (.ldc 183, 2) := by decide +kernel
theorem dX10_bring_30 : decode cX10_bring 30 = .ok (.ireturn, 1) := by decide +kernel
theorem dX10_bring_31 : decode cX10_bring 31 = .ok (.aload_n 0, 1) := by decide +kernel
theorem dX10_bring_32 : decode cX10_bring 32 = .ok (.invokevirtual 203, 3) := by decide +kernel
theorem dX10_bring_35 : decode cX10_bring 35 = .ok (.aload_n 0, 1) := by decide +kernel
theorem dX10_bring_36 : decode cX10_bring 36 = .ok (.iload_n 1, 1) := by decide +kernel
theorem dX10_bring_37 : decode cX10_bring 37 = .ok (.iload_n 2, 1) := by decide +kernel
theorem dX10_bring_38 : decode cX10_bring 38 = .ok (.invokevirtual 213, 3) := by decide +kernel
theorem dX10_bring_41 : decode cX10_bring 41 = .ok (.aload_n 0, 1) := by decide +kernel
theorem dX10_bring_42 : decode cX10_bring 42 = .ok (.iconst 0, 1) := by decide +kernel
theorem dX10_bring_43 : decode cX10_bring 43 = .ok (.invokevirtual 170, 3) := by decide +kernel
theorem dX10_bring_46 : decode cX10_bring 46 = .ok (.ireturn, 1) := by decide +kernel
set_option maxRecDepth 20000 in
theorem ggX10_canDraw_X10_in : GoodIn wsX10_canDraw wsX10_in := goodIn_r _ [6] (by decide +kernel) (by decide +kernel)
set_option maxRecDepth 20000 in
theorem gX10_canDraw_X10_in : GoodIn wsX10_canDraw (va_wsS RX10 90 yX10_in wsX10_in) := goodIn_app (goodIn_of _ (by decide +kernel)) ggX10_canDraw_X10_in
theorem dX10_canDraw_0 : decode cX10_canDraw 0 = .ok (.aload_n 0, 1) := by decide +kernel
theorem dX10_canDraw_1 : decode cX10_canDraw 1 = .ok (.getfield 28, 3) := by decide +kernel
theorem dX10_canDraw_4 : decode cX10_canDraw 4 = .ok (.bipush 8, 2) := by decide +kernel
theorem dX10_canDraw_6 : decode cX10_canDraw 6 = .ok (.iload_n 1, 1) := by decide +kernel
theorem dX10_canDraw_7 : decode cX10_canDraw 7 = .ok (.iadd, 1) := by decide +kernel
theorem dX10_canDraw_8 : decode cX10_canDraw 8 = .ok (.iaload, 1) := by decide +kernel
theorem dX10_canDraw_9 : decode cX10_canDraw 9 = .ok (.ifCond .ne 53, 3) := by decide +kernel
theorem dX10_canDraw_12 : decode cX10_canDraw 12 = .ok (.iload_n 2, 1) := by decide +kernel
theorem dX10_canDraw_13 : decode cX10_canDraw 13 = .ok (.aload_n 0, 1) := by decide +kernel
theorem dX10_canDraw_14 : decode cX10_canDraw 14 = .ok (.getfield 28, 3) := by decide +kernel
theorem dX10_canDraw_17 : decode cX10_canDraw 17 = .ok (.iload_n 1, 1) := by decide +kernel
theorem dX10_canDraw_18 : decode cX10_canDraw 18 = .ok (.iaload, 1) := by decide +kernel
theorem dX10_canDraw_19 : decode cX10_canDraw 19 = .ok (.if_icmp .eq 43, 3) := by decide +kernel
theorem dX10_canDraw_22 : decode cX10_canDraw 22 = .ok (.iload_n 2, 1) := by decide +kernel
theorem dX10_canDraw_23 : decode cX10_canDraw 23 = .ok (.i2l, 1) := by decide +kernel
theorem dX10_canDraw_24 : decode cX10_canDraw 24 = .ok (.aload_n 0, 1) := by decide +kernel
theorem dX10_canDraw_25 : decode cX10_canDraw 25 = .ok (.getfield 28, 3) := by decide +kernel
theorem dX10_canDraw_28 : decode cX10_canDraw 28 = .ok (.iload_n 1, 1) := by decide +kernel
theorem dX10_canDraw_29 : decode cX10_canDraw 29 = .ok (.iaload, 1) := by decide +kernel
theorem dX10_canDraw_30 : decode cX10_canDraw 30 = .ok (.aload_n 0, 1) := by decide +kernel
theorem dX10_canDraw_31 : decode cX10_canDraw 31 = .ok (.getfield 13, 3) := by decide +kernel
theorem dX10_canDraw_34 : decode cX10_canDraw 34 = .ok (.iload_n 1, 1) := by decide +kernel
theorem dX10_canDraw_35 : decode cX10_canDraw 35 = .ok (.iaload, 1) := by decide +kernel
theorem dX10_canDraw_36 : decode cX10_canDraw 36 = .ok (.isub, 1) := by decide +kernel
theorem dX10_canDraw_37 : decode cX10_canDraw 37 = .ok (.i2l, 1) := by decide +kernel
theorem dX10_canDraw_38 : decode cX10_canDraw 38 = .ok (.aload_n 0, 1) := by decide +kernel
theorem dX10_canDraw_39 : decode cX10_canDraw 39 = .ok (.getfield 28, 3) := by decide +kernel
theorem dX10_canDraw_42 : decode cX10_canDraw 42 = .ok (.iload_n 1, 1) := by decide +kernel
theorem dX10_canDraw_43 : decode cX10_canDraw 43 = .ok (.iaload, 1) := by decide +kernel
theorem dX10_canDraw_44 : decode cX10_canDraw 44 = .ok (.aload_n 0, 1) := by decide +kernel
theorem dX10_canDraw_45 : decode cX10_canDraw 45 = .ok (.getfield 13, 3) := by decide +kernel
theorem dX10_canDraw_48 : decode cX10_canDraw 48 = .ok (.iload_n 1, 1) := by decide +kernel
theorem dX10_canDraw_49 : decode cX10_canDraw 49 = .ok (.iaload, 1) := by decide +kernel
theorem dX10_canDraw_50 : decode cX10_canDraw 50 = .ok (.iadd, 1) := by decide +kernel
theorem dX10_canDraw_51 : decode cX10_canDraw 51 = .ok (.i2l, 1) := by decide +kernel
theorem dX10_canDraw_52 : decode cX10_canDraw 52 = .ok (.invokestatic 90, 3) := by decide +kernel
theorem dX10_canDraw_55 : decode cX10_canDraw 55 = .ok (.ifCond .eq 7, 3) := by decide +kernel
theorem dX10_canDraw_58 : decode cX10_canDraw 58 = .ok (.iconst 1, 1) := by decide +kernel
theorem dX10_canDraw_59 : decode cX10_canDraw 59 = .ok (.goto 4, 3) := by decide +kernel
theorem dX10_canDraw_62 : decode cX10_canDraw 62 = .ok (.iconst 0, 1) := by decide +kernel
theorem dX10_canDraw_63 : decode cX10_canDraw 63 = .ok (.ireturn, 1) := by decide +kernel
theorem dX10_drawNow_0 : decode cX10_drawNow 0 = .ok (.aload_n 0, 1) := by decide +kernel
theorem dX10_drawNow_1 : decode cX10_drawNow 1 = .ok (.getfield 28, 3) := by decide +kernel
theorem dX10_drawNow_4 : decode cX10_drawNow 4 = .ok (.iload_n 1, 1) := by decide +kernel
theorem dX10_drawNow_5 : decode cX10_drawNow 5 = .ok (.iload_n 2, 1) := by decide +kernel
theorem dX10_drawNow_6 : decode cX10_drawNow 6 = .ok (.iastore, 1) := by decide +kernel
theorem dX10_drawNow_7 : decode cX10_drawNow 7 = .ok (.aload_n 0, 1) := by decide +kernel
theorem dX10_drawNow_8 : decode cX10_drawNow 8 = .ok (.getfield 28, 3) := by decide +kernel
theorem dX10_drawNow_11 : decode cX10_drawNow 11 = .ok (.bipush 8, 2) := by decide +kernel
theorem dX10_drawNow_13 : decode cX10_drawNow 13 = .ok (.iload_n 1, 1) := by decide +kernel
theorem dX10_drawNow_14 : decode cX10_drawNow 14 = .ok (.iadd, 1) := by decide +kernel
theorem dX10_drawNow_15 : decode cX10_drawNow 15 = .ok (.iconst 1, 1) := by decide +kernel
theorem dX10_drawNow_16 : decode cX10_drawNow 16 = .ok (.iastore, 1) := by decide +kernel
theorem dX10_drawNow_17 : decode cX10_drawNow 17 = .ok (.return_, 1) := by decide +kernel
set_option maxRecDepth 20000 in
theorem ggX10_drawTo_X10_isHut : GoodIn wsX10_drawTo wsX10_isHut := goodIn_r _ [8, 9, 10, 11, 7, 12, 39, 40, 41, 42, 43, 44, 45, 46, 47, 48, 49, 50, 51, 52, 53, 54, 55, 56, 57, 58, 59, 60, 61, 62, 63, 64, 65, 66, 67, 68, 69, 70, 71, 72, 73, 74, 75, 76, 77] (by decide +kernel) (by decide +kernel)
set_option maxRecDepth 20000 in
theorem gX10_drawTo_X10_isHut : GoodIn wsX10_drawTo (wsV RX10 187 RX10 yX10_isHut wsX10_isHut) := goodIn_app (goodIn_of _ (by decide +kernel)) ggX10_drawTo_X10_isHut
set_option maxRecDepth 20000 in
theorem ggX10_drawTo_X10_isCell : GoodIn wsX10_drawTo wsX10_isCell := goodIn_r _ [15, 16, 10, 11, 7, 12] (by decide +kernel) (by decide +kernel)
set_option maxRecDepth 20000 in
theorem gX10_drawTo_X10_isCell : GoodIn wsX10_drawTo (va_wsS RX10 177 yX10_isCell wsX10_isCell) := goodIn_app (goodIn_of _ (by decide +kernel)) ggX10_drawTo_X10_isCell
set_option maxRecDepth 20000 in
theorem ggX10_drawTo_X10_canDraw : GoodIn wsX10_drawTo wsX10_canDraw := goodIn_r _ [20, 21, 22, 10, 11, 7, 12, 39, 40, 41, 42, 43, 44, 45, 46, 47, 48, 49, 50, 51, 52, 53, 54, 55, 56, 57, 58, 59, 60, 61, 62, 63, 64, 65, 66, 67, 68, 69, 70, 71, 72, 73, 74, 75, 76, 77] (by decide +kernel) (by decide +kernel)
set_option maxRecDepth 20000 in
theorem gX10_drawTo_X10_canDraw : GoodIn wsX10_drawTo (wsV RX10 216 RX10 yX10_canDraw wsX10_canDraw) := goodIn_app (goodIn_of _ (by decide +kernel)) ggX10_drawTo_X10_canDraw
set_option maxRecDepth 20000 in
theorem ggX10_drawTo_X10_remember : GoodIn wsX10_drawTo wsX10_remember := goodIn_r _ [26, 27, 28, 21, 39, 40, 41, 42, 43, 44, 45, 46, 47, 48, 49, 50, 51, 52, 53, 54, 55, 56, 57, 58, 59, 60, 61, 62, 63, 64, 65, 66, 67, 68, 69, 70, 71, 72, 73, 74, 75, 76, 77] (by decide +kernel) (by decide +kernel)
set_option maxRecDepth 20000 in
theorem gX10_drawTo_X10_remember : GoodIn wsX10_drawTo (wsV RX10 203 RX10 yX10_remember wsX10_remember) := goodIn_app (goodIn_of _ (by decide +kernel)) ggX10_drawTo_X10_remember
set_option maxRecDepth 20000 in
theorem ggX10_drawTo_X10_drawNow : GoodIn wsX10_drawTo wsX10_drawNow := goodIn_r _ [32, 21, 39, 40, 41, 42, 43, 44, 45, 46, 47, 48, 49, 50, 51, 52, 53, 54, 55, 56, 57, 58, 59, 60, 61, 62, 63, 64, 65, 66, 67, 68, 69, 70, 71, 72, 73, 74, 75, 76, 77] (by decide +kernel) (by decide +kernel)
set_option maxRecDepth 20000 in
theorem gX10_drawTo_X10_drawNow : GoodIn wsX10_drawTo (wsV RX10 219 RX10 yX10_drawNow wsX10_drawNow) := goodIn_app (goodIn_of _ (by decide +kernel)) ggX10_drawTo_X10_drawNow
set_option maxRecDepth 20000 in
theorem ggX10_drawTo_X10_depthBehind : GoodIn wsX10_drawTo wsX10_depthBehind := goodIn_r _ [36, 37, 21, 38, 39, 40, 41, 42, 43, 44, 45, 46, 47, 48, 49, 50, 51, 52, 53, 54, 55, 56, 57, 58, 59, 60, 61, 62, 63, 64, 65, 66, 67, 68, 69, 70, 71, 72, 73, 74, 75, 76, 77] (by decide +kernel) (by decide +kernel)
set_option maxRecDepth 20000 in
theorem gX10_drawTo_X10_depthBehind : GoodIn wsX10_drawTo (wsV RX10 184 RX10 yX10_depthBehind wsX10_depthBehind) := goodIn_app (goodIn_of _ (by decide +kernel)) ggX10_drawTo_X10_depthBehind
theorem dX10_drawTo_0 : decode cX10_drawTo 0 = .ok (.aload_n 0, 1) := by decide +kernel
theorem dX10_drawTo_1 : decode cX10_drawTo 1 = .ok (.iload_n 1, 1) := by decide +kernel
theorem dX10_drawTo_2 : decode cX10_drawTo 2 = .ok (.invokevirtual 187, 3) := by decide +kernel
theorem dX10_drawTo_5 : decode cX10_drawTo 5 = .ok (.ifCond .ne 6, 3) := by decide +kernel
theorem dX10_drawTo_8 : decode cX10_drawTo 8 = .ok (.ldc 190, 2) := by decide +kernel
theorem dX10_drawTo_10 : decode cX10_drawTo 10 = .ok (.ireturn, 1) := by decide +kernel
theorem dX10_drawTo_11 : decode cX10_drawTo 11 = .ok (.iload_n 2, 1) := by decide +kernel
theorem dX10_drawTo_12 : decode cX10_drawTo 12 = .ok (.invokestatic 177, 3) := by decide +kernel
theorem dX10_drawTo_15 : decode cX10_drawTo 15 = .ok (.ifCond .ne 6, 3) := by decide +kernel
theorem dX10_drawTo_18 : decode cX10_drawTo 18 = .ok (.ldc 101, 2) := by decide +kernel
theorem dX10_drawTo_20 : decode cX10_drawTo 20 = .ok (.ireturn, 1) := by decide +kernel
theorem dX10_drawTo_21 : decode cX10_drawTo 21 = .ok (.aload_n 0, 1) := by decide +kernel
theorem dX10_drawTo_22 : decode cX10_drawTo 22 = .ok (.iload_n 1, 1) := by decide +kernel
theorem dX10_drawTo_23 : decode cX10_drawTo 23 = .ok (.iload_n 2, 1) := by decide +kernel
theorem dX10_drawTo_24 : decode cX10_drawTo 24 = .ok (.invokevirtual 216, 3) := by decide +kernel
theorem dX10_drawTo_27 : decode cX10_drawTo 27 = .ok (.ifCond .ne 6, 3) := by decide +kernel
theorem dX10_drawTo_30 : decode cX10_drawTo 30 = .ok (.ldc 183, 2) := by decide +kernel
theorem dX10_drawTo_32 : decode cX10_drawTo 32 = .ok (.ireturn, 1) := by decide +kernel
theorem dX10_drawTo_33 : decode cX10_drawTo 33 = .ok (.aload_n 0, 1) := by decide +kernel
theorem dX10_drawTo_34 : decode cX10_drawTo 34 = .ok (.invokevirtual 203, 3) := by decide +kernel
theorem dX10_drawTo_37 : decode cX10_drawTo 37 = .ok (.aload_n 0, 1) := by decide +kernel
theorem dX10_drawTo_38 : decode cX10_drawTo 38 = .ok (.iload_n 1, 1) := by decide +kernel
theorem dX10_drawTo_39 : decode cX10_drawTo 39 = .ok (.iload_n 2, 1) := by decide +kernel
theorem dX10_drawTo_40 : decode cX10_drawTo 40 = .ok (.invokevirtual 219, 3) := by decide +kernel
theorem dX10_drawTo_43 : decode cX10_drawTo 43 = .ok (.aload_n 0, 1) := by decide +kernel
theorem dX10_drawTo_44 : decode cX10_drawTo 44 = .ok (.iload_n 2, 1) := by decide +kernel
theorem dX10_drawTo_45 : decode cX10_drawTo 45 = .ok (.iconst 0, 1) := by decide +kernel
theorem dX10_drawTo_46 : decode cX10_drawTo 46 = .ok (.invokevirtual 184, 3) := by decide +kernel
theorem dX10_drawTo_49 : decode cX10_drawTo 49 = .ok (.ireturn, 1) := by decide +kernel
set_option maxRecDepth 20000 in
theorem ggX10_settle_X10_isCase : GoodIn wsX10_settle wsX10_isCase := goodIn_r _ [10, 11, 12, 13, 9, 14, 21, 22, 23, 24, 25, 26, 27, 28, 29, 30, 31, 32, 33, 34, 35, 36, 37, 38, 39, 40, 41, 42, 43, 44, 45, 46, 47, 48, 49, 50, 51, 52, 53, 54, 55, 56, 57, 58, 59] (by decide +kernel) (by decide +kernel)
set_option maxRecDepth 20000 in
theorem gX10_settle_X10_isCase : GoodIn wsX10_settle (wsV RX10 191 RX10 yX10_isCase wsX10_isCase) := goodIn_app (goodIn_of _ (by decide +kernel)) ggX10_settle_X10_isCase
set_option maxRecDepth 20000 in
theorem ggX10_settle_X10_remember : GoodIn wsX10_settle wsX10_remember := goodIn_r _ [18, 19, 20, 2, 21, 22, 23, 24, 25, 26, 27, 28, 29, 30, 31, 32, 33, 34, 35, 36, 37, 38, 39, 40, 41, 42, 43, 44, 45, 46, 47, 48, 49, 50, 51, 52, 53, 54, 55, 56, 57, 58, 59] (by decide +kernel) (by decide +kernel)
set_option maxRecDepth 20000 in
theorem gX10_settle_X10_remember : GoodIn wsX10_settle (wsV RX10 203 RX10 yX10_remember wsX10_remember) := goodIn_app (goodIn_of _ (by decide +kernel)) ggX10_settle_X10_remember
theorem dX10_settle_0 : decode cX10_settle 0 = .ok (.aload_n 0, 1) := by decide +kernel
theorem dX10_settle_1 : decode cX10_settle 1 = .ok (.iload_n 1, 1) := by decide +kernel
theorem dX10_settle_2 : decode cX10_settle 2 = .ok (.invokevirtual 191, 3) := by decide +kernel
theorem dX10_settle_5 : decode cX10_settle 5 = .ok (.ifCond .ne 6, 3) := by decide +kernel
theorem dX10_settle_8 : decode cX10_settle 8 = .ok (.ldc 190, 2) := by decide +kernel
theorem dX10_settle_10 : decode cX10_settle 10 = .ok (.ireturn, 1) := by decide +kernel
theorem dX10_settle_11 : decode cX10_settle 11 = .ok (.aload_n 0, 1) := by decide +kernel
theorem dX10_settle_12 : decode cX10_settle 12 = .ok (.getfield 28, 3) := by decide +kernel
theorem dX10_settle_15 : decode cX10_settle 15 = .ok (.bipush 12, 2) := by decide +kernel
theorem dX10_settle_17 : decode cX10_settle 17 = .ok (.iload_n 1, 1) := by decide +kernel
theorem dX10_settle_18 : decode cX10_settle 18 = .ok (.iadd, 1) := by decide +kernel
theorem dX10_settle_19 : decode cX10_settle 19 = .ok (.iaload, 1) := by decide +kernel
theorem dX10_settle_20 : decode cX10_settle 20 = .ok (.iconst 1, 1) := by decide +kernel
theorem dX10_settle_21 : decode cX10_settle 21 = .ok (.if_icmp .le 6, 3) := by decide +kernel
theorem dX10_settle_24 : decode cX10_settle 24 = .ok (.ldc 183, 2) := by decide +kernel
theorem dX10_settle_26 : decode cX10_settle 26 = .ok (.ireturn, 1) := by decide +kernel
theorem dX10_settle_27 : decode cX10_settle 27 = .ok (.aload_n 0, 1) := by decide +kernel
theorem dX10_settle_28 : decode cX10_settle 28 = .ok (.invokevirtual 203, 3) := by decide +kernel
theorem dX10_settle_31 : decode cX10_settle 31 = .ok (.aload_n 0, 1) := by decide +kernel
theorem dX10_settle_32 : decode cX10_settle 32 = .ok (.getfield 28, 3) := by decide +kernel
theorem dX10_settle_35 : decode cX10_settle 35 = .ok (.bipush 12, 2) := by decide +kernel
theorem dX10_settle_37 : decode cX10_settle 37 = .ok (.iload_n 1, 1) := by decide +kernel
theorem dX10_settle_38 : decode cX10_settle 38 = .ok (.iadd, 1) := by decide +kernel
theorem dX10_settle_39 : decode cX10_settle 39 = .ok (.iconst 3, 1) := by decide +kernel
theorem dX10_settle_40 : decode cX10_settle 40 = .ok (.iastore, 1) := by decide +kernel
theorem dX10_settle_41 : decode cX10_settle 41 = .ok (.iconst 0, 1) := by decide +kernel
theorem dX10_settle_42 : decode cX10_settle 42 = .ok (.istore_n 2, 1) := by decide +kernel
theorem dX10_settle_43 : decode cX10_settle 43 = .ok (.iload_n 2, 1) := by decide +kernel
theorem dX10_settle_44 : decode cX10_settle 44 = .ok (.aload_n 0, 1) := by decide +kernel
theorem dX10_settle_45 : decode cX10_settle 45 = .ok (.getfield 87, 3) := by decide +kernel
theorem dX10_settle_48 : decode cX10_settle 48 = .ok (.if_icmp .ge 41, 3) := by decide +kernel
theorem dX10_settle_51 : decode cX10_settle 51 = .ok (.aload_n 0, 1) := by decide +kernel
theorem dX10_settle_52 : decode cX10_settle 52 = .ok (.getfield 28, 3) := by decide +kernel
theorem dX10_settle_55 : decode cX10_settle 55 = .ok (.iconst 4, 1) := by decide +kernel
theorem dX10_settle_56 : decode cX10_settle 56 = .ok (.iload_n 2, 1) := by decide +kernel
theorem dX10_settle_57 : decode cX10_settle 57 = .ok (.iadd, 1) := by decide +kernel
theorem dX10_settle_58 : decode cX10_settle 58 = .ok (.aload_n 0, 1) := by decide +kernel
theorem dX10_settle_59 : decode cX10_settle 59 = .ok (.getfield 28, 3) := by decide +kernel
theorem dX10_settle_62 : decode cX10_settle 62 = .ok (.iconst 4, 1) := by decide +kernel
theorem dX10_settle_63 : decode cX10_settle 63 = .ok (.iload_n 2, 1) := by decide +kernel
theorem dX10_settle_64 : decode cX10_settle 64 = .ok (.iadd, 1) := by decide +kernel
theorem dX10_settle_65 : decode cX10_settle 65 = .ok (.iaload, 1) := by decide +kernel
theorem dX10_settle_66 : decode cX10_settle 66 = .ok (.iload_n 1, 1) := by decide +kernel
theorem dX10_settle_67 : decode cX10_settle 67 = .ok (.if_icmp .ne 7, 3) := by decide +kernel
theorem dX10_settle_70 : decode cX10_settle 70 = .ok (.iconst (-1), 1) := by decide +kernel
theorem dX10_settle_71 : decode cX10_settle 71 = .ok (.goto 11, 3) := by decide +kernel
theorem dX10_settle_74 : decode cX10_settle 74 = .ok (.aload_n 0, 1) := by decide +kernel
theorem dX10_settle_75 : decode cX10_settle 75 = .ok (.getfield 28, 3) := by decide +kernel
theorem dX10_settle_78 : decode cX10_settle 78 = .ok (.iconst 4, 1) := by decide +kernel
theorem dX10_settle_79 : decode cX10_settle 79 = .ok (.iload_n 2, 1) := by decide +kernel
theorem dX10_settle_80 : decode cX10_settle 80 = .ok (.iadd, 1) := by decide +kernel
theorem dX10_settle_81 : decode cX10_settle 81 = .ok (.iaload, 1) := by decide +kernel
theorem dX10_settle_82 : decode cX10_settle 82 = .ok (.iastore, 1) := by decide +kernel
theorem dX10_settle_83 : decode cX10_settle 83 = .ok (.iinc 2 1, 3) := by decide +kernel
theorem dX10_settle_86 : decode cX10_settle 86 = .ok (.goto (-43), 3) := by decide +kernel
theorem dX10_settle_89 : decode cX10_settle 89 = .ok (.aload_n 0, 1) := by decide +kernel
theorem dX10_settle_90 : decode cX10_settle 90 = .ok (.getfield 25, 3) := by decide +kernel
theorem dX10_settle_93 : decode cX10_settle 93 = .ok (.iload_n 1, 1) := by decide +kernel
theorem dX10_settle_94 : decode cX10_settle 94 = .ok (.iaload, 1) := by decide +kernel
theorem dX10_settle_95 : decode cX10_settle 95 = .ok (.ireturn, 1) := by decide +kernel
theorem dX10_draw_0 : decode cX10_draw 0 = .ok (.aload_n 0, 1) := by decide +kernel
theorem dX10_draw_1 : decode cX10_draw 1 = .ok (.aload_n 0, 1) := by decide +kernel
theorem dX10_draw_2 : decode cX10_draw 2 = .ok (.getfield 222, 3) := by decide +kernel
theorem dX10_draw_5 : decode cX10_draw 5 = .ok (.i2l, 1) := by decide +kernel
theorem dX10_draw_6 : decode cX10_draw 6 = .ok (.ldc2_w 225, 3) := by decide +kernel
theorem dX10_draw_9 : decode cX10_draw 9 = .ok (.lmul, 1) := by decide +kernel
theorem dX10_draw_10 : decode cX10_draw 10 = .ok (.ldc2_w 227, 3) := by decide +kernel
theorem dX10_draw_13 : decode cX10_draw 13 = .ok (.ladd, 1) := by decide +kernel
theorem dX10_draw_14 : decode cX10_draw 14 = .ok (.ldc2_w 229, 3) := by decide +kernel
theorem dX10_draw_17 : decode cX10_draw 17 = .ok (.lrem, 1) := by decide +kernel
theorem dX10_draw_18 : decode cX10_draw 18 = .ok (.l2i, 1) := by decide +kernel
theorem dX10_draw_19 : decode cX10_draw 19 = .ok (.putfield 222, 3) := by decide +kernel
theorem dX10_draw_22 : decode cX10_draw 22 = .ok (.aload_n 0, 1) := by decide +kernel
theorem dX10_draw_23 : decode cX10_draw 23 = .ok (.getfield 222, 3) := by decide +kernel
theorem dX10_draw_26 : decode cX10_draw 26 = .ok (.ldc 231, 2) := by decide +kernel
theorem dX10_draw_28 : decode cX10_draw 28 = .ok (.idiv, 1) := by decide +kernel
theorem dX10_draw_29 : decode cX10_draw 29 = .ok (.iload_n 1, 1) := by decide +kernel
theorem dX10_draw_30 : decode cX10_draw 30 = .ok (.irem, 1) := by decide +kernel
theorem dX10_draw_31 : decode cX10_draw 31 = .ok (.ireturn, 1) := by decide +kernel
set_option maxRecDepth 20000 in
theorem ggX10_chance_X10_draw : GoodIn wsX10_chance wsX10_draw := goodIn_r _ [7, 8, 9, 10, 11, 12, 34, 35, 36, 37, 38, 39, 40, 41, 42, 43, 44, 45, 46, 47, 48, 49, 50, 51, 52, 53, 54, 55, 56, 57, 58, 59, 60, 61, 62, 63, 64, 65, 66, 67, 68, 69, 70, 71, 72] (by decide +kernel) (by decide +kernel)
set_option maxRecDepth 20000 in
theorem gX10_chance_X10_draw : GoodIn wsX10_chance (wsV RX10 232 RX10 yX10_draw wsX10_draw) := goodIn_app (goodIn_of _ (by decide +kernel)) ggX10_chance_X10_draw
set_option maxRecDepth 20000 in
theorem ggX10_chance_X10_canDraw : GoodIn wsX10_chance wsX10_canDraw := goodIn_r _ [16, 17, 18, 19, 20, 6, 21, 34, 35, 36, 37, 38, 39, 40, 41, 42, 43, 44, 45, 46, 47, 48, 49, 50, 51, 52, 53, 54, 55, 56, 57, 58, 59, 60, 61, 62, 63, 64, 65, 66, 67, 68, 69, 70, 71, 72] (by decide +kernel) (by decide +kernel)
set_option maxRecDepth 20000 in
theorem gX10_chance_X10_canDraw : GoodIn wsX10_chance (wsV RX10 216 RX10 yX10_canDraw wsX10_canDraw) := goodIn_app (goodIn_of _ (by decide +kernel)) ggX10_chance_X10_canDraw
set_option maxRecDepth 20000 in
theorem ggX10_chance_X10_drawNow : GoodIn wsX10_chance wsX10_drawNow := goodIn_r _ [25, 17, 34, 35, 36, 37, 38, 39, 40, 41, 42, 43, 44, 45, 46, 47, 48, 49, 50, 51, 52, 53, 54, 55, 56, 57, 58, 59, 60, 61, 62, 63, 64, 65, 66, 67, 68, 69, 70, 71, 72] (by decide +kernel) (by decide +kernel)
set_option maxRecDepth 20000 in
theorem gX10_chance_X10_drawNow : GoodIn wsX10_chance (wsV RX10 219 RX10 yX10_drawNow wsX10_drawNow) := goodIn_app (goodIn_of _ (by decide +kernel)) ggX10_chance_X10_drawNow
set_option maxRecDepth 20000 in
theorem ggX10_chance_X10_canBring : GoodIn wsX10_chance wsX10_canBring := goodIn_r _ [29, 17, 34, 35, 36, 37, 38, 39, 40, 41, 42, 43, 44, 45, 46, 47, 48, 49, 50, 51, 52, 53, 54, 55, 56, 57, 58, 59, 60, 61, 62, 63, 64, 65, 66, 67, 68, 69, 70, 71, 72] (by decide +kernel) (by decide +kernel)
set_option maxRecDepth 20000 in
theorem gX10_chance_X10_canBring : GoodIn wsX10_chance (wsV RX10 209 RX10 yX10_canBring wsX10_canBring) := goodIn_app (goodIn_of _ (by decide +kernel)) ggX10_chance_X10_canBring
set_option maxRecDepth 20000 in
theorem ggX10_chance_X10_bringNow : GoodIn wsX10_chance wsX10_bringNow := goodIn_r _ [33, 17, 34, 35, 36, 37, 38, 39, 40, 41, 42, 43, 44, 45, 46, 47, 48, 49, 50, 51, 52, 53, 54, 55, 56, 57, 58, 59, 60, 61, 62, 63, 64, 65, 66, 67, 68, 69, 70, 71, 72] (by decide +kernel) (by decide +kernel)
set_option maxRecDepth 20000 in
theorem gX10_chance_X10_bringNow : GoodIn wsX10_chance (wsV RX10 213 RX10 yX10_bringNow wsX10_bringNow) := goodIn_app (goodIn_of _ (by decide +kernel)) ggX10_chance_X10_bringNow
theorem dX10_chance_0 : decode cX10_chance 0 = .ok (.aload_n 0, 1) := by decide +kernel
theorem dX10_chance_1 : decode cX10_chance 1 = .ok (.aload_n 0, 1) := by decide +kernel
theorem dX10_chance_2 : decode cX10_chance 2 = .ok (.getfield 87, 3) := by decide +kernel
theorem dX10_chance_5 : decode cX10_chance 5 = .ok (.invokevirtual 232, 3) := by decide +kernel
theorem dX10_chance_8 : decode cX10_chance 8 = .ok (.istore_n 1, 1) := by decide +kernel
theorem dX10_chance_9 : decode cX10_chance 9 = .ok (.aload_n 0, 1) := by decide +kernel
theorem dX10_chance_10 : decode cX10_chance 10 = .ok (.bipush 10, 2) := by decide +kernel
theorem dX10_chance_12 : decode cX10_chance 12 = .ok (.invokevirtual 232, 3) := by decide +kernel
theorem dX10_chance_15 : decode cX10_chance 15 = .ok (.istore_n 2, 1) := by decide +kernel
theorem dX10_chance_16 : decode cX10_chance 16 = .ok (.aload_n 0, 1) := by decide +kernel
theorem dX10_chance_17 : decode cX10_chance 17 = .ok (.iload_n 1, 1) := by decide +kernel
theorem dX10_chance_18 : decode cX10_chance 18 = .ok (.iload_n 2, 1) := by decide +kernel
theorem dX10_chance_19 : decode cX10_chance 19 = .ok (.invokevirtual 216, 3) := by decide +kernel
theorem dX10_chance_22 : decode cX10_chance 22 = .ok (.ifCond .eq 9, 3) := by decide +kernel
theorem dX10_chance_25 : decode cX10_chance 25 = .ok (.aload_n 0, 1) := by decide +kernel
theorem dX10_chance_26 : decode cX10_chance 26 = .ok (.iload_n 1, 1) := by decide +kernel
theorem dX10_chance_27 : decode cX10_chance 27 = .ok (.iload_n 2, 1) := by decide +kernel
theorem dX10_chance_28 : decode cX10_chance 28 = .ok (.invokevirtual 219, 3) := by decide +kernel
theorem dX10_chance_31 : decode cX10_chance 31 = .ok (.aload_n 0, 1) := by decide +kernel
theorem dX10_chance_32 : decode cX10_chance 32 = .ok (.getfield 94, 3) := by decide +kernel
theorem dX10_chance_35 : decode cX10_chance 35 = .ok (.ifCond .le 27, 3) := by decide +kernel
theorem dX10_chance_38 : decode cX10_chance 38 = .ok (.aload_n 0, 1) := by decide +kernel
theorem dX10_chance_39 : decode cX10_chance 39 = .ok (.aload_n 0, 1) := by decide +kernel
theorem dX10_chance_40 : decode cX10_chance 40 = .ok (.getfield 94, 3) := by decide +kernel
theorem dX10_chance_43 : decode cX10_chance 43 = .ok (.invokevirtual 232, 3) := by decide +kernel
theorem dX10_chance_46 : decode cX10_chance 46 = .ok (.istore_n 3, 1) := by decide +kernel
theorem dX10_chance_47 : decode cX10_chance 47 = .ok (.aload_n 0, 1) := by decide +kernel
theorem dX10_chance_48 : decode cX10_chance 48 = .ok (.iload_n 3, 1) := by decide +kernel
theorem dX10_chance_49 : decode cX10_chance 49 = .ok (.iload_n 1, 1) := by decide +kernel
theorem dX10_chance_50 : decode cX10_chance 50 = .ok (.invokevirtual 209, 3) := by decide +kernel
theorem dX10_chance_53 : decode cX10_chance 53 = .ok (.ifCond .eq 9, 3) := by decide +kernel
theorem dX10_chance_56 : decode cX10_chance 56 = .ok (.aload_n 0, 1) := by decide +kernel
theorem dX10_chance_57 : decode cX10_chance 57 = .ok (.iload_n 3, 1) := by decide +kernel
theorem dX10_chance_58 : decode cX10_chance 58 = .ok (.iload_n 1, 1) := by decide +kernel
theorem dX10_chance_59 : decode cX10_chance 59 = .ok (.invokevirtual 213, 3) := by decide +kernel
theorem dX10_chance_62 : decode cX10_chance 62 = .ok (.return_, 1) := by decide +kernel
set_option maxRecDepth 20000 in
theorem ggX10_drift_X10_hoursRefused : GoodIn wsX10_drift wsX10_hoursRefused := goodIn_r _ [6, 7, 8, 9, 10, 11, 12, 13, 14, 5, 15, 73, 74, 75, 76, 77, 78, 79, 80, 81, 82, 83, 84, 85, 86, 87, 88, 89, 90, 91, 92, 93, 94, 95, 96, 97, 98, 99, 100, 101, 102, 103, 104, 105, 106, 107, 108, 109, 110, 111] (by decide +kernel) (by decide +kernel)
set_option maxRecDepth 20000 in
theorem gX10_drift_X10_hoursRefused : GoodIn wsX10_drift (wsV RX10 200 RX10 yX10_hoursRefused wsX10_hoursRefused) := goodIn_app (goodIn_of _ (by decide +kernel)) ggX10_drift_X10_hoursRefused
set_option maxRecDepth 20000 in
theorem ggX10_drift_X10_remember : GoodIn wsX10_drift wsX10_remember := goodIn_r _ [19, 20, 21, 11, 73, 74, 75, 76, 77, 78, 79, 80, 81, 82, 83, 84, 85, 86, 87, 88, 89, 90, 91, 92, 93, 94, 95, 96, 97, 98, 99, 100, 101, 102, 103, 104, 105, 106, 107, 108, 109, 110, 111] (by decide +kernel) (by decide +kernel)
set_option maxRecDepth 20000 in
theorem gX10_drift_X10_remember : GoodIn wsX10_drift (wsV RX10 203 RX10 yX10_remember wsX10_remember) := goodIn_app (goodIn_of _ (by decide +kernel)) ggX10_drift_X10_remember
set_option maxRecDepth 20000 in
theorem ggX10_drift_X10_chance : GoodIn wsX10_drift wsX10_chance := goodIn_r _ [25, 1, 26, 27, 28, 29, 5, 30, 31, 32, 33, 34, 35, 36, 37, 38, 39, 11, 40, 13, 14, 15, 41, 42, 43, 44, 45, 46, 47, 48, 49, 50, 51, 52, 73, 74, 75, 76, 77, 78, 79, 80, 81, 82, 83, 84, 85, 86, 87, 88, 89, 90, 91, 92, 93, 94, 95, 96, 97, 98, 99, 100, 101, 102, 103, 104, 105, 106, 107, 108, 109, 110, 111] (by decide +kernel) (by decide +kernel)
set_option maxRecDepth 20000 in
theorem gX10_drift_X10_chance : GoodIn wsX10_drift (wsV RX10 235 RX10 yX10_chance wsX10_chance) := goodIn_app (goodIn_of _ (by decide +kernel)) ggX10_drift_X10_chance
set_option maxRecDepth 20000 in
theorem ggX10_drift_X10_pass : GoodIn wsX10_drift wsX10_pass := goodIn_r _ [56, 1, 11, 57, 58, 59, 5, 60, 61, 62, 63, 64, 65, 66, 67, 68, 9, 73, 74, 75, 76, 77, 78, 79, 80, 81, 82, 83, 84, 85, 86, 87, 88, 89, 90, 91, 92, 93, 94, 95, 96, 97, 98, 99, 100, 101, 102, 103, 104, 105, 106, 107, 108, 109, 110, 111] (by decide +kernel) (by decide +kernel)
set_option maxRecDepth 20000 in
theorem gX10_drift_X10_pass : GoodIn wsX10_drift (wsV RX10 206 RX10 yX10_pass wsX10_pass) := goodIn_app (goodIn_of _ (by decide +kernel)) ggX10_drift_X10_pass
set_option maxRecDepth 20000 in
theorem ggX10_drift_X10_allThat : GoodIn wsX10_drift wsX10_allThat := goodIn_r _ [72, 26, 11, 73, 74, 75, 76, 77, 78, 79, 80, 81, 82, 83, 84, 85, 86, 87, 88, 89, 90, 91, 92, 93, 94, 95, 96, 97, 98, 99, 100, 101, 102, 103, 104, 105, 106, 107, 108, 109, 110, 111] (by decide +kernel) (by decide +kernel)
set_option maxRecDepth 20000 in
theorem gX10_drift_X10_allThat : GoodIn wsX10_drift (wsV RX10 170 RX10 yX10_allThat wsX10_allThat) := goodIn_app (goodIn_of _ (by decide +kernel)) ggX10_drift_X10_allThat
theorem dX10_drift_0 : decode cX10_drift 0 = .ok (.aload_n 0, 1) := by decide +kernel
theorem dX10_drift_1 : decode cX10_drift 1 = .ok (.iload_n 1, 1) := by decide +kernel
theorem dX10_drift_2 : decode cX10_drift 2 = .ok (.invokevirtual 200, 3) := by decide +kernel
theorem dX10_drift_5 : decode cX10_drift 5 = .ok (.istore_n 2, 1) := by decide +kernel
theorem dX10_drift_6 : decode cX10_drift 6 = .ok (.iload_n 2, 1) := by decide +kernel
theorem dX10_drift_7 : decode cX10_drift 7 = .ok (.ifCond .eq 5, 3) := by decide +kernel
theorem dX10_drift_10 : decode cX10_drift 10 = .ok (.iload_n 2, 1) := by decide +kernel
theorem dX10_drift_11 : decode cX10_drift 11 = .ok (.ireturn, 1) := by decide +kernel
theorem dX10_drift_12 : decode cX10_drift 12 = .ok (.aload_n 0, 1) := by decide +kernel
theorem dX10_drift_13 : decode cX10_drift 13 = .ok (.invokevirtual 203, 3) := by decide +kernel
theorem dX10_drift_16 : decode cX10_drift 16 = .ok (.iconst 0, 1) := by decide +kernel
theorem dX10_drift_17 : decode cX10_drift 17 = .ok (.istore_n 3, 1) := by decide +kernel
theorem dX10_drift_18 : decode cX10_drift 18 = .ok (.iload_n 3, 1) := by decide +kernel
theorem dX10_drift_19 : decode cX10_drift 19 = .ok (.iload_n 1, 1) := by decide +kernel
theorem dX10_drift_20 : decode cX10_drift 20 = .ok (.if_icmp .ge 24, 3) := by decide +kernel
theorem dX10_drift_23 : decode cX10_drift 23 = .ok (.aload_n 0, 1) := by decide +kernel
theorem dX10_drift_24 : decode cX10_drift 24 = .ok (.getfield 87, 3) := by decide +kernel
theorem dX10_drift_27 : decode cX10_drift 27 = .ok (.ifCond .le 7, 3) := by decide +kernel
theorem dX10_drift_30 : decode cX10_drift 30 = .ok (.aload_n 0, 1) := by decide +kernel
theorem dX10_drift_31 : decode cX10_drift 31 = .ok (.invokevirtual 235, 3) := by decide +kernel
theorem dX10_drift_34 : decode cX10_drift 34 = .ok (.aload_n 0, 1) := by decide +kernel
theorem dX10_drift_35 : decode cX10_drift 35 = .ok (.invokevirtual 206, 3) := by decide +kernel
theorem dX10_drift_38 : decode cX10_drift 38 = .ok (.iinc 3 1, 3) := by decide +kernel
theorem dX10_drift_41 : decode cX10_drift 41 = .ok (.goto (-23), 3) := by decide +kernel
theorem dX10_drift_44 : decode cX10_drift 44 = .ok (.aload_n 0, 1) := by decide +kernel
theorem dX10_drift_45 : decode cX10_drift 45 = .ok (.iconst 2, 1) := by decide +kernel
theorem dX10_drift_46 : decode cX10_drift 46 = .ok (.invokevirtual 170, 3) := by decide +kernel
theorem dX10_drift_49 : decode cX10_drift 49 = .ok (.ireturn, 1) := by decide +kernel
theorem dX10_undo_0 : decode cX10_undo 0 = .ok (.aload_n 0, 1) := by decide +kernel
theorem dX10_undo_1 : decode cX10_undo 1 = .ok (.getfield 167, 3) := by decide +kernel
theorem dX10_undo_4 : decode cX10_undo 4 = .ok (.ifCond .ne 6, 3) := by decide +kernel
theorem dX10_undo_7 : decode cX10_undo 7 = .ok (.ldc 183, 2) := by decide +kernel
theorem dX10_undo_9 : decode cX10_undo 9 = .ok (.ireturn, 1) := by decide +kernel
theorem dX10_undo_10 : decode cX10_undo 10 = .ok (.aload_n 0, 1) := by decide +kernel
theorem dX10_undo_11 : decode cX10_undo 11 = .ok (.dup, 1) := by decide +kernel
theorem dX10_undo_12 : decode cX10_undo 12 = .ok (.getfield 167, 3) := by decide +kernel
theorem dX10_undo_15 : decode cX10_undo 15 = .ok (.iconst 1, 1) := by decide +kernel
theorem dX10_undo_16 : decode cX10_undo 16 = .ok (.isub, 1) := by decide +kernel
theorem dX10_undo_17 : decode cX10_undo 17 = .ok (.putfield 167, 3) := by decide +kernel
theorem dX10_undo_20 : decode cX10_undo 20 = .ok (.iconst 0, 1) := by decide +kernel
theorem dX10_undo_21 : decode cX10_undo 21 = .ok (.istore_n 1, 1) := by decide +kernel
theorem dX10_undo_22 : decode cX10_undo 22 = .ok (.iload_n 1, 1) := by decide +kernel
theorem dX10_undo_23 : decode cX10_undo 23 = .ok (.bipush 23, 2) := by decide +kernel
theorem dX10_undo_25 : decode cX10_undo 25 = .ok (.if_icmp .ge 29, 3) := by decide +kernel
theorem dX10_undo_28 : decode cX10_undo 28 = .ok (.aload_n 0, 1) := by decide +kernel
theorem dX10_undo_29 : decode cX10_undo 29 = .ok (.getfield 28, 3) := by decide +kernel
theorem dX10_undo_32 : decode cX10_undo 32 = .ok (.iload_n 1, 1) := by decide +kernel
