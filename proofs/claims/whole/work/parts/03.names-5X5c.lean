theorem dX5_clearing_137 : decode cX5_clearing 137 = .ok (.getfield 7, 3) := by decide +kernel
theorem dX5_clearing_140 : decode cX5_clearing 140 = .ok (.iconst 2, 1) := by decide +kernel
theorem dX5_clearing_141 : decode cX5_clearing 141 = .ok (.iaload, 1) := by decide +kernel
theorem dX5_clearing_142 : decode cX5_clearing 142 = .ok (.iand, 1) := by decide +kernel
theorem dX5_clearing_143 : decode cX5_clearing 143 = .ok (.ior, 1) := by decide +kernel
theorem dX5_clearing_144 : decode cX5_clearing 144 = .ok (.istore 5, 2) := by decide +kernel
theorem dX5_clearing_146 : decode cX5_clearing 146 = .ok (.iinc 6 1, 3) := by decide +kernel
theorem dX5_clearing_149 : decode cX5_clearing 149 = .ok (.goto (-97), 3) := by decide +kernel
theorem dX5_clearing_152 : decode cX5_clearing 152 = .ok (.iload 5, 2) := by decide +kernel
theorem dX5_clearing_154 : decode cX5_clearing 154 = .ok (.istore 6, 2) := by decide +kernel
theorem dX5_clearing_156 : decode cX5_clearing 156 = .ok (.iconst 0, 1) := by decide +kernel
theorem dX5_clearing_157 : decode cX5_clearing 157 = .ok (.istore 7, 2) := by decide +kernel
theorem dX5_clearing_159 : decode cX5_clearing 159 = .ok (.iload 7, 2) := by decide +kernel
theorem dX5_clearing_161 : decode cX5_clearing 161 = .ok (.aload_n 0, 1) := by decide +kernel
theorem dX5_clearing_162 : decode cX5_clearing 162 = .ok (.getfield 7, 3) := by decide +kernel
theorem dX5_clearing_165 : decode cX5_clearing 165 = .ok (.iconst 1, 1) := by decide +kernel
theorem dX5_clearing_166 : decode cX5_clearing 166 = .ok (.iaload, 1) := by decide +kernel
theorem dX5_clearing_167 : decode cX5_clearing 167 = .ok (.if_icmp .ge 42, 3) := by decide +kernel
theorem dX5_clearing_170 : decode cX5_clearing 170 = .ok (.iload 6, 2) := by decide +kernel
theorem dX5_clearing_172 : decode cX5_clearing 172 = .ok (.iload 5, 2) := by decide +kernel
theorem dX5_clearing_174 : decode cX5_clearing 174 = .ok (.iload 7, 2) := by decide +kernel
theorem dX5_clearing_176 : decode cX5_clearing 176 = .ok (.ishr, 1) := by decide +kernel
theorem dX5_clearing_177 : decode cX5_clearing 177 = .ok (.iconst 1, 1) := by decide +kernel
theorem dX5_clearing_178 : decode cX5_clearing 178 = .ok (.iand, 1) := by decide +kernel
theorem dX5_clearing_179 : decode cX5_clearing 179 = .ok (.iconst 1, 1) := by decide +kernel
theorem dX5_clearing_180 : decode cX5_clearing 180 = .ok (.if_icmp .ne 19, 3) := by decide +kernel
theorem dX5_clearing_183 : decode cX5_clearing 183 = .ok (.aload_n 0, 1) := by decide +kernel
theorem dX5_clearing_184 : decode cX5_clearing 184 = .ok (.iload 7, 2) := by decide +kernel
theorem dX5_clearing_186 : decode cX5_clearing 186 = .ok (.invokevirtual 63, 3) := by decide +kernel
theorem dX5_clearing_189 : decode cX5_clearing 189 = .ok (.aload_n 0, 1) := by decide +kernel
theorem dX5_clearing_190 : decode cX5_clearing 190 = .ok (.getfield 7, 3) := by decide +kernel
theorem dX5_clearing_193 : decode cX5_clearing 193 = .ok (.iconst 2, 1) := by decide +kernel
theorem dX5_clearing_194 : decode cX5_clearing 194 = .ok (.iaload, 1) := by decide +kernel
theorem dX5_clearing_195 : decode cX5_clearing 195 = .ok (.iand, 1) := by decide +kernel
theorem dX5_clearing_196 : decode cX5_clearing 196 = .ok (.goto 4, 3) := by decide +kernel
theorem dX5_clearing_199 : decode cX5_clearing 199 = .ok (.iconst 0, 1) := by decide +kernel
theorem dX5_clearing_200 : decode cX5_clearing 200 = .ok (.ior, 1) := by decide +kernel
theorem dX5_clearing_201 : decode cX5_clearing 201 = .ok (.istore 6, 2) := by decide +kernel
theorem dX5_clearing_203 : decode cX5_clearing 203 = .ok (.iinc 7 1, 3) := by decide +kernel
theorem dX5_clearing_206 : decode cX5_clearing 206 = .ok (.goto (-47), 3) := by decide +kernel
theorem dX5_clearing_209 : decode cX5_clearing 209 = .ok (.iload 6, 2) := by decide +kernel
theorem dX5_clearing_211 : decode cX5_clearing 211 = .ok (.ireturn, 1) := by decide +kernel
set_option maxRecDepth 20000 in
theorem ggX5_save_X5_in : GoodIn wsX5_save wsX5_in := goodIn_r _ [7] (by decide +kernel) (by decide +kernel)
set_option maxRecDepth 20000 in
theorem gX5_save_X5_in : GoodIn wsX5_save (va_wsS RX5 55 yX5_in wsX5_in) := goodIn_app (goodIn_of _ (by decide +kernel)) ggX5_save_X5_in
set_option maxRecDepth 20000 in
theorem ggX5_save_X5_length : GoodIn wsX5_save wsX5_length := goodIn_r _ [11, 2, 12, 13, 14, 6, 15, 16, 17, 18, 19, 20, 21, 22, 23, 24, 25, 26, 27, 28, 29, 30, 31, 32, 33, 34, 35, 36] (by decide +kernel) (by decide +kernel)
set_option maxRecDepth 20000 in
theorem gX5_save_X5_length : GoodIn wsX5_save (wsV RX5 51 RX5 yX5_length wsX5_length) := goodIn_app (goodIn_of _ (by decide +kernel)) ggX5_save_X5_length
theorem dX5_save_0 : decode cX5_save 0 = .ok (.iload_n 1, 1) := by decide +kernel
theorem dX5_save_1 : decode cX5_save 1 = .ok (.iconst 0, 1) := by decide +kernel
theorem dX5_save_2 : decode cX5_save 2 = .ok (.iconst 1, 1) := by decide +kernel
theorem dX5_save_3 : decode cX5_save 3 = .ok (.invokestatic 55, 3) := by decide +kernel
theorem dX5_save_6 : decode cX5_save 6 = .ok (.ifCond .ne 5, 3) := by decide +kernel
theorem dX5_save_9 : decode cX5_save 9 = .ok (.iconst (-1), 1) := by decide +kernel
theorem dX5_save_10 : decode cX5_save 10 = .ok (.ireturn, 1) := by decide +kernel
theorem dX5_save_11 : decode cX5_save 11 = .ok (.iconst 0, 1) := by decide +kernel
theorem dX5_save_12 : decode cX5_save 12 = .ok (.istore_n 2, 1) := by decide +kernel
theorem dX5_save_13 : decode cX5_save 13 = .ok (.iload_n 2, 1) := by decide +kernel
theorem dX5_save_14 : decode cX5_save 14 = .ok (.sipush 516, 3) := by decide +kernel
theorem dX5_save_17 : decode cX5_save 17 = .ok (.if_icmp .ge 27, 3) := by decide +kernel
theorem dX5_save_20 : decode cX5_save 20 = .ok (.aload_n 0, 1) := by decide +kernel
theorem dX5_save_21 : decode cX5_save 21 = .ok (.getfield 13, 3) := by decide +kernel
theorem dX5_save_24 : decode cX5_save 24 = .ok (.sipush 516, 3) := by decide +kernel
theorem dX5_save_27 : decode cX5_save 27 = .ok (.iload_n 1, 1) := by decide +kernel
theorem dX5_save_28 : decode cX5_save 28 = .ok (.imul, 1) := by decide +kernel
theorem dX5_save_29 : decode cX5_save 29 = .ok (.iload_n 2, 1) := by decide +kernel
theorem dX5_save_30 : decode cX5_save 30 = .ok (.iadd, 1) := by decide +kernel
theorem dX5_save_31 : decode cX5_save 31 = .ok (.aload_n 0, 1) := by decide +kernel
theorem dX5_save_32 : decode cX5_save 32 = .ok (.getfield 7, 3) := by decide +kernel
theorem dX5_save_35 : decode cX5_save 35 = .ok (.iload_n 2, 1) := by decide +kernel
theorem dX5_save_36 : decode cX5_save 36 = .ok (.iaload, 1) := by decide +kernel
theorem dX5_save_37 : decode cX5_save 37 = .ok (.iastore, 1) := by decide +kernel
theorem dX5_save_38 : decode cX5_save 38 = .ok (.iinc 2 1, 3) := by decide +kernel
theorem dX5_save_41 : decode cX5_save 41 = .ok (.goto (-28), 3) := by decide +kernel
theorem dX5_save_44 : decode cX5_save 44 = .ok (.aload_n 0, 1) := by decide +kernel
theorem dX5_save_45 : decode cX5_save 45 = .ok (.getfield 16, 3) := by decide +kernel
theorem dX5_save_48 : decode cX5_save 48 = .ok (.iload_n 1, 1) := by decide +kernel
theorem dX5_save_49 : decode cX5_save 49 = .ok (.iconst 1, 1) := by decide +kernel
theorem dX5_save_50 : decode cX5_save 50 = .ok (.bastore, 1) := by decide +kernel
theorem dX5_save_51 : decode cX5_save 51 = .ok (.aload_n 0, 1) := by decide +kernel
theorem dX5_save_52 : decode cX5_save 52 = .ok (.invokevirtual 51, 3) := by decide +kernel
theorem dX5_save_55 : decode cX5_save 55 = .ok (.ireturn, 1) := by decide +kernel
theorem dX5_exchanges_0 : decode cX5_exchanges 0 = .ok (.iconst 0, 1) := by decide +kernel
theorem dX5_exchanges_1 : decode cX5_exchanges 1 = .ok (.istore_n 2, 1) := by decide +kernel
theorem dX5_exchanges_2 : decode cX5_exchanges 2 = .ok (.iload_n 2, 1) := by decide +kernel
theorem dX5_exchanges_3 : decode cX5_exchanges 3 = .ok (.sipush 516, 3) := by decide +kernel
theorem dX5_exchanges_6 : decode cX5_exchanges 6 = .ok (.if_icmp .ge 47, 3) := by decide +kernel
theorem dX5_exchanges_9 : decode cX5_exchanges 9 = .ok (.aload_n 0, 1) := by decide +kernel
theorem dX5_exchanges_10 : decode cX5_exchanges 10 = .ok (.getfield 7, 3) := by decide +kernel
theorem dX5_exchanges_13 : decode cX5_exchanges 13 = .ok (.iload_n 2, 1) := by decide +kernel
theorem dX5_exchanges_14 : decode cX5_exchanges 14 = .ok (.iaload, 1) := by decide +kernel
theorem dX5_exchanges_15 : decode cX5_exchanges 15 = .ok (.istore_n 3, 1) := by decide +kernel
theorem dX5_exchanges_16 : decode cX5_exchanges 16 = .ok (.aload_n 0, 1) := by decide +kernel
theorem dX5_exchanges_17 : decode cX5_exchanges 17 = .ok (.getfield 7, 3) := by decide +kernel
theorem dX5_exchanges_20 : decode cX5_exchanges 20 = .ok (.iload_n 2, 1) := by decide +kernel
theorem dX5_exchanges_21 : decode cX5_exchanges 21 = .ok (.aload_n 0, 1) := by decide +kernel
theorem dX5_exchanges_22 : decode cX5_exchanges 22 = .ok (.getfield 13, 3) := by decide +kernel
theorem dX5_exchanges_25 : decode cX5_exchanges 25 = .ok (.sipush 516, 3) := by decide +kernel
theorem dX5_exchanges_28 : decode cX5_exchanges 28 = .ok (.iload_n 1, 1) := by decide +kernel
theorem dX5_exchanges_29 : decode cX5_exchanges 29 = .ok (.imul, 1) := by decide +kernel
theorem dX5_exchanges_30 : decode cX5_exchanges 30 = .ok (.iload_n 2, 1) := by decide +kernel
theorem dX5_exchanges_31 : decode cX5_exchanges 31 = .ok (.iadd, 1) := by decide +kernel
theorem dX5_exchanges_32 : decode cX5_exchanges 32 = .ok (.iaload, 1) := by decide +kernel
theorem dX5_exchanges_33 : decode cX5_exchanges 33 = .ok (.iastore, 1) := by decide +kernel
theorem dX5_exchanges_34 : decode cX5_exchanges 34 = .ok (.aload_n 0, 1) := by decide +kernel
theorem dX5_exchanges_35 : decode cX5_exchanges 35 = .ok (.getfield 13, 3) := by decide +kernel
theorem dX5_exchanges_38 : decode cX5_exchanges 38 = .ok (.sipush 516, 3) := by decide +kernel
theorem dX5_exchanges_41 : decode cX5_exchanges 41 = .ok (.iload_n 1, 1) := by decide +kernel
theorem dX5_exchanges_42 : decode cX5_exchanges 42 = .ok (.imul, 1) := by decide +kernel
theorem dX5_exchanges_43 : decode cX5_exchanges 43 = .ok (.iload_n 2, 1) := by decide +kernel
theorem dX5_exchanges_44 : decode cX5_exchanges 44 = .ok (.iadd, 1) := by decide +kernel
theorem dX5_exchanges_45 : decode cX5_exchanges 45 = .ok (.iload_n 3, 1) := by decide +kernel
theorem dX5_exchanges_46 : decode cX5_exchanges 46 = .ok (.iastore, 1) := by decide +kernel
theorem dX5_exchanges_47 : decode cX5_exchanges 47 = .ok (.iinc 2 1, 3) := by decide +kernel
theorem dX5_exchanges_50 : decode cX5_exchanges 50 = .ok (.goto (-48), 3) := by decide +kernel
theorem dX5_exchanges_53 : decode cX5_exchanges 53 = .ok (.return_, 1) := by decide +kernel
set_option maxRecDepth 20000 in
theorem ggX5_unkept_X5_in : GoodIn wsX5_unkept wsX5_in := goodIn_r _ [5] (by decide +kernel) (by decide +kernel)
set_option maxRecDepth 20000 in
theorem gX5_unkept_X5_in : GoodIn wsX5_unkept (va_wsS RX5 55 yX5_in wsX5_in) := goodIn_app (goodIn_of _ (by decide +kernel)) ggX5_unkept_X5_in
theorem dX5_unkept_0 : decode cX5_unkept 0 = .ok (.iload_n 1, 1) := by decide +kernel
theorem dX5_unkept_1 : decode cX5_unkept 1 = .ok (.iconst 0, 1) := by decide +kernel
theorem dX5_unkept_2 : decode cX5_unkept 2 = .ok (.iconst 1, 1) := by decide +kernel
theorem dX5_unkept_3 : decode cX5_unkept 3 = .ok (.invokestatic 55, 3) := by decide +kernel
theorem dX5_unkept_6 : decode cX5_unkept 6 = .ok (.ifCond .ne 7, 3) := by decide +kernel
theorem dX5_unkept_9 : decode cX5_unkept 9 = .ok (.iconst (-1), 1) := by decide +kernel
theorem dX5_unkept_10 : decode cX5_unkept 10 = .ok (.goto 18, 3) := by decide +kernel
theorem dX5_unkept_13 : decode cX5_unkept 13 = .ok (.aload_n 0, 1) := by decide +kernel
theorem dX5_unkept_14 : decode cX5_unkept 14 = .ok (.getfield 16, 3) := by decide +kernel
theorem dX5_unkept_17 : decode cX5_unkept 17 = .ok (.iload_n 1, 1) := by decide +kernel
theorem dX5_unkept_18 : decode cX5_unkept 18 = .ok (.baload, 1) := by decide +kernel
theorem dX5_unkept_19 : decode cX5_unkept 19 = .ok (.ifCond .eq 7, 3) := by decide +kernel
theorem dX5_unkept_22 : decode cX5_unkept 22 = .ok (.iconst 0, 1) := by decide +kernel
theorem dX5_unkept_23 : decode cX5_unkept 23 = .ok (.goto 5, 3) := by decide +kernel
theorem dX5_unkept_26 : decode cX5_unkept 26 = .ok (.bipush (-2), 2) := by decide +kernel
theorem dX5_unkept_28 : decode cX5_unkept 28 = .ok (.ireturn, 1) := by decide +kernel
set_option maxRecDepth 20000 in
theorem ggX5_restore_X5_unkept : GoodIn wsX5_restore wsX5_unkept := goodIn_r _ [7, 8, 9, 10, 6, 11, 24, 25, 26, 27, 28, 29, 30, 31, 32, 33, 34, 35, 36, 37, 38, 39, 40] (by decide +kernel) (by decide +kernel)
set_option maxRecDepth 20000 in
theorem gX5_restore_X5_unkept : GoodIn wsX5_restore (wsV RX5 189 RX5 yX5_unkept wsX5_unkept) := goodIn_app (goodIn_of _ (by decide +kernel)) ggX5_restore_X5_unkept
set_option maxRecDepth 20000 in
theorem ggX5_restore_X5_length : GoodIn wsX5_restore wsX5_length := goodIn_r _ [15, 1, 16, 17, 18, 6, 19, 20, 21, 22, 23, 24, 25, 26, 27, 28, 29, 30, 31, 32, 33, 34, 35, 36, 37, 38, 39, 40] (by decide +kernel) (by decide +kernel)
set_option maxRecDepth 20000 in
theorem gX5_restore_X5_length : GoodIn wsX5_restore (wsV RX5 51 RX5 yX5_length wsX5_length) := goodIn_app (goodIn_of _ (by decide +kernel)) ggX5_restore_X5_length
theorem dX5_restore_0 : decode cX5_restore 0 = .ok (.aload_n 0, 1) := by decide +kernel
theorem dX5_restore_1 : decode cX5_restore 1 = .ok (.iload_n 1, 1) := by decide +kernel
theorem dX5_restore_2 : decode cX5_restore 2 = .ok (.invokevirtual 189, 3) := by decide +kernel
theorem dX5_restore_5 : decode cX5_restore 5 = .ok (.istore_n 2, 1) := by decide +kernel
theorem dX5_restore_6 : decode cX5_restore 6 = .ok (.iconst 0, 1) := by decide +kernel
theorem dX5_restore_7 : decode cX5_restore 7 = .ok (.istore_n 3, 1) := by decide +kernel
theorem dX5_restore_8 : decode cX5_restore 8 = .ok (.iload_n 3, 1) := by decide +kernel
theorem dX5_restore_9 : decode cX5_restore 9 = .ok (.sipush 516, 3) := by decide +kernel
theorem dX5_restore_12 : decode cX5_restore 12 = .ok (.if_icmp .ge 31, 3) := by decide +kernel
theorem dX5_restore_15 : decode cX5_restore 15 = .ok (.iload_n 2, 1) := by decide +kernel
theorem dX5_restore_16 : decode cX5_restore 16 = .ok (.ifCond .ne 27, 3) := by decide +kernel
theorem dX5_restore_19 : decode cX5_restore 19 = .ok (.aload_n 0, 1) := by decide +kernel
theorem dX5_restore_20 : decode cX5_restore 20 = .ok (.getfield 7, 3) := by decide +kernel
theorem dX5_restore_23 : decode cX5_restore 23 = .ok (.iload_n 3, 1) := by decide +kernel
theorem dX5_restore_24 : decode cX5_restore 24 = .ok (.aload_n 0, 1) := by decide +kernel
theorem dX5_restore_25 : decode cX5_restore 25 = .ok (.getfield 13, 3) := by decide +kernel
theorem dX5_restore_28 : decode cX5_restore 28 = .ok (.sipush 516, 3) := by decide +kernel
theorem dX5_restore_31 : decode cX5_restore 31 = .ok (.iload_n 1, 1) := by decide +kernel
theorem dX5_restore_32 : decode cX5_restore 32 = .ok (.imul, 1) := by decide +kernel
theorem dX5_restore_33 : decode cX5_restore 33 = .ok (.iload_n 3, 1) := by decide +kernel
theorem dX5_restore_34 : decode cX5_restore 34 = .ok (.iadd, 1) := by decide +kernel
theorem dX5_restore_35 : decode cX5_restore 35 = .ok (.iaload, 1) := by decide +kernel
theorem dX5_restore_36 : decode cX5_restore 36 = .ok (.iastore, 1) := by decide +kernel
theorem dX5_restore_37 : decode cX5_restore 37 = .ok (.iinc 3 1, 3) := by decide +kernel
theorem dX5_restore_40 : decode cX5_restore 40 = .ok (.goto (-32), 3) := by decide +kernel
theorem dX5_restore_43 : decode cX5_restore 43 = .ok (.iload_n 2, 1) := by decide +kernel
theorem dX5_restore_44 : decode cX5_restore 44 = .ok (.ifCond .ge 7, 3) := by decide +kernel
theorem dX5_restore_47 : decode cX5_restore 47 = .ok (.iload_n 2, 1) := by decide +kernel
theorem dX5_restore_48 : decode cX5_restore 48 = .ok (.goto 7, 3) := by decide +kernel
theorem dX5_restore_51 : decode cX5_restore 51 = .ok (.aload_n 0, 1) := by decide +kernel
theorem dX5_restore_52 : decode cX5_restore 52 = .ok (.invokevirtual 51, 3) := by decide +kernel
theorem dX5_restore_55 : decode cX5_restore 55 = .ok (.ireturn, 1) := by decide +kernel
set_option maxRecDepth 20000 in
theorem ggX5_difference_X5_unkept : GoodIn wsX5_difference wsX5_unkept := goodIn_r _ [7, 8, 9, 10, 6, 11, 21, 22, 23, 24, 25, 26, 27, 28, 29, 30, 31, 32, 33, 34, 35, 36, 37] (by decide +kernel) (by decide +kernel)
set_option maxRecDepth 20000 in
theorem gX5_difference_X5_unkept : GoodIn wsX5_difference (wsV RX5 189 RX5 yX5_unkept wsX5_unkept) := goodIn_app (goodIn_of _ (by decide +kernel)) ggX5_difference_X5_unkept
set_option maxRecDepth 20000 in
theorem ggX5_difference_X5_isVisible : GoodIn wsX5_difference wsX5_isVisible := goodIn_r _ [15, 1, 21, 22, 23, 24, 25, 26, 27, 28, 29, 30, 31, 32, 33, 34, 35, 36, 37] (by decide +kernel) (by decide +kernel)
set_option maxRecDepth 20000 in
theorem gX5_difference_X5_isVisible : GoodIn wsX5_difference (wsV RX5 43 RX5 yX5_isVisible wsX5_isVisible) := goodIn_app (goodIn_of _ (by decide +kernel)) ggX5_difference_X5_isVisible
set_option maxRecDepth 20000 in
theorem ggX5_difference_X5_exchanges : GoodIn wsX5_difference wsX5_exchanges := goodIn_r _ [19, 1, 20, 21, 22, 23, 24, 25, 26, 27, 28, 29, 30, 31, 32, 33, 34, 35, 36, 37] (by decide +kernel) (by decide +kernel)
set_option maxRecDepth 20000 in
theorem gX5_difference_X5_exchanges : GoodIn wsX5_difference (wsV RX5 192 RX5 yX5_exchanges wsX5_exchanges) := goodIn_app (goodIn_of _ (by decide +kernel)) ggX5_difference_X5_exchanges
theorem dX5_difference_0 : decode cX5_difference 0 = .ok (.aload_n 0, 1) := by decide +kernel
theorem dX5_difference_1 : decode cX5_difference 1 = .ok (.iload_n 1, 1) := by decide +kernel
theorem dX5_difference_2 : decode cX5_difference 2 = .ok (.invokevirtual 189, 3) := by decide +kernel
theorem dX5_difference_5 : decode cX5_difference 5 = .ok (.istore_n 2, 1) := by decide +kernel
theorem dX5_difference_6 : decode cX5_difference 6 = .ok (.iload_n 2, 1) := by decide +kernel
theorem dX5_difference_7 : decode cX5_difference 7 = .ok (.ifCond .ge 5, 3) := by decide +kernel
theorem dX5_difference_10 : decode cX5_difference 10 = .ok (.iload_n 2, 1) := by decide +kernel
theorem dX5_difference_11 : decode cX5_difference 11 = .ok (.ireturn, 1) := by decide +kernel
theorem dX5_difference_12 : decode cX5_difference 12 = .ok (.iconst 0, 1) := by decide +kernel
theorem dX5_difference_13 : decode cX5_difference 13 = .ok (.istore_n 3, 1) := by decide +kernel
theorem dX5_difference_14 : decode cX5_difference 14 = .ok (.iconst 0, 1) := by decide +kernel
theorem dX5_difference_15 : decode cX5_difference 15 = .ok (.istore 4, 2) := by decide +kernel
theorem dX5_difference_17 : decode cX5_difference 17 = .ok (.iload 4, 2) := by decide +kernel
theorem dX5_difference_19 : decode cX5_difference 19 = .ok (.aload_n 0, 1) := by decide +kernel
theorem dX5_difference_20 : decode cX5_difference 20 = .ok (.getfield 7, 3) := by decide +kernel
theorem dX5_difference_23 : decode cX5_difference 23 = .ok (.iconst 0, 1) := by decide +kernel
theorem dX5_difference_24 : decode cX5_difference 24 = .ok (.iaload, 1) := by decide +kernel
theorem dX5_difference_25 : decode cX5_difference 25 = .ok (.if_icmp .ge 42, 3) := by decide +kernel
theorem dX5_difference_28 : decode cX5_difference 28 = .ok (.aload_n 0, 1) := by decide +kernel
theorem dX5_difference_29 : decode cX5_difference 29 = .ok (.iload 4, 2) := by decide +kernel
theorem dX5_difference_31 : decode cX5_difference 31 = .ok (.aload_n 0, 1) := by decide +kernel
theorem dX5_difference_32 : decode cX5_difference 32 = .ok (.getfield 7, 3) := by decide +kernel
theorem dX5_difference_35 : decode cX5_difference 35 = .ok (.iconst 2, 1) := by decide +kernel
theorem dX5_difference_36 : decode cX5_difference 36 = .ok (.iaload, 1) := by decide +kernel
theorem dX5_difference_37 : decode cX5_difference 37 = .ok (.invokevirtual 43, 3) := by decide +kernel
theorem dX5_difference_40 : decode cX5_difference 40 = .ok (.ifCond .eq 21, 3) := by decide +kernel
theorem dX5_difference_43 : decode cX5_difference 43 = .ok (.aload_n 0, 1) := by decide +kernel
theorem dX5_difference_44 : decode cX5_difference 44 = .ok (.getfield 40, 3) := by decide +kernel
theorem dX5_difference_47 : decode cX5_difference 47 = .ok (.iload_n 3, 1) := by decide +kernel
theorem dX5_difference_48 : decode cX5_difference 48 = .ok (.aload_n 0, 1) := by decide +kernel
theorem dX5_difference_49 : decode cX5_difference 49 = .ok (.getfield 7, 3) := by decide +kernel
theorem dX5_difference_52 : decode cX5_difference 52 = .ok (.iconst 4, 1) := by decide +kernel
theorem dX5_difference_53 : decode cX5_difference 53 = .ok (.iload 4, 2) := by decide +kernel
theorem dX5_difference_55 : decode cX5_difference 55 = .ok (.iadd, 1) := by decide +kernel
theorem dX5_difference_56 : decode cX5_difference 56 = .ok (.iaload, 1) := by decide +kernel
theorem dX5_difference_57 : decode cX5_difference 57 = .ok (.iastore, 1) := by decide +kernel
theorem dX5_difference_58 : decode cX5_difference 58 = .ok (.iinc 3 1, 3) := by decide +kernel
theorem dX5_difference_61 : decode cX5_difference 61 = .ok (.iinc 4 1, 3) := by decide +kernel
theorem dX5_difference_64 : decode cX5_difference 64 = .ok (.goto (-47), 3) := by decide +kernel
theorem dX5_difference_67 : decode cX5_difference 67 = .ok (.aload_n 0, 1) := by decide +kernel
theorem dX5_difference_68 : decode cX5_difference 68 = .ok (.iload_n 1, 1) := by decide +kernel
theorem dX5_difference_69 : decode cX5_difference 69 = .ok (.invokevirtual 192, 3) := by decide +kernel
theorem dX5_difference_72 : decode cX5_difference 72 = .ok (.iconst 0, 1) := by decide +kernel
theorem dX5_difference_73 : decode cX5_difference 73 = .ok (.istore 4, 2) := by decide +kernel
theorem dX5_difference_75 : decode cX5_difference 75 = .ok (.iconst 0, 1) := by decide +kernel
theorem dX5_difference_76 : decode cX5_difference 76 = .ok (.istore 5, 2) := by decide +kernel
theorem dX5_difference_78 : decode cX5_difference 78 = .ok (.iconst 0, 1) := by decide +kernel
theorem dX5_difference_79 : decode cX5_difference 79 = .ok (.istore 6, 2) := by decide +kernel
theorem dX5_difference_81 : decode cX5_difference 81 = .ok (.iload 6, 2) := by decide +kernel
theorem dX5_difference_83 : decode cX5_difference 83 = .ok (.aload_n 0, 1) := by decide +kernel
theorem dX5_difference_84 : decode cX5_difference 84 = .ok (.getfield 7, 3) := by decide +kernel
theorem dX5_difference_87 : decode cX5_difference 87 = .ok (.iconst 0, 1) := by decide +kernel
theorem dX5_difference_88 : decode cX5_difference 88 = .ok (.iaload, 1) := by decide +kernel
theorem dX5_difference_89 : decode cX5_difference 89 = .ok (.if_icmp .ge 62, 3) := by decide +kernel
theorem dX5_difference_92 : decode cX5_difference 92 = .ok (.aload_n 0, 1) := by decide +kernel
theorem dX5_difference_93 : decode cX5_difference 93 = .ok (.iload 6, 2) := by decide +kernel
theorem dX5_difference_95 : decode cX5_difference 95 = .ok (.aload_n 0, 1) := by decide +kernel
theorem dX5_difference_96 : decode cX5_difference 96 = .ok (.getfield 7, 3) := by decide +kernel
theorem dX5_difference_99 : decode cX5_difference 99 = .ok (.iconst 2, 1) := by decide +kernel
theorem dX5_difference_100 : decode cX5_difference 100 = .ok (.iaload, 1) := by decide +kernel
theorem dX5_difference_101 : decode cX5_difference 101 = .ok (.invokevirtual 43, 3) := by decide +kernel
theorem dX5_difference_104 : decode cX5_difference 104 = .ok (.ifCond .eq 41, 3) := by decide +kernel
theorem dX5_difference_107 : decode cX5_difference 107 = .ok (.iload 5, 2) := by decide +kernel
theorem dX5_difference_109 : decode cX5_difference 109 = .ok (.iload 4, 2) := by decide +kernel
theorem dX5_difference_111 : decode cX5_difference 111 = .ok (.iload_n 3, 1) := by decide +kernel
theorem dX5_difference_112 : decode cX5_difference 112 = .ok (.if_icmp .ge 26, 3) := by decide +kernel
theorem dX5_difference_115 : decode cX5_difference 115 = .ok (.aload_n 0, 1) := by decide +kernel
theorem dX5_difference_116 : decode cX5_difference 116 = .ok (.getfield 40, 3) := by decide +kernel
theorem dX5_difference_119 : decode cX5_difference 119 = .ok (.iload 4, 2) := by decide +kernel
theorem dX5_difference_121 : decode cX5_difference 121 = .ok (.iaload, 1) := by decide +kernel
theorem dX5_difference_122 : decode cX5_difference 122 = .ok (.aload_n 0, 1) := by decide +kernel
theorem dX5_difference_123 : decode cX5_difference 123 = .ok (.getfield 7, 3) := by decide +kernel
theorem dX5_difference_126 : decode cX5_difference 126 = .ok (.iconst 4, 1) := by decide +kernel
theorem dX5_difference_127 : decode cX5_difference 127 = .ok (.iload 6, 2) := by decide +kernel
theorem dX5_difference_129 : decode cX5_difference 129 = .ok (.iadd, 1) := by decide +kernel
theorem dX5_difference_130 : decode cX5_difference 130 = .ok (.iaload, 1) := by decide +kernel
theorem dX5_difference_131 : decode cX5_difference 131 = .ok (.if_icmp .eq 7, 3) := by decide +kernel
theorem dX5_difference_134 : decode cX5_difference 134 = .ok (.iconst 1, 1) := by decide +kernel
theorem dX5_difference_135 : decode cX5_difference 135 = .ok (.goto 4, 3) := by decide +kernel
theorem dX5_difference_138 : decode cX5_difference 138 = .ok (.iconst 0, 1) := by decide +kernel
theorem dX5_difference_139 : decode cX5_difference 139 = .ok (.iadd, 1) := by decide +kernel
theorem dX5_difference_140 : decode cX5_difference 140 = .ok (.istore 5, 2) := by decide +kernel
theorem dX5_difference_142 : decode cX5_difference 142 = .ok (.iinc 4 1, 3) := by decide +kernel
theorem dX5_difference_145 : decode cX5_difference 145 = .ok (.iinc 6 1, 3) := by decide +kernel
theorem dX5_difference_148 : decode cX5_difference 148 = .ok (.goto (-67), 3) := by decide +kernel
theorem dX5_difference_151 : decode cX5_difference 151 = .ok (.aload_n 0, 1) := by decide +kernel
theorem dX5_difference_152 : decode cX5_difference 152 = .ok (.iload_n 1, 1) := by decide +kernel
theorem dX5_difference_153 : decode cX5_difference 153 = .ok (.invokevirtual 192, 3) := by decide +kernel
theorem dX5_difference_156 : decode cX5_difference 156 = .ok (.iload 5, 2) := by decide +kernel
theorem dX5_difference_158 : decode cX5_difference 158 = .ok (.iload_n 3, 1) := by decide +kernel
theorem dX5_difference_159 : decode cX5_difference 159 = .ok (.iload 4, 2) := by decide +kernel
theorem dX5_difference_161 : decode cX5_difference 161 = .ok (.if_icmp .le 10, 3) := by decide +kernel
theorem dX5_difference_164 : decode cX5_difference 164 = .ok (.iload_n 3, 1) := by decide +kernel
theorem dX5_difference_165 : decode cX5_difference 165 = .ok (.iload 4, 2) := by decide +kernel
theorem dX5_difference_167 : decode cX5_difference 167 = .ok (.isub, 1) := by decide +kernel
theorem dX5_difference_168 : decode cX5_difference 168 = .ok (.goto 7, 3) := by decide +kernel
theorem dX5_difference_171 : decode cX5_difference 171 = .ok (.iload 4, 2) := by decide +kernel
theorem dX5_difference_173 : decode cX5_difference 173 = .ok (.iload_n 3, 1) := by decide +kernel
theorem dX5_difference_174 : decode cX5_difference 174 = .ok (.isub, 1) := by decide +kernel
theorem dX5_difference_175 : decode cX5_difference 175 = .ok (.iadd, 1) := by decide +kernel
theorem dX5_difference_176 : decode cX5_difference 176 = .ok (.ireturn, 1) := by decide +kernel
