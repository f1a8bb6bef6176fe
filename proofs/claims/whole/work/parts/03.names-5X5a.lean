theorem dX5_init_0 : decode cX5_init 0 = .ok (.aload_n 0, 1) := by decide +kernel
theorem dX5_init_1 : decode cX5_init 1 = .ok (.invokespecial 1, 3) := by decide +kernel
theorem dX5_init_4 : decode cX5_init 4 = .ok (.aload_n 0, 1) := by decide +kernel
theorem dX5_init_5 : decode cX5_init 5 = .ok (.sipush 516, 3) := by decide +kernel
theorem dX5_init_8 : decode cX5_init 8 = .ok (.newarray .int, 2) := by decide +kernel
theorem dX5_init_10 : decode cX5_init 10 = .ok (.putfield 7, 3) := by decide +kernel
theorem dX5_init_13 : decode cX5_init 13 = .ok (.aload_n 0, 1) := by decide +kernel
theorem dX5_init_14 : decode cX5_init 14 = .ok (.sipush 1032, 3) := by decide +kernel
theorem dX5_init_17 : decode cX5_init 17 = .ok (.newarray .int, 2) := by decide +kernel
theorem dX5_init_19 : decode cX5_init 19 = .ok (.putfield 13, 3) := by decide +kernel
theorem dX5_init_22 : decode cX5_init 22 = .ok (.aload_n 0, 1) := by decide +kernel
theorem dX5_init_23 : decode cX5_init 23 = .ok (.iconst 2, 1) := by decide +kernel
theorem dX5_init_24 : decode cX5_init 24 = .ok (.newarray .boolean, 2) := by decide +kernel
theorem dX5_init_26 : decode cX5_init 26 = .ok (.putfield 16, 3) := by decide +kernel
theorem dX5_init_29 : decode cX5_init 29 = .ok (.aload_n 0, 1) := by decide +kernel
theorem dX5_init_30 : decode cX5_init 30 = .ok (.iconst 1, 1) := by decide +kernel
theorem dX5_init_31 : decode cX5_init 31 = .ok (.putfield 20, 3) := by decide +kernel
theorem dX5_init_34 : decode cX5_init 34 = .ok (.aload_n 0, 1) := by decide +kernel
theorem dX5_init_35 : decode cX5_init 35 = .ok (.iconst 1, 1) := by decide +kernel
theorem dX5_init_36 : decode cX5_init 36 = .ok (.putfield 24, 3) := by decide +kernel
theorem dX5_init_39 : decode cX5_init 39 = .ok (.aload_n 0, 1) := by decide +kernel
theorem dX5_init_40 : decode cX5_init 40 = .ok (.bipush 60, 2) := by decide +kernel
theorem dX5_init_42 : decode cX5_init 42 = .ok (.newarray .byte, 2) := by decide +kernel
theorem dX5_init_44 : decode cX5_init 44 = .ok (.putfield 27, 3) := by decide +kernel
theorem dX5_init_47 : decode cX5_init 47 = .ok (.aload_n 0, 1) := by decide +kernel
theorem dX5_init_48 : decode cX5_init 48 = .ok (.bipush 80, 2) := by decide +kernel
theorem dX5_init_50 : decode cX5_init 50 = .ok (.newarray .byte, 2) := by decide +kernel
theorem dX5_init_52 : decode cX5_init 52 = .ok (.putfield 31, 3) := by decide +kernel
theorem dX5_init_55 : decode cX5_init 55 = .ok (.aload_n 0, 1) := by decide +kernel
theorem dX5_init_56 : decode cX5_init 56 = .ok (.bipush 16, 2) := by decide +kernel
theorem dX5_init_58 : decode cX5_init 58 = .ok (.newarray .int, 2) := by decide +kernel
theorem dX5_init_60 : decode cX5_init 60 = .ok (.putfield 34, 3) := by decide +kernel
theorem dX5_init_63 : decode cX5_init 63 = .ok (.aload_n 0, 1) := by decide +kernel
theorem dX5_init_64 : decode cX5_init 64 = .ok (.bipush 16, 2) := by decide +kernel
theorem dX5_init_66 : decode cX5_init 66 = .ok (.newarray .int, 2) := by decide +kernel
theorem dX5_init_68 : decode cX5_init 68 = .ok (.putfield 37, 3) := by decide +kernel
theorem dX5_init_71 : decode cX5_init 71 = .ok (.aload_n 0, 1) := by decide +kernel
theorem dX5_init_72 : decode cX5_init 72 = .ok (.bipush 60, 2) := by decide +kernel
theorem dX5_init_74 : decode cX5_init 74 = .ok (.newarray .int, 2) := by decide +kernel
theorem dX5_init_76 : decode cX5_init 76 = .ok (.putfield 40, 3) := by decide +kernel
theorem dX5_init_79 : decode cX5_init 79 = .ok (.return_, 1) := by decide +kernel
theorem dX5_in_0 : decode cX5_in 0 = .ok (.iload_n 0, 1) := by decide +kernel
theorem dX5_in_1 : decode cX5_in 1 = .ok (.iload_n 1, 1) := by decide +kernel
theorem dX5_in_2 : decode cX5_in 2 = .ok (.if_icmp .lt 12, 3) := by decide +kernel
theorem dX5_in_5 : decode cX5_in 5 = .ok (.iload_n 0, 1) := by decide +kernel
theorem dX5_in_6 : decode cX5_in 6 = .ok (.iload_n 2, 1) := by decide +kernel
theorem dX5_in_7 : decode cX5_in 7 = .ok (.if_icmp .gt 7, 3) := by decide +kernel
theorem dX5_in_10 : decode cX5_in 10 = .ok (.iconst 1, 1) := by decide +kernel
theorem dX5_in_11 : decode cX5_in 11 = .ok (.goto 4, 3) := by decide +kernel
theorem dX5_in_14 : decode cX5_in 14 = .ok (.iconst 0, 1) := by decide +kernel
theorem dX5_in_15 : decode cX5_in 15 = .ok (.ireturn, 1) := by decide +kernel
theorem dX5_bits_0 : decode cX5_bits 0 = .ok (.iconst 0, 1) := by decide +kernel
theorem dX5_bits_1 : decode cX5_bits 1 = .ok (.istore_n 1, 1) := by decide +kernel
theorem dX5_bits_2 : decode cX5_bits 2 = .ok (.iconst 0, 1) := by decide +kernel
theorem dX5_bits_3 : decode cX5_bits 3 = .ok (.istore_n 2, 1) := by decide +kernel
theorem dX5_bits_4 : decode cX5_bits 4 = .ok (.iload_n 2, 1) := by decide +kernel
theorem dX5_bits_5 : decode cX5_bits 5 = .ok (.bipush 16, 2) := by decide +kernel
theorem dX5_bits_7 : decode cX5_bits 7 = .ok (.if_icmp .ge 17, 3) := by decide +kernel
theorem dX5_bits_10 : decode cX5_bits 10 = .ok (.iload_n 1, 1) := by decide +kernel
theorem dX5_bits_11 : decode cX5_bits 11 = .ok (.iload_n 0, 1) := by decide +kernel
theorem dX5_bits_12 : decode cX5_bits 12 = .ok (.iload_n 2, 1) := by decide +kernel
theorem dX5_bits_13 : decode cX5_bits 13 = .ok (.ishr, 1) := by decide +kernel
theorem dX5_bits_14 : decode cX5_bits 14 = .ok (.iconst 1, 1) := by decide +kernel
theorem dX5_bits_15 : decode cX5_bits 15 = .ok (.iand, 1) := by decide +kernel
theorem dX5_bits_16 : decode cX5_bits 16 = .ok (.iadd, 1) := by decide +kernel
theorem dX5_bits_17 : decode cX5_bits 17 = .ok (.istore_n 1, 1) := by decide +kernel
theorem dX5_bits_18 : decode cX5_bits 18 = .ok (.iinc 2 1, 3) := by decide +kernel
theorem dX5_bits_21 : decode cX5_bits 21 = .ok (.goto (-17), 3) := by decide +kernel
theorem dX5_bits_24 : decode cX5_bits 24 = .ok (.iload_n 1, 1) := by decide +kernel
theorem dX5_bits_25 : decode cX5_bits 25 = .ok (.ireturn, 1) := by decide +kernel
theorem dX5_isVisible_0 : decode cX5_isVisible 0 = .ok (.aload_n 0, 1) := by decide +kernel
theorem dX5_isVisible_1 : decode cX5_isVisible 1 = .ok (.getfield 7, 3) := by decide +kernel
theorem dX5_isVisible_4 : decode cX5_isVisible 4 = .ok (.sipush 164, 3) := by decide +kernel
theorem dX5_isVisible_7 : decode cX5_isVisible 7 = .ok (.iload_n 1, 1) := by decide +kernel
theorem dX5_isVisible_8 : decode cX5_isVisible 8 = .ok (.iadd, 1) := by decide +kernel
theorem dX5_isVisible_9 : decode cX5_isVisible 9 = .ok (.iaload, 1) := by decide +kernel
theorem dX5_isVisible_10 : decode cX5_isVisible 10 = .ok (.istore_n 3, 1) := by decide +kernel
theorem dX5_isVisible_11 : decode cX5_isVisible 11 = .ok (.iload_n 3, 1) := by decide +kernel
theorem dX5_isVisible_12 : decode cX5_isVisible 12 = .ok (.iconst (-1), 1) := by decide +kernel
theorem dX5_isVisible_13 : decode cX5_isVisible 13 = .ok (.if_icmp .eq 12, 3) := by decide +kernel
theorem dX5_isVisible_16 : decode cX5_isVisible 16 = .ok (.iload_n 2, 1) := by decide +kernel
theorem dX5_isVisible_17 : decode cX5_isVisible 17 = .ok (.iload_n 3, 1) := by decide +kernel
theorem dX5_isVisible_18 : decode cX5_isVisible 18 = .ok (.ishr, 1) := by decide +kernel
theorem dX5_isVisible_19 : decode cX5_isVisible 19 = .ok (.iconst 1, 1) := by decide +kernel
theorem dX5_isVisible_20 : decode cX5_isVisible 20 = .ok (.iand, 1) := by decide +kernel
theorem dX5_isVisible_21 : decode cX5_isVisible 21 = .ok (.iconst 1, 1) := by decide +kernel
theorem dX5_isVisible_22 : decode cX5_isVisible 22 = .ok (.if_icmp .ne 22, 3) := by decide +kernel
theorem dX5_isVisible_25 : decode cX5_isVisible 25 = .ok (.aload_n 0, 1) := by decide +kernel
theorem dX5_isVisible_26 : decode cX5_isVisible 26 = .ok (.getfield 7, 3) := by decide +kernel
theorem dX5_isVisible_29 : decode cX5_isVisible 29 = .ok (.sipush 324, 3) := by decide +kernel
theorem dX5_isVisible_32 : decode cX5_isVisible 32 = .ok (.iload_n 1, 1) := by decide +kernel
theorem dX5_isVisible_33 : decode cX5_isVisible 33 = .ok (.iadd, 1) := by decide +kernel
theorem dX5_isVisible_34 : decode cX5_isVisible 34 = .ok (.iaload, 1) := by decide +kernel
theorem dX5_isVisible_35 : decode cX5_isVisible 35 = .ok (.iload_n 2, 1) := by decide +kernel
theorem dX5_isVisible_36 : decode cX5_isVisible 36 = .ok (.iand, 1) := by decide +kernel
theorem dX5_isVisible_37 : decode cX5_isVisible 37 = .ok (.ifCond .ne 7, 3) := by decide +kernel
theorem dX5_isVisible_40 : decode cX5_isVisible 40 = .ok (.iconst 1, 1) := by decide +kernel
theorem dX5_isVisible_41 : decode cX5_isVisible 41 = .ok (.goto 4, 3) := by decide +kernel
theorem dX5_isVisible_44 : decode cX5_isVisible 44 = .ok (.iconst 0, 1) := by decide +kernel
theorem dX5_isVisible_45 : decode cX5_isVisible 45 = .ok (.ireturn, 1) := by decide +kernel
set_option maxRecDepth 20000 in
theorem ggX5_lengthBy_X5_isVisible : GoodIn wsX5_lengthBy wsX5_isVisible := goodIn_r _ [6, 1, 7, 8, 9, 10, 11, 12, 13, 14, 15, 16, 17, 18, 19, 20, 21, 22, 23] (by decide +kernel) (by decide +kernel)
set_option maxRecDepth 20000 in
theorem gX5_lengthBy_X5_isVisible : GoodIn wsX5_lengthBy (wsV RX5 43 RX5 yX5_isVisible wsX5_isVisible) := goodIn_app (goodIn_of _ (by decide +kernel)) ggX5_lengthBy_X5_isVisible
theorem dX5_lengthBy_0 : decode cX5_lengthBy 0 = .ok (.iconst 0, 1) := by decide +kernel
theorem dX5_lengthBy_1 : decode cX5_lengthBy 1 = .ok (.istore_n 2, 1) := by decide +kernel
theorem dX5_lengthBy_2 : decode cX5_lengthBy 2 = .ok (.iconst 0, 1) := by decide +kernel
theorem dX5_lengthBy_3 : decode cX5_lengthBy 3 = .ok (.istore_n 3, 1) := by decide +kernel
theorem dX5_lengthBy_4 : decode cX5_lengthBy 4 = .ok (.iload_n 3, 1) := by decide +kernel
theorem dX5_lengthBy_5 : decode cX5_lengthBy 5 = .ok (.aload_n 0, 1) := by decide +kernel
theorem dX5_lengthBy_6 : decode cX5_lengthBy 6 = .ok (.getfield 7, 3) := by decide +kernel
theorem dX5_lengthBy_9 : decode cX5_lengthBy 9 = .ok (.iconst 0, 1) := by decide +kernel
theorem dX5_lengthBy_10 : decode cX5_lengthBy 10 = .ok (.iaload, 1) := by decide +kernel
theorem dX5_lengthBy_11 : decode cX5_lengthBy 11 = .ok (.if_icmp .ge 26, 3) := by decide +kernel
theorem dX5_lengthBy_14 : decode cX5_lengthBy 14 = .ok (.iload_n 2, 1) := by decide +kernel
theorem dX5_lengthBy_15 : decode cX5_lengthBy 15 = .ok (.aload_n 0, 1) := by decide +kernel
theorem dX5_lengthBy_16 : decode cX5_lengthBy 16 = .ok (.iload_n 3, 1) := by decide +kernel
theorem dX5_lengthBy_17 : decode cX5_lengthBy 17 = .ok (.iload_n 1, 1) := by decide +kernel
theorem dX5_lengthBy_18 : decode cX5_lengthBy 18 = .ok (.invokevirtual 43, 3) := by decide +kernel
theorem dX5_lengthBy_21 : decode cX5_lengthBy 21 = .ok (.ifCond .eq 7, 3) := by decide +kernel
theorem dX5_lengthBy_24 : decode cX5_lengthBy 24 = .ok (.iconst 1, 1) := by decide +kernel
theorem dX5_lengthBy_25 : decode cX5_lengthBy 25 = .ok (.goto 4, 3) := by decide +kernel
theorem dX5_lengthBy_28 : decode cX5_lengthBy 28 = .ok (.iconst 0, 1) := by decide +kernel
theorem dX5_lengthBy_29 : decode cX5_lengthBy 29 = .ok (.iadd, 1) := by decide +kernel
theorem dX5_lengthBy_30 : decode cX5_lengthBy 30 = .ok (.istore_n 2, 1) := by decide +kernel
theorem dX5_lengthBy_31 : decode cX5_lengthBy 31 = .ok (.iinc 3 1, 3) := by decide +kernel
theorem dX5_lengthBy_34 : decode cX5_lengthBy 34 = .ok (.goto (-30), 3) := by decide +kernel
theorem dX5_lengthBy_37 : decode cX5_lengthBy 37 = .ok (.iload_n 2, 1) := by decide +kernel
theorem dX5_lengthBy_38 : decode cX5_lengthBy 38 = .ok (.ireturn, 1) := by decide +kernel
set_option maxRecDepth 20000 in
theorem ggX5_length_X5_lengthBy : GoodIn wsX5_length wsX5_lengthBy := goodIn_r _ [6, 1, 7, 8, 9, 5, 10, 11, 12, 13, 14, 15, 16, 17, 18, 19, 20, 21, 22, 23, 24, 25, 26, 27] (by decide +kernel) (by decide +kernel)
set_option maxRecDepth 20000 in
theorem gX5_length_X5_lengthBy : GoodIn wsX5_length (wsV RX5 47 RX5 yX5_lengthBy wsX5_lengthBy) := goodIn_app (goodIn_of _ (by decide +kernel)) ggX5_length_X5_lengthBy
theorem dX5_length_0 : decode cX5_length 0 = .ok (.aload_n 0, 1) := by decide +kernel
theorem dX5_length_1 : decode cX5_length 1 = .ok (.aload_n 0, 1) := by decide +kernel
theorem dX5_length_2 : decode cX5_length 2 = .ok (.getfield 7, 3) := by decide +kernel
theorem dX5_length_5 : decode cX5_length 5 = .ok (.iconst 2, 1) := by decide +kernel
theorem dX5_length_6 : decode cX5_length 6 = .ok (.iaload, 1) := by decide +kernel
theorem dX5_length_7 : decode cX5_length 7 = .ok (.invokevirtual 47, 3) := by decide +kernel
theorem dX5_length_10 : decode cX5_length 10 = .ok (.ireturn, 1) := by decide +kernel
set_option maxRecDepth 20000 in
theorem ggX5_ahead_X5_isVisible : GoodIn wsX5_ahead wsX5_isVisible := goodIn_r _ [5, 6, 7, 8, 9, 10, 11, 12, 13, 14, 15, 16, 17, 18, 19, 20, 21, 22, 23] (by decide +kernel) (by decide +kernel)
set_option maxRecDepth 20000 in
theorem gX5_ahead_X5_isVisible : GoodIn wsX5_ahead (wsV RX5 43 RX5 yX5_isVisible wsX5_isVisible) := goodIn_app (goodIn_of _ (by decide +kernel)) ggX5_ahead_X5_isVisible
theorem dX5_ahead_0 : decode cX5_ahead 0 = .ok (.iconst 0, 1) := by decide +kernel
theorem dX5_ahead_1 : decode cX5_ahead 1 = .ok (.istore_n 3, 1) := by decide +kernel
theorem dX5_ahead_2 : decode cX5_ahead 2 = .ok (.iconst 0, 1) := by decide +kernel
theorem dX5_ahead_3 : decode cX5_ahead 3 = .ok (.istore 4, 2) := by decide +kernel
theorem dX5_ahead_5 : decode cX5_ahead 5 = .ok (.iload 4, 2) := by decide +kernel
theorem dX5_ahead_7 : decode cX5_ahead 7 = .ok (.iload_n 1, 1) := by decide +kernel
theorem dX5_ahead_8 : decode cX5_ahead 8 = .ok (.if_icmp .ge 27, 3) := by decide +kernel
theorem dX5_ahead_11 : decode cX5_ahead 11 = .ok (.iload_n 3, 1) := by decide +kernel
theorem dX5_ahead_12 : decode cX5_ahead 12 = .ok (.aload_n 0, 1) := by decide +kernel
theorem dX5_ahead_13 : decode cX5_ahead 13 = .ok (.iload 4, 2) := by decide +kernel
theorem dX5_ahead_15 : decode cX5_ahead 15 = .ok (.iload_n 2, 1) := by decide +kernel
theorem dX5_ahead_16 : decode cX5_ahead 16 = .ok (.invokevirtual 43, 3) := by decide +kernel
theorem dX5_ahead_19 : decode cX5_ahead 19 = .ok (.ifCond .eq 7, 3) := by decide +kernel
theorem dX5_ahead_22 : decode cX5_ahead 22 = .ok (.iconst 1, 1) := by decide +kernel
theorem dX5_ahead_23 : decode cX5_ahead 23 = .ok (.goto 4, 3) := by decide +kernel
theorem dX5_ahead_26 : decode cX5_ahead 26 = .ok (.iconst 0, 1) := by decide +kernel
theorem dX5_ahead_27 : decode cX5_ahead 27 = .ok (.iadd, 1) := by decide +kernel
theorem dX5_ahead_28 : decode cX5_ahead 28 = .ok (.istore_n 3, 1) := by decide +kernel
theorem dX5_ahead_29 : decode cX5_ahead 29 = .ok (.iinc 4 1, 3) := by decide +kernel
theorem dX5_ahead_32 : decode cX5_ahead 32 = .ok (.goto (-27), 3) := by decide +kernel
theorem dX5_ahead_35 : decode cX5_ahead 35 = .ok (.iload_n 3, 1) := by decide +kernel
theorem dX5_ahead_36 : decode cX5_ahead 36 = .ok (.ireturn, 1) := by decide +kernel
set_option maxRecDepth 20000 in
theorem ggX5_at_X5_isVisible : GoodIn wsX5_at wsX5_isVisible := goodIn_r _ [6, 1, 7, 8, 9, 10, 11, 12, 13, 14, 15, 16, 17, 18, 19, 20, 21, 22, 23] (by decide +kernel) (by decide +kernel)
set_option maxRecDepth 20000 in
theorem gX5_at_X5_isVisible : GoodIn wsX5_at (wsV RX5 43 RX5 yX5_isVisible wsX5_isVisible) := goodIn_app (goodIn_of _ (by decide +kernel)) ggX5_at_X5_isVisible
theorem dX5_at_0 : decode cX5_at 0 = .ok (.iload_n 1, 1) := by decide +kernel
theorem dX5_at_1 : decode cX5_at 1 = .ok (.istore_n 2, 1) := by decide +kernel
theorem dX5_at_2 : decode cX5_at 2 = .ok (.iconst 0, 1) := by decide +kernel
theorem dX5_at_3 : decode cX5_at 3 = .ok (.istore_n 3, 1) := by decide +kernel
theorem dX5_at_4 : decode cX5_at 4 = .ok (.iload_n 3, 1) := by decide +kernel
theorem dX5_at_5 : decode cX5_at 5 = .ok (.aload_n 0, 1) := by decide +kernel
theorem dX5_at_6 : decode cX5_at 6 = .ok (.getfield 7, 3) := by decide +kernel
theorem dX5_at_9 : decode cX5_at 9 = .ok (.iconst 0, 1) := by decide +kernel
theorem dX5_at_10 : decode cX5_at 10 = .ok (.iaload, 1) := by decide +kernel
theorem dX5_at_11 : decode cX5_at 11 = .ok (.if_icmp .ge 32, 3) := by decide +kernel
theorem dX5_at_14 : decode cX5_at 14 = .ok (.aload_n 0, 1) := by decide +kernel
theorem dX5_at_15 : decode cX5_at 15 = .ok (.iload_n 3, 1) := by decide +kernel
theorem dX5_at_16 : decode cX5_at 16 = .ok (.aload_n 0, 1) := by decide +kernel
theorem dX5_at_17 : decode cX5_at 17 = .ok (.getfield 7, 3) := by decide +kernel
theorem dX5_at_20 : decode cX5_at 20 = .ok (.iconst 2, 1) := by decide +kernel
theorem dX5_at_21 : decode cX5_at 21 = .ok (.iaload, 1) := by decide +kernel
theorem dX5_at_22 : decode cX5_at 22 = .ok (.invokevirtual 43, 3) := by decide +kernel
theorem dX5_at_25 : decode cX5_at 25 = .ok (.ifCond .eq 12, 3) := by decide +kernel
theorem dX5_at_28 : decode cX5_at 28 = .ok (.iload_n 2, 1) := by decide +kernel
theorem dX5_at_29 : decode cX5_at 29 = .ok (.ifCond .ne 5, 3) := by decide +kernel
theorem dX5_at_32 : decode cX5_at 32 = .ok (.iload_n 3, 1) := by decide +kernel
theorem dX5_at_33 : decode cX5_at 33 = .ok (.ireturn, 1) := by decide +kernel
theorem dX5_at_34 : decode cX5_at 34 = .ok (.iinc 2 (-1), 3) := by decide +kernel
theorem dX5_at_37 : decode cX5_at 37 = .ok (.iinc 3 1, 3) := by decide +kernel
theorem dX5_at_40 : decode cX5_at 40 = .ok (.goto (-36), 3) := by decide +kernel
theorem dX5_at_43 : decode cX5_at 43 = .ok (.bipush (-9), 2) := by decide +kernel
theorem dX5_at_45 : decode cX5_at 45 = .ok (.ireturn, 1) := by decide +kernel
set_option maxRecDepth 20000 in
theorem ggX5_cutsCursor_X5_length : GoodIn wsX5_cutsCursor wsX5_length := goodIn_r _ [6, 1, 7, 8, 9, 5, 10, 11, 12, 13, 14, 15, 16, 17, 18, 19, 20, 21, 22, 23, 24, 25, 26, 27, 28, 29, 30, 31] (by decide +kernel) (by decide +kernel)
set_option maxRecDepth 20000 in
theorem gX5_cutsCursor_X5_length : GoodIn wsX5_cutsCursor (wsV RX5 51 RX5 yX5_length wsX5_length) := goodIn_app (goodIn_of _ (by decide +kernel)) ggX5_cutsCursor_X5_length
theorem dX5_cutsCursor_0 : decode cX5_cutsCursor 0 = .ok (.aload_n 0, 1) := by decide +kernel
theorem dX5_cutsCursor_1 : decode cX5_cutsCursor 1 = .ok (.invokevirtual 51, 3) := by decide +kernel
theorem dX5_cutsCursor_4 : decode cX5_cutsCursor 4 = .ok (.istore_n 1, 1) := by decide +kernel
theorem dX5_cutsCursor_5 : decode cX5_cutsCursor 5 = .ok (.aload_n 0, 1) := by decide +kernel
theorem dX5_cutsCursor_6 : decode cX5_cutsCursor 6 = .ok (.getfield 7, 3) := by decide +kernel
theorem dX5_cutsCursor_9 : decode cX5_cutsCursor 9 = .ok (.iconst 3, 1) := by decide +kernel
theorem dX5_cutsCursor_10 : decode cX5_cutsCursor 10 = .ok (.aload_n 0, 1) := by decide +kernel
theorem dX5_cutsCursor_11 : decode cX5_cutsCursor 11 = .ok (.getfield 7, 3) := by decide +kernel
theorem dX5_cutsCursor_14 : decode cX5_cutsCursor 14 = .ok (.iconst 3, 1) := by decide +kernel
theorem dX5_cutsCursor_15 : decode cX5_cutsCursor 15 = .ok (.iaload, 1) := by decide +kernel
theorem dX5_cutsCursor_16 : decode cX5_cutsCursor 16 = .ok (.iload_n 1, 1) := by decide +kernel
theorem dX5_cutsCursor_17 : decode cX5_cutsCursor 17 = .ok (.if_icmp .le 7, 3) := by decide +kernel
theorem dX5_cutsCursor_20 : decode cX5_cutsCursor 20 = .ok (.iload_n 1, 1) := by decide +kernel
theorem dX5_cutsCursor_21 : decode cX5_cutsCursor 21 = .ok (.goto 9, 3) := by decide +kernel
theorem dX5_cutsCursor_24 : decode cX5_cutsCursor 24 = .ok (.aload_n 0, 1) := by decide +kernel
theorem dX5_cutsCursor_25 : decode cX5_cutsCursor 25 = .ok (.getfield 7, 3) := by decide +kernel
theorem dX5_cutsCursor_28 : decode cX5_cutsCursor 28 = .ok (.iconst 3, 1) := by decide +kernel
theorem dX5_cutsCursor_29 : decode cX5_cutsCursor 29 = .ok (.iaload, 1) := by decide +kernel
theorem dX5_cutsCursor_30 : decode cX5_cutsCursor 30 = .ok (.iastore, 1) := by decide +kernel
theorem dX5_cutsCursor_31 : decode cX5_cutsCursor 31 = .ok (.return_, 1) := by decide +kernel
set_option maxRecDepth 20000 in
theorem ggX5_isEdit_X5_in : GoodIn wsX5_isEdit wsX5_in := goodIn_r _ [5] (by decide +kernel) (by decide +kernel)
set_option maxRecDepth 20000 in
theorem gX5_isEdit_X5_in : GoodIn wsX5_isEdit (va_wsS RX5 55 yX5_in wsX5_in) := goodIn_app (goodIn_of _ (by decide +kernel)) ggX5_isEdit_X5_in
theorem dX5_isEdit_0 : decode cX5_isEdit 0 = .ok (.iload_n 1, 1) := by decide +kernel
theorem dX5_isEdit_1 : decode cX5_isEdit 1 = .ok (.iconst 0, 1) := by decide +kernel
theorem dX5_isEdit_2 : decode cX5_isEdit 2 = .ok (.aload_n 0, 1) := by decide +kernel
theorem dX5_isEdit_3 : decode cX5_isEdit 3 = .ok (.getfield 7, 3) := by decide +kernel
theorem dX5_isEdit_6 : decode cX5_isEdit 6 = .ok (.iconst 1, 1) := by decide +kernel
theorem dX5_isEdit_7 : decode cX5_isEdit 7 = .ok (.iaload, 1) := by decide +kernel
theorem dX5_isEdit_8 : decode cX5_isEdit 8 = .ok (.iconst 1, 1) := by decide +kernel
theorem dX5_isEdit_9 : decode cX5_isEdit 9 = .ok (.isub, 1) := by decide +kernel
theorem dX5_isEdit_10 : decode cX5_isEdit 10 = .ok (.invokestatic 55, 3) := by decide +kernel
theorem dX5_isEdit_13 : decode cX5_isEdit 13 = .ok (.ireturn, 1) := by decide +kernel
theorem dX5_isActive_0 : decode cX5_isActive 0 = .ok (.aload_n 0, 1) := by decide +kernel
theorem dX5_isActive_1 : decode cX5_isActive 1 = .ok (.getfield 7, 3) := by decide +kernel
theorem dX5_isActive_4 : decode cX5_isActive 4 = .ok (.iconst 2, 1) := by decide +kernel
theorem dX5_isActive_5 : decode cX5_isActive 5 = .ok (.iaload, 1) := by decide +kernel
theorem dX5_isActive_6 : decode cX5_isActive 6 = .ok (.iload_n 1, 1) := by decide +kernel
theorem dX5_isActive_7 : decode cX5_isActive 7 = .ok (.ishr, 1) := by decide +kernel
theorem dX5_isActive_8 : decode cX5_isActive 8 = .ok (.iconst 1, 1) := by decide +kernel
theorem dX5_isActive_9 : decode cX5_isActive 9 = .ok (.iand, 1) := by decide +kernel
theorem dX5_isActive_10 : decode cX5_isActive 10 = .ok (.iconst 1, 1) := by decide +kernel
theorem dX5_isActive_11 : decode cX5_isActive 11 = .ok (.if_icmp .ne 7, 3) := by decide +kernel
theorem dX5_isActive_14 : decode cX5_isActive 14 = .ok (.iconst 1, 1) := by decide +kernel
theorem dX5_isActive_15 : decode cX5_isActive 15 = .ok (.goto 4, 3) := by decide +kernel
theorem dX5_isActive_18 : decode cX5_isActive 18 = .ok (.iconst 0, 1) := by decide +kernel
theorem dX5_isActive_19 : decode cX5_isActive 19 = .ok (.ireturn, 1) := by decide +kernel
theorem dX5_findsRests_0 : decode cX5_findsRests 0 = .ok (.iconst 0, 1) := by decide +kernel
theorem dX5_findsRests_1 : decode cX5_findsRests 1 = .ok (.istore_n 1, 1) := by decide +kernel
theorem dX5_findsRests_2 : decode cX5_findsRests 2 = .ok (.iload_n 1, 1) := by decide +kernel
theorem dX5_findsRests_3 : decode cX5_findsRests 3 = .ok (.aload_n 0, 1) := by decide +kernel
theorem dX5_findsRests_4 : decode cX5_findsRests 4 = .ok (.getfield 7, 3) := by decide +kernel
theorem dX5_findsRests_7 : decode cX5_findsRests 7 = .ok (.iconst 1, 1) := by decide +kernel
theorem dX5_findsRests_8 : decode cX5_findsRests 8 = .ok (.iaload, 1) := by decide +kernel
theorem dX5_findsRests_9 : decode cX5_findsRests 9 = .ok (.if_icmp .ge 182, 3) := by decide +kernel
theorem dX5_findsRests_12 : decode cX5_findsRests 12 = .ok (.aload_n 0, 1) := by decide +kernel
theorem dX5_findsRests_13 : decode cX5_findsRests 13 = .ok (.getfield 7, 3) := by decide +kernel
theorem dX5_findsRests_16 : decode cX5_findsRests 16 = .ok (.sipush 484, 3) := by decide +kernel
theorem dX5_findsRests_19 : decode cX5_findsRests 19 = .ok (.iload_n 1, 1) := by decide +kernel
theorem dX5_findsRests_20 : decode cX5_findsRests 20 = .ok (.iadd, 1) := by decide +kernel
theorem dX5_findsRests_21 : decode cX5_findsRests 21 = .ok (.iaload, 1) := by decide +kernel
theorem dX5_findsRests_22 : decode cX5_findsRests 22 = .ok (.ifCond .ne 32, 3) := by decide +kernel
theorem dX5_findsRests_25 : decode cX5_findsRests 25 = .ok (.aload_n 0, 1) := by decide +kernel
theorem dX5_findsRests_26 : decode cX5_findsRests 26 = .ok (.getfield 7, 3) := by decide +kernel
theorem dX5_findsRests_29 : decode cX5_findsRests 29 = .ok (.sipush 500, 3) := by decide +kernel
theorem dX5_findsRests_32 : decode cX5_findsRests 32 = .ok (.iload_n 1, 1) := by decide +kernel
theorem dX5_findsRests_33 : decode cX5_findsRests 33 = .ok (.iadd, 1) := by decide +kernel
theorem dX5_findsRests_34 : decode cX5_findsRests 34 = .ok (.iaload, 1) := by decide +kernel
theorem dX5_findsRests_35 : decode cX5_findsRests 35 = .ok (.iconst (-1), 1) := by decide +kernel
theorem dX5_findsRests_36 : decode cX5_findsRests 36 = .ok (.if_icmp .eq 18, 3) := by decide +kernel
theorem dX5_findsRests_39 : decode cX5_findsRests 39 = .ok (.iconst 1, 1) := by decide +kernel
theorem dX5_findsRests_40 : decode cX5_findsRests 40 = .ok (.aload_n 0, 1) := by decide +kernel
theorem dX5_findsRests_41 : decode cX5_findsRests 41 = .ok (.getfield 7, 3) := by decide +kernel
theorem dX5_findsRests_44 : decode cX5_findsRests 44 = .ok (.sipush 500, 3) := by decide +kernel
theorem dX5_findsRests_47 : decode cX5_findsRests 47 = .ok (.iload_n 1, 1) := by decide +kernel
theorem dX5_findsRests_48 : decode cX5_findsRests 48 = .ok (.iadd, 1) := by decide +kernel
theorem dX5_findsRests_49 : decode cX5_findsRests 49 = .ok (.iaload, 1) := by decide +kernel
theorem dX5_findsRests_50 : decode cX5_findsRests 50 = .ok (.ishl, 1) := by decide +kernel
theorem dX5_findsRests_51 : decode cX5_findsRests 51 = .ok (.goto 4, 3) := by decide +kernel
theorem dX5_findsRests_54 : decode cX5_findsRests 54 = .ok (.iconst 0, 1) := by decide +kernel
theorem dX5_findsRests_55 : decode cX5_findsRests 55 = .ok (.istore_n 2, 1) := by decide +kernel
theorem dX5_findsRests_56 : decode cX5_findsRests 56 = .ok (.iconst 0, 1) := by decide +kernel
theorem dX5_findsRests_57 : decode cX5_findsRests 57 = .ok (.istore_n 3, 1) := by decide +kernel
theorem dX5_findsRests_58 : decode cX5_findsRests 58 = .ok (.iload_n 3, 1) := by decide +kernel
theorem dX5_findsRests_59 : decode cX5_findsRests 59 = .ok (.aload_n 0, 1) := by decide +kernel
theorem dX5_findsRests_60 : decode cX5_findsRests 60 = .ok (.getfield 7, 3) := by decide +kernel
theorem dX5_findsRests_63 : decode cX5_findsRests 63 = .ok (.iconst 0, 1) := by decide +kernel
theorem dX5_findsRests_64 : decode cX5_findsRests 64 = .ok (.iaload, 1) := by decide +kernel
theorem dX5_findsRests_65 : decode cX5_findsRests 65 = .ok (.if_icmp .ge 72, 3) := by decide +kernel
theorem dX5_findsRests_68 : decode cX5_findsRests 68 = .ok (.aload_n 0, 1) := by decide +kernel
theorem dX5_findsRests_69 : decode cX5_findsRests 69 = .ok (.getfield 7, 3) := by decide +kernel
theorem dX5_findsRests_72 : decode cX5_findsRests 72 = .ok (.sipush 324, 3) := by decide +kernel
theorem dX5_findsRests_75 : decode cX5_findsRests 75 = .ok (.iload_n 3, 1) := by decide +kernel
theorem dX5_findsRests_76 : decode cX5_findsRests 76 = .ok (.iadd, 1) := by decide +kernel
theorem dX5_findsRests_77 : decode cX5_findsRests 77 = .ok (.iaload, 1) := by decide +kernel
theorem dX5_findsRests_78 : decode cX5_findsRests 78 = .ok (.iload_n 1, 1) := by decide +kernel
theorem dX5_findsRests_79 : decode cX5_findsRests 79 = .ok (.ishr, 1) := by decide +kernel
theorem dX5_findsRests_80 : decode cX5_findsRests 80 = .ok (.iconst 1, 1) := by decide +kernel
theorem dX5_findsRests_81 : decode cX5_findsRests 81 = .ok (.iand, 1) := by decide +kernel
theorem dX5_findsRests_82 : decode cX5_findsRests 82 = .ok (.iconst 1, 1) := by decide +kernel
theorem dX5_findsRests_83 : decode cX5_findsRests 83 = .ok (.if_icmp .ne 21, 3) := by decide +kernel
theorem dX5_findsRests_86 : decode cX5_findsRests 86 = .ok (.aload_n 0, 1) := by decide +kernel
theorem dX5_findsRests_87 : decode cX5_findsRests 87 = .ok (.getfield 7, 3) := by decide +kernel
theorem dX5_findsRests_90 : decode cX5_findsRests 90 = .ok (.sipush 164, 3) := by decide +kernel
theorem dX5_findsRests_93 : decode cX5_findsRests 93 = .ok (.iload_n 3, 1) := by decide +kernel
theorem dX5_findsRests_94 : decode cX5_findsRests 94 = .ok (.iadd, 1) := by decide +kernel
theorem dX5_findsRests_95 : decode cX5_findsRests 95 = .ok (.iaload, 1) := by decide +kernel
theorem dX5_findsRests_96 : decode cX5_findsRests 96 = .ok (.iconst (-1), 1) := by decide +kernel
theorem dX5_findsRests_97 : decode cX5_findsRests 97 = .ok (.if_icmp .eq 7, 3) := by decide +kernel
theorem dX5_findsRests_100 : decode cX5_findsRests 100 = .ok (.iconst 1, 1) := by decide +kernel
theorem dX5_findsRests_101 : decode cX5_findsRests 101 = .ok (.goto 4, 3) := by decide +kernel
theorem dX5_findsRests_104 : decode cX5_findsRests 104 = .ok (.iconst 0, 1) := by decide +kernel
theorem dX5_findsRests_105 : decode cX5_findsRests 105 = .ok (.istore 4, 2) := by decide +kernel
theorem dX5_findsRests_107 : decode cX5_findsRests 107 = .ok (.iload_n 2, 1) := by decide +kernel
theorem dX5_findsRests_108 : decode cX5_findsRests 108 = .ok (.iload 4, 2) := by decide +kernel
theorem dX5_findsRests_110 : decode cX5_findsRests 110 = .ok (.ifCond .eq 18, 3) := by decide +kernel
theorem dX5_findsRests_113 : decode cX5_findsRests 113 = .ok (.iconst 1, 1) := by decide +kernel
theorem dX5_findsRests_114 : decode cX5_findsRests 114 = .ok (.aload_n 0, 1) := by decide +kernel
theorem dX5_findsRests_115 : decode cX5_findsRests 115 = .ok (.getfield 7, 3) := by decide +kernel
theorem dX5_findsRests_118 : decode cX5_findsRests 118 = .ok (.sipush 164, 3) := by decide +kernel
theorem dX5_findsRests_121 : decode cX5_findsRests 121 = .ok (.iload_n 3, 1) := by decide +kernel
theorem dX5_findsRests_122 : decode cX5_findsRests 122 = .ok (.iadd, 1) := by decide +kernel
theorem dX5_findsRests_123 : decode cX5_findsRests 123 = .ok (.iaload, 1) := by decide +kernel
theorem dX5_findsRests_124 : decode cX5_findsRests 124 = .ok (.ishl, 1) := by decide +kernel
theorem dX5_findsRests_125 : decode cX5_findsRests 125 = .ok (.goto 4, 3) := by decide +kernel
theorem dX5_findsRests_128 : decode cX5_findsRests 128 = .ok (.iconst 0, 1) := by decide +kernel
theorem dX5_findsRests_129 : decode cX5_findsRests 129 = .ok (.ior, 1) := by decide +kernel
theorem dX5_findsRests_130 : decode cX5_findsRests 130 = .ok (.istore_n 2, 1) := by decide +kernel
theorem dX5_findsRests_131 : decode cX5_findsRests 131 = .ok (.iinc 3 1, 3) := by decide +kernel
theorem dX5_findsRests_134 : decode cX5_findsRests 134 = .ok (.goto (-76), 3) := by decide +kernel
theorem dX5_findsRests_137 : decode cX5_findsRests 137 = .ok (.iload_n 2, 1) := by decide +kernel
theorem dX5_findsRests_138 : decode cX5_findsRests 138 = .ok (.istore_n 3, 1) := by decide +kernel
theorem dX5_findsRests_139 : decode cX5_findsRests 139 = .ok (.iconst 0, 1) := by decide +kernel
theorem dX5_findsRests_140 : decode cX5_findsRests 140 = .ok (.istore 4, 2) := by decide +kernel
theorem dX5_findsRests_142 : decode cX5_findsRests 142 = .ok (.iload 4, 2) := by decide +kernel
theorem dX5_findsRests_144 : decode cX5_findsRests 144 = .ok (.iload_n 1, 1) := by decide +kernel
theorem dX5_findsRests_145 : decode cX5_findsRests 145 = .ok (.if_icmp .ge 33, 3) := by decide +kernel
theorem dX5_findsRests_148 : decode cX5_findsRests 148 = .ok (.iload_n 3, 1) := by decide +kernel
theorem dX5_findsRests_149 : decode cX5_findsRests 149 = .ok (.iload_n 2, 1) := by decide +kernel
theorem dX5_findsRests_150 : decode cX5_findsRests 150 = .ok (.iload 4, 2) := by decide +kernel
theorem dX5_findsRests_152 : decode cX5_findsRests 152 = .ok (.ishr, 1) := by decide +kernel
theorem dX5_findsRests_153 : decode cX5_findsRests 153 = .ok (.iconst 1, 1) := by decide +kernel
theorem dX5_findsRests_154 : decode cX5_findsRests 154 = .ok (.iand, 1) := by decide +kernel
theorem dX5_findsRests_155 : decode cX5_findsRests 155 = .ok (.iconst 1, 1) := by decide +kernel
theorem dX5_findsRests_156 : decode cX5_findsRests 156 = .ok (.if_icmp .ne 13, 3) := by decide +kernel
theorem dX5_findsRests_159 : decode cX5_findsRests 159 = .ok (.aload_n 0, 1) := by decide +kernel
theorem dX5_findsRests_160 : decode cX5_findsRests 160 = .ok (.getfield 34, 3) := by decide +kernel
theorem dX5_findsRests_163 : decode cX5_findsRests 163 = .ok (.iload 4, 2) := by decide +kernel
theorem dX5_findsRests_165 : decode cX5_findsRests 165 = .ok (.iaload, 1) := by decide +kernel
theorem dX5_findsRests_166 : decode cX5_findsRests 166 = .ok (.goto 4, 3) := by decide +kernel
theorem dX5_findsRests_169 : decode cX5_findsRests 169 = .ok (.iconst 0, 1) := by decide +kernel
theorem dX5_findsRests_170 : decode cX5_findsRests 170 = .ok (.ior, 1) := by decide +kernel
theorem dX5_findsRests_171 : decode cX5_findsRests 171 = .ok (.istore_n 3, 1) := by decide +kernel
theorem dX5_findsRests_172 : decode cX5_findsRests 172 = .ok (.iinc 4 1, 3) := by decide +kernel
theorem dX5_findsRests_175 : decode cX5_findsRests 175 = .ok (.goto (-33), 3) := by decide +kernel
theorem dX5_findsRests_178 : decode cX5_findsRests 178 = .ok (.aload_n 0, 1) := by decide +kernel
theorem dX5_findsRests_179 : decode cX5_findsRests 179 = .ok (.getfield 34, 3) := by decide +kernel
theorem dX5_findsRests_182 : decode cX5_findsRests 182 = .ok (.iload_n 1, 1) := by decide +kernel
theorem dX5_findsRests_183 : decode cX5_findsRests 183 = .ok (.iload_n 3, 1) := by decide +kernel
theorem dX5_findsRests_184 : decode cX5_findsRests 184 = .ok (.iastore, 1) := by decide +kernel
theorem dX5_findsRests_185 : decode cX5_findsRests 185 = .ok (.iinc 1 1, 3) := by decide +kernel
theorem dX5_findsRests_188 : decode cX5_findsRests 188 = .ok (.goto (-186), 3) := by decide +kernel
theorem dX5_findsRests_191 : decode cX5_findsRests 191 = .ok (.return_, 1) := by decide +kernel
theorem dX5_above_0 : decode cX5_above 0 = .ok (.iconst 0, 1) := by decide +kernel
theorem dX5_above_1 : decode cX5_above 1 = .ok (.istore_n 2, 1) := by decide +kernel
theorem dX5_above_2 : decode cX5_above 2 = .ok (.iconst 0, 1) := by decide +kernel
theorem dX5_above_3 : decode cX5_above 3 = .ok (.istore_n 3, 1) := by decide +kernel
theorem dX5_above_4 : decode cX5_above 4 = .ok (.iload_n 3, 1) := by decide +kernel
theorem dX5_above_5 : decode cX5_above 5 = .ok (.aload_n 0, 1) := by decide +kernel
theorem dX5_above_6 : decode cX5_above 6 = .ok (.getfield 7, 3) := by decide +kernel
theorem dX5_above_9 : decode cX5_above 9 = .ok (.iconst 1, 1) := by decide +kernel
theorem dX5_above_10 : decode cX5_above 10 = .ok (.iaload, 1) := by decide +kernel
theorem dX5_above_11 : decode cX5_above 11 = .ok (.if_icmp .ge 33, 3) := by decide +kernel
theorem dX5_above_14 : decode cX5_above 14 = .ok (.iload_n 2, 1) := by decide +kernel
theorem dX5_above_15 : decode cX5_above 15 = .ok (.aload_n 0, 1) := by decide +kernel
theorem dX5_above_16 : decode cX5_above 16 = .ok (.getfield 34, 3) := by decide +kernel
theorem dX5_above_19 : decode cX5_above 19 = .ok (.iload_n 3, 1) := by decide +kernel
theorem dX5_above_20 : decode cX5_above 20 = .ok (.iaload, 1) := by decide +kernel
theorem dX5_above_21 : decode cX5_above 21 = .ok (.iload_n 1, 1) := by decide +kernel
theorem dX5_above_22 : decode cX5_above 22 = .ok (.ishr, 1) := by decide +kernel
theorem dX5_above_23 : decode cX5_above 23 = .ok (.iconst 1, 1) := by decide +kernel
theorem dX5_above_24 : decode cX5_above 24 = .ok (.iand, 1) := by decide +kernel
theorem dX5_above_25 : decode cX5_above 25 = .ok (.iconst 1, 1) := by decide +kernel
theorem dX5_above_26 : decode cX5_above 26 = .ok (.if_icmp .ne 9, 3) := by decide +kernel
theorem dX5_above_29 : decode cX5_above 29 = .ok (.iconst 1, 1) := by decide +kernel
theorem dX5_above_30 : decode cX5_above 30 = .ok (.iload_n 3, 1) := by decide +kernel
theorem dX5_above_31 : decode cX5_above 31 = .ok (.ishl, 1) := by decide +kernel
theorem dX5_above_32 : decode cX5_above 32 = .ok (.goto 4, 3) := by decide +kernel
theorem dX5_above_35 : decode cX5_above 35 = .ok (.iconst 0, 1) := by decide +kernel
theorem dX5_above_36 : decode cX5_above 36 = .ok (.ior, 1) := by decide +kernel
theorem dX5_above_37 : decode cX5_above 37 = .ok (.istore_n 2, 1) := by decide +kernel
theorem dX5_above_38 : decode cX5_above 38 = .ok (.iinc 3 1, 3) := by decide +kernel
theorem dX5_above_41 : decode cX5_above 41 = .ok (.goto (-37), 3) := by decide +kernel
theorem dX5_above_44 : decode cX5_above 44 = .ok (.iload_n 2, 1) := by decide +kernel
theorem dX5_above_45 : decode cX5_above 45 = .ok (.ireturn, 1) := by decide +kernel
theorem dX5_commutes_0 : decode cX5_commutes 0 = .ok (.aload_n 0, 1) := by decide +kernel
theorem dX5_commutes_1 : decode cX5_commutes 1 = .ok (.getfield 34, 3) := by decide +kernel
theorem dX5_commutes_4 : decode cX5_commutes 4 = .ok (.iload_n 1, 1) := by decide +kernel
theorem dX5_commutes_5 : decode cX5_commutes 5 = .ok (.iaload, 1) := by decide +kernel
theorem dX5_commutes_6 : decode cX5_commutes 6 = .ok (.iload_n 2, 1) := by decide +kernel
theorem dX5_commutes_7 : decode cX5_commutes 7 = .ok (.ishr, 1) := by decide +kernel
theorem dX5_commutes_8 : decode cX5_commutes 8 = .ok (.iconst 1, 1) := by decide +kernel
theorem dX5_commutes_9 : decode cX5_commutes 9 = .ok (.iand, 1) := by decide +kernel
theorem dX5_commutes_10 : decode cX5_commutes 10 = .ok (.ifCond .ne 20, 3) := by decide +kernel
theorem dX5_commutes_13 : decode cX5_commutes 13 = .ok (.aload_n 0, 1) := by decide +kernel
theorem dX5_commutes_14 : decode cX5_commutes 14 = .ok (.getfield 34, 3) := by decide +kernel
theorem dX5_commutes_17 : decode cX5_commutes 17 = .ok (.iload_n 2, 1) := by decide +kernel
theorem dX5_commutes_18 : decode cX5_commutes 18 = .ok (.iaload, 1) := by decide +kernel
theorem dX5_commutes_19 : decode cX5_commutes 19 = .ok (.iload_n 1, 1) := by decide +kernel
theorem dX5_commutes_20 : decode cX5_commutes 20 = .ok (.ishr, 1) := by decide +kernel
theorem dX5_commutes_21 : decode cX5_commutes 21 = .ok (.iconst 1, 1) := by decide +kernel
theorem dX5_commutes_22 : decode cX5_commutes 22 = .ok (.iand, 1) := by decide +kernel
theorem dX5_commutes_23 : decode cX5_commutes 23 = .ok (.ifCond .ne 7, 3) := by decide +kernel
theorem dX5_commutes_26 : decode cX5_commutes 26 = .ok (.iconst 1, 1) := by decide +kernel
theorem dX5_commutes_27 : decode cX5_commutes 27 = .ok (.goto 4, 3) := by decide +kernel
theorem dX5_commutes_30 : decode cX5_commutes 30 = .ok (.iconst 0, 1) := by decide +kernel
theorem dX5_commutes_31 : decode cX5_commutes 31 = .ok (.ireturn, 1) := by decide +kernel
set_option maxRecDepth 20000 in
theorem ggX5_canGo_X5_isActive : GoodIn wsX5_canGo wsX5_isActive := goodIn_r _ [7, 1, 8, 9, 10, 11, 12, 13, 14, 15, 16, 17, 18, 19, 20, 21, 22, 23, 24] (by decide +kernel) (by decide +kernel)
set_option maxRecDepth 20000 in
theorem gX5_canGo_X5_isActive : GoodIn wsX5_canGo (wsV RX5 59 RX5 yX5_isActive wsX5_isActive) := goodIn_app (goodIn_of _ (by decide +kernel)) ggX5_canGo_X5_isActive
theorem dX5_canGo_0 : decode cX5_canGo 0 = .ok (.iconst 1, 1) := by decide +kernel
theorem dX5_canGo_1 : decode cX5_canGo 1 = .ok (.istore_n 2, 1) := by decide +kernel
theorem dX5_canGo_2 : decode cX5_canGo 2 = .ok (.iconst 0, 1) := by decide +kernel
theorem dX5_canGo_3 : decode cX5_canGo 3 = .ok (.istore_n 3, 1) := by decide +kernel
theorem dX5_canGo_4 : decode cX5_canGo 4 = .ok (.iload_n 3, 1) := by decide +kernel
theorem dX5_canGo_5 : decode cX5_canGo 5 = .ok (.aload_n 0, 1) := by decide +kernel
theorem dX5_canGo_6 : decode cX5_canGo 6 = .ok (.getfield 7, 3) := by decide +kernel
theorem dX5_canGo_9 : decode cX5_canGo 9 = .ok (.iconst 1, 1) := by decide +kernel
theorem dX5_canGo_10 : decode cX5_canGo 10 = .ok (.iaload, 1) := by decide +kernel
theorem dX5_canGo_11 : decode cX5_canGo 11 = .ok (.if_icmp .ge 58, 3) := by decide +kernel
theorem dX5_canGo_14 : decode cX5_canGo 14 = .ok (.aload_n 0, 1) := by decide +kernel
theorem dX5_canGo_15 : decode cX5_canGo 15 = .ok (.iload_n 3, 1) := by decide +kernel
theorem dX5_canGo_16 : decode cX5_canGo 16 = .ok (.invokevirtual 59, 3) := by decide +kernel
theorem dX5_canGo_19 : decode cX5_canGo 19 = .ok (.ifCond .eq 15, 3) := by decide +kernel
theorem dX5_canGo_22 : decode cX5_canGo 22 = .ok (.iload_n 1, 1) := by decide +kernel
theorem dX5_canGo_23 : decode cX5_canGo 23 = .ok (.iload_n 3, 1) := by decide +kernel
theorem dX5_canGo_24 : decode cX5_canGo 24 = .ok (.ishr, 1) := by decide +kernel
theorem dX5_canGo_25 : decode cX5_canGo 25 = .ok (.iconst 1, 1) := by decide +kernel
theorem dX5_canGo_26 : decode cX5_canGo 26 = .ok (.iand, 1) := by decide +kernel
theorem dX5_canGo_27 : decode cX5_canGo 27 = .ok (.ifCond .ne 7, 3) := by decide +kernel
theorem dX5_canGo_30 : decode cX5_canGo 30 = .ok (.iconst 1, 1) := by decide +kernel
theorem dX5_canGo_31 : decode cX5_canGo 31 = .ok (.goto 4, 3) := by decide +kernel
theorem dX5_canGo_34 : decode cX5_canGo 34 = .ok (.iconst 0, 1) := by decide +kernel
theorem dX5_canGo_35 : decode cX5_canGo 35 = .ok (.istore 4, 2) := by decide +kernel
theorem dX5_canGo_37 : decode cX5_canGo 37 = .ok (.iload_n 2, 1) := by decide +kernel
theorem dX5_canGo_38 : decode cX5_canGo 38 = .ok (.ifCond .eq 23, 3) := by decide +kernel
theorem dX5_canGo_41 : decode cX5_canGo 41 = .ok (.iload 4, 2) := by decide +kernel
theorem dX5_canGo_43 : decode cX5_canGo 43 = .ok (.ifCond .eq 14, 3) := by decide +kernel
theorem dX5_canGo_46 : decode cX5_canGo 46 = .ok (.aload_n 0, 1) := by decide +kernel
theorem dX5_canGo_47 : decode cX5_canGo 47 = .ok (.getfield 34, 3) := by decide +kernel
theorem dX5_canGo_50 : decode cX5_canGo 50 = .ok (.iload_n 3, 1) := by decide +kernel
theorem dX5_canGo_51 : decode cX5_canGo 51 = .ok (.iaload, 1) := by decide +kernel
theorem dX5_canGo_52 : decode cX5_canGo 52 = .ok (.iload_n 1, 1) := by decide +kernel
theorem dX5_canGo_53 : decode cX5_canGo 53 = .ok (.iand, 1) := by decide +kernel
theorem dX5_canGo_54 : decode cX5_canGo 54 = .ok (.ifCond .ne 7, 3) := by decide +kernel
theorem dX5_canGo_57 : decode cX5_canGo 57 = .ok (.iconst 1, 1) := by decide +kernel
theorem dX5_canGo_58 : decode cX5_canGo 58 = .ok (.goto 4, 3) := by decide +kernel
theorem dX5_canGo_61 : decode cX5_canGo 61 = .ok (.iconst 0, 1) := by decide +kernel
theorem dX5_canGo_62 : decode cX5_canGo 62 = .ok (.istore_n 2, 1) := by decide +kernel
theorem dX5_canGo_63 : decode cX5_canGo 63 = .ok (.iinc 3 1, 3) := by decide +kernel
theorem dX5_canGo_66 : decode cX5_canGo 66 = .ok (.goto (-62), 3) := by decide +kernel
theorem dX5_canGo_69 : decode cX5_canGo 69 = .ok (.iload_n 2, 1) := by decide +kernel
theorem dX5_canGo_70 : decode cX5_canGo 70 = .ok (.ireturn, 1) := by decide +kernel
theorem dX5_canCome_0 : decode cX5_canCome 0 = .ok (.iconst 1, 1) := by decide +kernel
theorem dX5_canCome_1 : decode cX5_canCome 1 = .ok (.istore_n 2, 1) := by decide +kernel
theorem dX5_canCome_2 : decode cX5_canCome 2 = .ok (.iconst 0, 1) := by decide +kernel
theorem dX5_canCome_3 : decode cX5_canCome 3 = .ok (.istore_n 3, 1) := by decide +kernel
theorem dX5_canCome_4 : decode cX5_canCome 4 = .ok (.iload_n 3, 1) := by decide +kernel
theorem dX5_canCome_5 : decode cX5_canCome 5 = .ok (.aload_n 0, 1) := by decide +kernel
theorem dX5_canCome_6 : decode cX5_canCome 6 = .ok (.getfield 7, 3) := by decide +kernel
theorem dX5_canCome_9 : decode cX5_canCome 9 = .ok (.iconst 1, 1) := by decide +kernel
theorem dX5_canCome_10 : decode cX5_canCome 10 = .ok (.iaload, 1) := by decide +kernel
theorem dX5_canCome_11 : decode cX5_canCome 11 = .ok (.if_icmp .ge 47, 3) := by decide +kernel
theorem dX5_canCome_14 : decode cX5_canCome 14 = .ok (.iload_n 2, 1) := by decide +kernel
theorem dX5_canCome_15 : decode cX5_canCome 15 = .ok (.ifCond .eq 35, 3) := by decide +kernel
theorem dX5_canCome_18 : decode cX5_canCome 18 = .ok (.iload_n 1, 1) := by decide +kernel
theorem dX5_canCome_19 : decode cX5_canCome 19 = .ok (.iload_n 3, 1) := by decide +kernel
theorem dX5_canCome_20 : decode cX5_canCome 20 = .ok (.ishr, 1) := by decide +kernel
theorem dX5_canCome_21 : decode cX5_canCome 21 = .ok (.iconst 1, 1) := by decide +kernel
theorem dX5_canCome_22 : decode cX5_canCome 22 = .ok (.iand, 1) := by decide +kernel
theorem dX5_canCome_23 : decode cX5_canCome 23 = .ok (.ifCond .eq 23, 3) := by decide +kernel
theorem dX5_canCome_26 : decode cX5_canCome 26 = .ok (.aload_n 0, 1) := by decide +kernel
theorem dX5_canCome_27 : decode cX5_canCome 27 = .ok (.getfield 34, 3) := by decide +kernel
theorem dX5_canCome_30 : decode cX5_canCome 30 = .ok (.iload_n 3, 1) := by decide +kernel
theorem dX5_canCome_31 : decode cX5_canCome 31 = .ok (.iaload, 1) := by decide +kernel
theorem dX5_canCome_32 : decode cX5_canCome 32 = .ok (.iload_n 1, 1) := by decide +kernel
theorem dX5_canCome_33 : decode cX5_canCome 33 = .ok (.aload_n 0, 1) := by decide +kernel
theorem dX5_canCome_34 : decode cX5_canCome 34 = .ok (.getfield 7, 3) := by decide +kernel
theorem dX5_canCome_37 : decode cX5_canCome 37 = .ok (.iconst 2, 1) := by decide +kernel
theorem dX5_canCome_38 : decode cX5_canCome 38 = .ok (.iaload, 1) := by decide +kernel
theorem dX5_canCome_39 : decode cX5_canCome 39 = .ok (.ior, 1) := by decide +kernel
theorem dX5_canCome_40 : decode cX5_canCome 40 = .ok (.iconst (-1), 1) := by decide +kernel
theorem dX5_canCome_41 : decode cX5_canCome 41 = .ok (.ixor, 1) := by decide +kernel
theorem dX5_canCome_42 : decode cX5_canCome 42 = .ok (.iand, 1) := by decide +kernel
theorem dX5_canCome_43 : decode cX5_canCome 43 = .ok (.ifCond .ne 7, 3) := by decide +kernel
theorem dX5_canCome_46 : decode cX5_canCome 46 = .ok (.iconst 1, 1) := by decide +kernel
theorem dX5_canCome_47 : decode cX5_canCome 47 = .ok (.goto 4, 3) := by decide +kernel
theorem dX5_canCome_50 : decode cX5_canCome 50 = .ok (.iconst 0, 1) := by decide +kernel
theorem dX5_canCome_51 : decode cX5_canCome 51 = .ok (.istore_n 2, 1) := by decide +kernel
theorem dX5_canCome_52 : decode cX5_canCome 52 = .ok (.iinc 3 1, 3) := by decide +kernel
theorem dX5_canCome_55 : decode cX5_canCome 55 = .ok (.goto (-51), 3) := by decide +kernel
theorem dX5_canCome_58 : decode cX5_canCome 58 = .ok (.iload_n 2, 1) := by decide +kernel
theorem dX5_canCome_59 : decode cX5_canCome 59 = .ok (.ireturn, 1) := by decide +kernel
set_option maxRecDepth 20000 in
theorem ggX5_closureOf_X5_above : GoodIn wsX5_closureOf wsX5_above := goodIn_r _ [6, 1, 7, 8, 9, 10, 11, 12, 13, 14, 15, 16, 17, 18, 19, 20, 21, 22, 23, 24] (by decide +kernel) (by decide +kernel)
set_option maxRecDepth 20000 in
theorem gX5_closureOf_X5_above : GoodIn wsX5_closureOf (wsV RX5 63 RX5 yX5_above wsX5_above) := goodIn_app (goodIn_of _ (by decide +kernel)) ggX5_closureOf_X5_above
theorem dX5_closureOf_0 : decode cX5_closureOf 0 = .ok (.iconst 1, 1) := by decide +kernel
theorem dX5_closureOf_1 : decode cX5_closureOf 1 = .ok (.iload_n 1, 1) := by decide +kernel
theorem dX5_closureOf_2 : decode cX5_closureOf 2 = .ok (.ishl, 1) := by decide +kernel
theorem dX5_closureOf_3 : decode cX5_closureOf 3 = .ok (.aload_n 0, 1) := by decide +kernel
theorem dX5_closureOf_4 : decode cX5_closureOf 4 = .ok (.iload_n 1, 1) := by decide +kernel
theorem dX5_closureOf_5 : decode cX5_closureOf 5 = .ok (.invokevirtual 63, 3) := by decide +kernel
theorem dX5_closureOf_8 : decode cX5_closureOf 8 = .ok (.aload_n 0, 1) := by decide +kernel
theorem dX5_closureOf_9 : decode cX5_closureOf 9 = .ok (.getfield 7, 3) := by decide +kernel
theorem dX5_closureOf_12 : decode cX5_closureOf 12 = .ok (.iconst 2, 1) := by decide +kernel
theorem dX5_closureOf_13 : decode cX5_closureOf 13 = .ok (.iaload, 1) := by decide +kernel
theorem dX5_closureOf_14 : decode cX5_closureOf 14 = .ok (.iand, 1) := by decide +kernel
theorem dX5_closureOf_15 : decode cX5_closureOf 15 = .ok (.ior, 1) := by decide +kernel
theorem dX5_closureOf_16 : decode cX5_closureOf 16 = .ok (.ireturn, 1) := by decide +kernel
theorem dX5_openingOf_0 : decode cX5_openingOf 0 = .ok (.iconst 1, 1) := by decide +kernel
theorem dX5_openingOf_1 : decode cX5_openingOf 1 = .ok (.iload_n 1, 1) := by decide +kernel
theorem dX5_openingOf_2 : decode cX5_openingOf 2 = .ok (.ishl, 1) := by decide +kernel
theorem dX5_openingOf_3 : decode cX5_openingOf 3 = .ok (.aload_n 0, 1) := by decide +kernel
theorem dX5_openingOf_4 : decode cX5_openingOf 4 = .ok (.getfield 34, 3) := by decide +kernel
theorem dX5_openingOf_7 : decode cX5_openingOf 7 = .ok (.iload_n 1, 1) := by decide +kernel
theorem dX5_openingOf_8 : decode cX5_openingOf 8 = .ok (.iaload, 1) := by decide +kernel
theorem dX5_openingOf_9 : decode cX5_openingOf 9 = .ok (.aload_n 0, 1) := by decide +kernel
theorem dX5_openingOf_10 : decode cX5_openingOf 10 = .ok (.getfield 7, 3) := by decide +kernel
theorem dX5_openingOf_13 : decode cX5_openingOf 13 = .ok (.iconst 2, 1) := by decide +kernel
theorem dX5_openingOf_14 : decode cX5_openingOf 14 = .ok (.iaload, 1) := by decide +kernel
theorem dX5_openingOf_15 : decode cX5_openingOf 15 = .ok (.iconst (-1), 1) := by decide +kernel
theorem dX5_openingOf_16 : decode cX5_openingOf 16 = .ok (.ixor, 1) := by decide +kernel
theorem dX5_openingOf_17 : decode cX5_openingOf 17 = .ok (.iand, 1) := by decide +kernel
theorem dX5_openingOf_18 : decode cX5_openingOf 18 = .ok (.ior, 1) := by decide +kernel
theorem dX5_openingOf_19 : decode cX5_openingOf 19 = .ok (.ireturn, 1) := by decide +kernel
set_option maxRecDepth 20000 in
theorem ggX5_placeOf_X5_ahead : GoodIn wsX5_placeOf wsX5_ahead := goodIn_r _ [6, 7, 8, 9, 5, 10, 1, 11, 12, 13, 14, 15, 16, 17, 18, 19, 20, 21, 22, 23, 24, 25, 26, 27] (by decide +kernel) (by decide +kernel)
set_option maxRecDepth 20000 in
theorem gX5_placeOf_X5_ahead : GoodIn wsX5_placeOf (wsV RX5 66 RX5 yX5_ahead wsX5_ahead) := goodIn_app (goodIn_of _ (by decide +kernel)) ggX5_placeOf_X5_ahead
theorem dX5_placeOf_0 : decode cX5_placeOf 0 = .ok (.iconst 0, 1) := by decide +kernel
theorem dX5_placeOf_1 : decode cX5_placeOf 1 = .ok (.istore_n 2, 1) := by decide +kernel
theorem dX5_placeOf_2 : decode cX5_placeOf 2 = .ok (.iload_n 2, 1) := by decide +kernel
theorem dX5_placeOf_3 : decode cX5_placeOf 3 = .ok (.aload_n 0, 1) := by decide +kernel
theorem dX5_placeOf_4 : decode cX5_placeOf 4 = .ok (.getfield 7, 3) := by decide +kernel
theorem dX5_placeOf_7 : decode cX5_placeOf 7 = .ok (.iconst 0, 1) := by decide +kernel
theorem dX5_placeOf_8 : decode cX5_placeOf 8 = .ok (.iaload, 1) := by decide +kernel
theorem dX5_placeOf_9 : decode cX5_placeOf 9 = .ok (.if_icmp .ge 66, 3) := by decide +kernel
theorem dX5_placeOf_12 : decode cX5_placeOf 12 = .ok (.aload_n 0, 1) := by decide +kernel
theorem dX5_placeOf_13 : decode cX5_placeOf 13 = .ok (.getfield 7, 3) := by decide +kernel
theorem dX5_placeOf_16 : decode cX5_placeOf 16 = .ok (.sipush 164, 3) := by decide +kernel
theorem dX5_placeOf_19 : decode cX5_placeOf 19 = .ok (.iload_n 2, 1) := by decide +kernel
theorem dX5_placeOf_20 : decode cX5_placeOf 20 = .ok (.iadd, 1) := by decide +kernel
theorem dX5_placeOf_21 : decode cX5_placeOf 21 = .ok (.iaload, 1) := by decide +kernel
theorem dX5_placeOf_22 : decode cX5_placeOf 22 = .ok (.iload_n 1, 1) := by decide +kernel
theorem dX5_placeOf_23 : decode cX5_placeOf 23 = .ok (.if_icmp .ne 16, 3) := by decide +kernel
theorem dX5_placeOf_26 : decode cX5_placeOf 26 = .ok (.aload_n 0, 1) := by decide +kernel
theorem dX5_placeOf_27 : decode cX5_placeOf 27 = .ok (.getfield 7, 3) := by decide +kernel
theorem dX5_placeOf_30 : decode cX5_placeOf 30 = .ok (.sipush 484, 3) := by decide +kernel
theorem dX5_placeOf_33 : decode cX5_placeOf 33 = .ok (.iload_n 1, 1) := by decide +kernel
theorem dX5_placeOf_34 : decode cX5_placeOf 34 = .ok (.iadd, 1) := by decide +kernel
theorem dX5_placeOf_35 : decode cX5_placeOf 35 = .ok (.iaload, 1) := by decide +kernel
theorem dX5_placeOf_36 : decode cX5_placeOf 36 = .ok (.ifCond .eq 21, 3) := by decide +kernel
theorem dX5_placeOf_39 : decode cX5_placeOf 39 = .ok (.aload_n 0, 1) := by decide +kernel
theorem dX5_placeOf_40 : decode cX5_placeOf 40 = .ok (.getfield 7, 3) := by decide +kernel
theorem dX5_placeOf_43 : decode cX5_placeOf 43 = .ok (.sipush 324, 3) := by decide +kernel
theorem dX5_placeOf_46 : decode cX5_placeOf 46 = .ok (.iload_n 2, 1) := by decide +kernel
theorem dX5_placeOf_47 : decode cX5_placeOf 47 = .ok (.iadd, 1) := by decide +kernel
theorem dX5_placeOf_48 : decode cX5_placeOf 48 = .ok (.iaload, 1) := by decide +kernel
theorem dX5_placeOf_49 : decode cX5_placeOf 49 = .ok (.iload_n 1, 1) := by decide +kernel
theorem dX5_placeOf_50 : decode cX5_placeOf 50 = .ok (.ishr, 1) := by decide +kernel
theorem dX5_placeOf_51 : decode cX5_placeOf 51 = .ok (.iconst 1, 1) := by decide +kernel
theorem dX5_placeOf_52 : decode cX5_placeOf 52 = .ok (.iand, 1) := by decide +kernel
theorem dX5_placeOf_53 : decode cX5_placeOf 53 = .ok (.iconst 1, 1) := by decide +kernel
theorem dX5_placeOf_54 : decode cX5_placeOf 54 = .ok (.if_icmp .ne 15, 3) := by decide +kernel
theorem dX5_placeOf_57 : decode cX5_placeOf 57 = .ok (.aload_n 0, 1) := by decide +kernel
theorem dX5_placeOf_58 : decode cX5_placeOf 58 = .ok (.iload_n 2, 1) := by decide +kernel
theorem dX5_placeOf_59 : decode cX5_placeOf 59 = .ok (.aload_n 0, 1) := by decide +kernel
theorem dX5_placeOf_60 : decode cX5_placeOf 60 = .ok (.getfield 7, 3) := by decide +kernel
theorem dX5_placeOf_63 : decode cX5_placeOf 63 = .ok (.iconst 2, 1) := by decide +kernel
theorem dX5_placeOf_64 : decode cX5_placeOf 64 = .ok (.iaload, 1) := by decide +kernel
theorem dX5_placeOf_65 : decode cX5_placeOf 65 = .ok (.invokevirtual 66, 3) := by decide +kernel
theorem dX5_placeOf_68 : decode cX5_placeOf 68 = .ok (.ireturn, 1) := by decide +kernel
theorem dX5_placeOf_69 : decode cX5_placeOf 69 = .ok (.iinc 2 1, 3) := by decide +kernel
theorem dX5_placeOf_72 : decode cX5_placeOf 72 = .ok (.goto (-70), 3) := by decide +kernel
theorem dX5_placeOf_75 : decode cX5_placeOf 75 = .ok (.iconst 0, 1) := by decide +kernel
theorem dX5_placeOf_76 : decode cX5_placeOf 76 = .ok (.ireturn, 1) := by decide +kernel
set_option maxRecDepth 20000 in
theorem ggX5_priceOf_X5_placeOf : GoodIn wsX5_priceOf wsX5_placeOf := goodIn_r _ [8, 1, 9, 10, 11, 7, 12, 13, 14, 15, 16, 20, 21, 22, 23, 24, 25, 26, 27, 28, 29, 30, 31, 32, 33, 34, 35, 36] (by decide +kernel) (by decide +kernel)
set_option maxRecDepth 20000 in
theorem gX5_priceOf_X5_placeOf : GoodIn wsX5_priceOf (wsV RX5 70 RX5 yX5_placeOf wsX5_placeOf) := goodIn_app (goodIn_of _ (by decide +kernel)) ggX5_priceOf_X5_placeOf
set_option maxRecDepth 20000 in
theorem ggX5_priceOf_X5_bits : GoodIn wsX5_priceOf wsX5_bits := goodIn_r _ [19] (by decide +kernel) (by decide +kernel)
set_option maxRecDepth 20000 in
theorem gX5_priceOf_X5_bits : GoodIn wsX5_priceOf (va_wsS RX5 73 yX5_bits wsX5_bits) := goodIn_app (goodIn_of _ (by decide +kernel)) ggX5_priceOf_X5_bits
theorem dX5_priceOf_0 : decode cX5_priceOf 0 = .ok (.aload_n 0, 1) := by decide +kernel
theorem dX5_priceOf_1 : decode cX5_priceOf 1 = .ok (.iload_n 1, 1) := by decide +kernel
theorem dX5_priceOf_2 : decode cX5_priceOf 2 = .ok (.invokevirtual 70, 3) := by decide +kernel
theorem dX5_priceOf_5 : decode cX5_priceOf 5 = .ok (.aload_n 0, 1) := by decide +kernel
theorem dX5_priceOf_6 : decode cX5_priceOf 6 = .ok (.getfield 7, 3) := by decide +kernel
theorem dX5_priceOf_9 : decode cX5_priceOf 9 = .ok (.iconst 3, 1) := by decide +kernel
theorem dX5_priceOf_10 : decode cX5_priceOf 10 = .ok (.iaload, 1) := by decide +kernel
theorem dX5_priceOf_11 : decode cX5_priceOf 11 = .ok (.isub, 1) := by decide +kernel
theorem dX5_priceOf_12 : decode cX5_priceOf 12 = .ok (.istore_n 2, 1) := by decide +kernel
theorem dX5_priceOf_13 : decode cX5_priceOf 13 = .ok (.iload_n 2, 1) := by decide +kernel
theorem dX5_priceOf_14 : decode cX5_priceOf 14 = .ok (.ifCond .ge 8, 3) := by decide +kernel
theorem dX5_priceOf_17 : decode cX5_priceOf 17 = .ok (.iload_n 2, 1) := by decide +kernel
theorem dX5_priceOf_18 : decode cX5_priceOf 18 = .ok (.ineg, 1) := by decide +kernel
theorem dX5_priceOf_19 : decode cX5_priceOf 19 = .ok (.goto 4, 3) := by decide +kernel
theorem dX5_priceOf_22 : decode cX5_priceOf 22 = .ok (.iload_n 2, 1) := by decide +kernel
theorem dX5_priceOf_23 : decode cX5_priceOf 23 = .ok (.istore_n 2, 1) := by decide +kernel
theorem dX5_priceOf_24 : decode cX5_priceOf 24 = .ok (.iconst 1, 1) := by decide +kernel
theorem dX5_priceOf_25 : decode cX5_priceOf 25 = .ok (.aload_n 0, 1) := by decide +kernel
theorem dX5_priceOf_26 : decode cX5_priceOf 26 = .ok (.getfield 20, 3) := by decide +kernel
theorem dX5_priceOf_29 : decode cX5_priceOf 29 = .ok (.aload_n 0, 1) := by decide +kernel
theorem dX5_priceOf_30 : decode cX5_priceOf 30 = .ok (.getfield 7, 3) := by decide +kernel
theorem dX5_priceOf_33 : decode cX5_priceOf 33 = .ok (.iconst 2, 1) := by decide +kernel
theorem dX5_priceOf_34 : decode cX5_priceOf 34 = .ok (.iaload, 1) := by decide +kernel
theorem dX5_priceOf_35 : decode cX5_priceOf 35 = .ok (.iload_n 1, 1) := by decide +kernel
theorem dX5_priceOf_36 : decode cX5_priceOf 36 = .ok (.iconst 1, 1) := by decide +kernel
theorem dX5_priceOf_37 : decode cX5_priceOf 37 = .ok (.iadd, 1) := by decide +kernel
theorem dX5_priceOf_38 : decode cX5_priceOf 38 = .ok (.ishr, 1) := by decide +kernel
theorem dX5_priceOf_39 : decode cX5_priceOf 39 = .ok (.invokestatic 73, 3) := by decide +kernel
theorem dX5_priceOf_42 : decode cX5_priceOf 42 = .ok (.imul, 1) := by decide +kernel
theorem dX5_priceOf_43 : decode cX5_priceOf 43 = .ok (.iadd, 1) := by decide +kernel
theorem dX5_priceOf_44 : decode cX5_priceOf 44 = .ok (.aload_n 0, 1) := by decide +kernel
theorem dX5_priceOf_45 : decode cX5_priceOf 45 = .ok (.getfield 24, 3) := by decide +kernel
theorem dX5_priceOf_48 : decode cX5_priceOf 48 = .ok (.iload_n 2, 1) := by decide +kernel
theorem dX5_priceOf_49 : decode cX5_priceOf 49 = .ok (.iconst 4, 1) := by decide +kernel
theorem dX5_priceOf_50 : decode cX5_priceOf 50 = .ok (.idiv, 1) := by decide +kernel
theorem dX5_priceOf_51 : decode cX5_priceOf 51 = .ok (.imul, 1) := by decide +kernel
theorem dX5_priceOf_52 : decode cX5_priceOf 52 = .ok (.iadd, 1) := by decide +kernel
theorem dX5_priceOf_53 : decode cX5_priceOf 53 = .ok (.ireturn, 1) := by decide +kernel
set_option maxRecDepth 20000 in
theorem ggX5_priceOfAll_X5_priceOf : GoodIn wsX5_priceOfAll wsX5_priceOf := goodIn_r _ [6, 1, 7, 8, 9, 10, 11, 5, 12, 13, 14, 15, 16, 17, 18, 19, 20, 21, 22, 23, 24, 25, 26, 27, 28, 29, 30, 31, 32, 33, 34, 35, 36, 37, 38, 39, 40] (by decide +kernel) (by decide +kernel)
set_option maxRecDepth 20000 in
theorem gX5_priceOfAll_X5_priceOf : GoodIn wsX5_priceOfAll (wsV RX5 76 RX5 yX5_priceOf wsX5_priceOf) := goodIn_app (goodIn_of _ (by decide +kernel)) ggX5_priceOfAll_X5_priceOf
theorem dX5_priceOfAll_0 : decode cX5_priceOfAll 0 = .ok (.iconst 0, 1) := by decide +kernel
theorem dX5_priceOfAll_1 : decode cX5_priceOfAll 1 = .ok (.istore_n 2, 1) := by decide +kernel
theorem dX5_priceOfAll_2 : decode cX5_priceOfAll 2 = .ok (.iconst 0, 1) := by decide +kernel
theorem dX5_priceOfAll_3 : decode cX5_priceOfAll 3 = .ok (.istore_n 3, 1) := by decide +kernel
theorem dX5_priceOfAll_4 : decode cX5_priceOfAll 4 = .ok (.iload_n 3, 1) := by decide +kernel
theorem dX5_priceOfAll_5 : decode cX5_priceOfAll 5 = .ok (.aload_n 0, 1) := by decide +kernel
theorem dX5_priceOfAll_6 : decode cX5_priceOfAll 6 = .ok (.getfield 7, 3) := by decide +kernel
theorem dX5_priceOfAll_9 : decode cX5_priceOfAll 9 = .ok (.iconst 1, 1) := by decide +kernel
theorem dX5_priceOfAll_10 : decode cX5_priceOfAll 10 = .ok (.iaload, 1) := by decide +kernel
theorem dX5_priceOfAll_11 : decode cX5_priceOfAll 11 = .ok (.if_icmp .ge 30, 3) := by decide +kernel
theorem dX5_priceOfAll_14 : decode cX5_priceOfAll 14 = .ok (.iload_n 2, 1) := by decide +kernel
theorem dX5_priceOfAll_15 : decode cX5_priceOfAll 15 = .ok (.iload_n 1, 1) := by decide +kernel
theorem dX5_priceOfAll_16 : decode cX5_priceOfAll 16 = .ok (.iload_n 3, 1) := by decide +kernel
theorem dX5_priceOfAll_17 : decode cX5_priceOfAll 17 = .ok (.ishr, 1) := by decide +kernel
theorem dX5_priceOfAll_18 : decode cX5_priceOfAll 18 = .ok (.iconst 1, 1) := by decide +kernel
theorem dX5_priceOfAll_19 : decode cX5_priceOfAll 19 = .ok (.iand, 1) := by decide +kernel
theorem dX5_priceOfAll_20 : decode cX5_priceOfAll 20 = .ok (.iconst 1, 1) := by decide +kernel
theorem dX5_priceOfAll_21 : decode cX5_priceOfAll 21 = .ok (.if_icmp .ne 11, 3) := by decide +kernel
theorem dX5_priceOfAll_24 : decode cX5_priceOfAll 24 = .ok (.aload_n 0, 1) := by decide +kernel
theorem dX5_priceOfAll_25 : decode cX5_priceOfAll 25 = .ok (.iload_n 3, 1) := by decide +kernel
theorem dX5_priceOfAll_26 : decode cX5_priceOfAll 26 = .ok (.invokevirtual 76, 3) := by decide +kernel
theorem dX5_priceOfAll_29 : decode cX5_priceOfAll 29 = .ok (.goto 4, 3) := by decide +kernel
theorem dX5_priceOfAll_32 : decode cX5_priceOfAll 32 = .ok (.iconst 0, 1) := by decide +kernel
theorem dX5_priceOfAll_33 : decode cX5_priceOfAll 33 = .ok (.iadd, 1) := by decide +kernel
theorem dX5_priceOfAll_34 : decode cX5_priceOfAll 34 = .ok (.istore_n 2, 1) := by decide +kernel
theorem dX5_priceOfAll_35 : decode cX5_priceOfAll 35 = .ok (.iinc 3 1, 3) := by decide +kernel
theorem dX5_priceOfAll_38 : decode cX5_priceOfAll 38 = .ok (.goto (-34), 3) := by decide +kernel
theorem dX5_priceOfAll_41 : decode cX5_priceOfAll 41 = .ok (.iload_n 2, 1) := by decide +kernel
theorem dX5_priceOfAll_42 : decode cX5_priceOfAll 42 = .ok (.ireturn, 1) := by decide +kernel
set_option maxRecDepth 20000 in
theorem ggX5_appendCharacter_X5_in : GoodIn wsX5_appendCharacter wsX5_in := goodIn_r _ [6] (by decide +kernel) (by decide +kernel)
set_option maxRecDepth 20000 in
theorem gX5_appendCharacter_X5_in : GoodIn wsX5_appendCharacter (va_wsS RX5 55 yX5_in wsX5_in) := goodIn_app (goodIn_of _ (by decide +kernel)) ggX5_appendCharacter_X5_in
theorem dX5_appendCharacter_0 : decode cX5_appendCharacter 0 = .ok (.iload_n 1, 1) := by decide +kernel
theorem dX5_appendCharacter_1 : decode cX5_appendCharacter 1 = .ok (.bipush 32, 2) := by decide +kernel
theorem dX5_appendCharacter_3 : decode cX5_appendCharacter 3 = .ok (.bipush 126, 2) := by decide +kernel
theorem dX5_appendCharacter_5 : decode cX5_appendCharacter 5 = .ok (.invokestatic 55, 3) := by decide +kernel
theorem dX5_appendCharacter_8 : decode cX5_appendCharacter 8 = .ok (.ifCond .ne 5, 3) := by decide +kernel
theorem dX5_appendCharacter_11 : decode cX5_appendCharacter 11 = .ok (.iconst (-1), 1) := by decide +kernel
theorem dX5_appendCharacter_12 : decode cX5_appendCharacter 12 = .ok (.ireturn, 1) := by decide +kernel
theorem dX5_appendCharacter_13 : decode cX5_appendCharacter 13 = .ok (.aload_n 0, 1) := by decide +kernel
theorem dX5_appendCharacter_14 : decode cX5_appendCharacter 14 = .ok (.getfield 79, 3) := by decide +kernel
theorem dX5_appendCharacter_17 : decode cX5_appendCharacter 17 = .ok (.bipush 60, 2) := by decide +kernel
theorem dX5_appendCharacter_19 : decode cX5_appendCharacter 19 = .ok (.if_icmp .ne 6, 3) := by decide +kernel
theorem dX5_appendCharacter_22 : decode cX5_appendCharacter 22 = .ok (.bipush (-3), 2) := by decide +kernel
theorem dX5_appendCharacter_24 : decode cX5_appendCharacter 24 = .ok (.ireturn, 1) := by decide +kernel
theorem dX5_appendCharacter_25 : decode cX5_appendCharacter 25 = .ok (.aload_n 0, 1) := by decide +kernel
theorem dX5_appendCharacter_26 : decode cX5_appendCharacter 26 = .ok (.getfield 27, 3) := by decide +kernel
theorem dX5_appendCharacter_29 : decode cX5_appendCharacter 29 = .ok (.aload_n 0, 1) := by decide +kernel
theorem dX5_appendCharacter_30 : decode cX5_appendCharacter 30 = .ok (.getfield 79, 3) := by decide +kernel
theorem dX5_appendCharacter_33 : decode cX5_appendCharacter 33 = .ok (.iload_n 1, 1) := by decide +kernel
theorem dX5_appendCharacter_34 : decode cX5_appendCharacter 34 = .ok (.i2b, 1) := by decide +kernel
theorem dX5_appendCharacter_35 : decode cX5_appendCharacter 35 = .ok (.bastore, 1) := by decide +kernel
theorem dX5_appendCharacter_36 : decode cX5_appendCharacter 36 = .ok (.aload_n 0, 1) := by decide +kernel
theorem dX5_appendCharacter_37 : decode cX5_appendCharacter 37 = .ok (.dup, 1) := by decide +kernel
theorem dX5_appendCharacter_38 : decode cX5_appendCharacter 38 = .ok (.getfield 79, 3) := by decide +kernel
theorem dX5_appendCharacter_41 : decode cX5_appendCharacter 41 = .ok (.iconst 1, 1) := by decide +kernel
theorem dX5_appendCharacter_42 : decode cX5_appendCharacter 42 = .ok (.iadd, 1) := by decide +kernel
theorem dX5_appendCharacter_43 : decode cX5_appendCharacter 43 = .ok (.putfield 79, 3) := by decide +kernel
theorem dX5_appendCharacter_46 : decode cX5_appendCharacter 46 = .ok (.aload_n 0, 1) := by decide +kernel
theorem dX5_appendCharacter_47 : decode cX5_appendCharacter 47 = .ok (.getfield 79, 3) := by decide +kernel
theorem dX5_appendCharacter_50 : decode cX5_appendCharacter 50 = .ok (.ireturn, 1) := by decide +kernel
theorem dX5_clearClip_0 : decode cX5_clearClip 0 = .ok (.aload_n 0, 1) := by decide +kernel
theorem dX5_clearClip_1 : decode cX5_clearClip 1 = .ok (.getfield 79, 3) := by decide +kernel
theorem dX5_clearClip_4 : decode cX5_clearClip 4 = .ok (.istore_n 1, 1) := by decide +kernel
theorem dX5_clearClip_5 : decode cX5_clearClip 5 = .ok (.aload_n 0, 1) := by decide +kernel
theorem dX5_clearClip_6 : decode cX5_clearClip 6 = .ok (.iconst 0, 1) := by decide +kernel
theorem dX5_clearClip_7 : decode cX5_clearClip 7 = .ok (.putfield 79, 3) := by decide +kernel
theorem dX5_clearClip_10 : decode cX5_clearClip 10 = .ok (.iload_n 1, 1) := by decide +kernel
theorem dX5_clearClip_11 : decode cX5_clearClip 11 = .ok (.ireturn, 1) := by decide +kernel
theorem dX5_begin_0 : decode cX5_begin 0 = .ok (.iconst 0, 1) := by decide +kernel
theorem dX5_begin_1 : decode cX5_begin 1 = .ok (.istore_n 1, 1) := by decide +kernel
theorem dX5_begin_2 : decode cX5_begin 2 = .ok (.iload_n 1, 1) := by decide +kernel
theorem dX5_begin_3 : decode cX5_begin 3 = .ok (.sipush 516, 3) := by decide +kernel
theorem dX5_begin_6 : decode cX5_begin 6 = .ok (.if_icmp .ge 16, 3) := by decide +kernel
theorem dX5_begin_9 : decode cX5_begin 9 = .ok (.aload_n 0, 1) := by decide +kernel
theorem dX5_begin_10 : decode cX5_begin 10 = .ok (.getfield 7, 3) := by decide +kernel
theorem dX5_begin_13 : decode cX5_begin 13 = .ok (.iload_n 1, 1) := by decide +kernel
theorem dX5_begin_14 : decode cX5_begin 14 = .ok (.iconst 0, 1) := by decide +kernel
theorem dX5_begin_15 : decode cX5_begin 15 = .ok (.iastore, 1) := by decide +kernel
theorem dX5_begin_16 : decode cX5_begin 16 = .ok (.iinc 1 1, 3) := by decide +kernel
theorem dX5_begin_19 : decode cX5_begin 19 = .ok (.goto (-17), 3) := by decide +kernel
theorem dX5_begin_22 : decode cX5_begin 22 = .ok (.iconst 0, 1) := by decide +kernel
theorem dX5_begin_23 : decode cX5_begin 23 = .ok (.istore_n 1, 1) := by decide +kernel
theorem dX5_begin_24 : decode cX5_begin 24 = .ok (.iload_n 1, 1) := by decide +kernel
theorem dX5_begin_25 : decode cX5_begin 25 = .ok (.aload_n 0, 1) := by decide +kernel
theorem dX5_begin_26 : decode cX5_begin 26 = .ok (.getfield 79, 3) := by decide +kernel
theorem dX5_begin_29 : decode cX5_begin 29 = .ok (.if_icmp .ge 34, 3) := by decide +kernel
theorem dX5_begin_32 : decode cX5_begin 32 = .ok (.aload_n 0, 1) := by decide +kernel
theorem dX5_begin_33 : decode cX5_begin 33 = .ok (.getfield 7, 3) := by decide +kernel
theorem dX5_begin_36 : decode cX5_begin 36 = .ok (.iconst 4, 1) := by decide +kernel
theorem dX5_begin_37 : decode cX5_begin 37 = .ok (.iload_n 1, 1) := by decide +kernel
theorem dX5_begin_38 : decode cX5_begin 38 = .ok (.iadd, 1) := by decide +kernel
theorem dX5_begin_39 : decode cX5_begin 39 = .ok (.aload_n 0, 1) := by decide +kernel
theorem dX5_begin_40 : decode cX5_begin 40 = .ok (.getfield 27, 3) := by decide +kernel
theorem dX5_begin_43 : decode cX5_begin 43 = .ok (.iload_n 1, 1) := by decide +kernel
theorem dX5_begin_44 : decode cX5_begin 44 = .ok (.baload, 1) := by decide +kernel
theorem dX5_begin_45 : decode cX5_begin 45 = .ok (.iastore, 1) := by decide +kernel
theorem dX5_begin_46 : decode cX5_begin 46 = .ok (.aload_n 0, 1) := by decide +kernel
theorem dX5_begin_47 : decode cX5_begin 47 = .ok (.getfield 7, 3) := by decide +kernel
theorem dX5_begin_50 : decode cX5_begin 50 = .ok (.sipush 164, 3) := by decide +kernel
theorem dX5_begin_53 : decode cX5_begin 53 = .ok (.iload_n 1, 1) := by decide +kernel
theorem dX5_begin_54 : decode cX5_begin 54 = .ok (.iadd, 1) := by decide +kernel
theorem dX5_begin_55 : decode cX5_begin 55 = .ok (.iconst (-1), 1) := by decide +kernel
theorem dX5_begin_56 : decode cX5_begin 56 = .ok (.iastore, 1) := by decide +kernel
theorem dX5_begin_57 : decode cX5_begin 57 = .ok (.iinc 1 1, 3) := by decide +kernel
theorem dX5_begin_60 : decode cX5_begin 60 = .ok (.goto (-36), 3) := by decide +kernel
theorem dX5_begin_63 : decode cX5_begin 63 = .ok (.aload_n 0, 1) := by decide +kernel
theorem dX5_begin_64 : decode cX5_begin 64 = .ok (.getfield 7, 3) := by decide +kernel
theorem dX5_begin_67 : decode cX5_begin 67 = .ok (.iconst 0, 1) := by decide +kernel
theorem dX5_begin_68 : decode cX5_begin 68 = .ok (.aload_n 0, 1) := by decide +kernel
theorem dX5_begin_69 : decode cX5_begin 69 = .ok (.getfield 79, 3) := by decide +kernel
theorem dX5_begin_72 : decode cX5_begin 72 = .ok (.iastore, 1) := by decide +kernel
theorem dX5_begin_73 : decode cX5_begin 73 = .ok (.aload_n 0, 1) := by decide +kernel
theorem dX5_begin_74 : decode cX5_begin 74 = .ok (.iconst 0, 1) := by decide +kernel
theorem dX5_begin_75 : decode cX5_begin 75 = .ok (.putfield 79, 3) := by decide +kernel
theorem dX5_begin_78 : decode cX5_begin 78 = .ok (.aload_n 0, 1) := by decide +kernel
theorem dX5_begin_79 : decode cX5_begin 79 = .ok (.getfield 7, 3) := by decide +kernel
theorem dX5_begin_82 : decode cX5_begin 82 = .ok (.iconst 0, 1) := by decide +kernel
theorem dX5_begin_83 : decode cX5_begin 83 = .ok (.iaload, 1) := by decide +kernel
theorem dX5_begin_84 : decode cX5_begin 84 = .ok (.ireturn, 1) := by decide +kernel
set_option maxRecDepth 20000 in
theorem ggX5_hasRoom_X5_length : GoodIn wsX5_hasRoom wsX5_length := goodIn_r _ [6, 1, 7, 8, 9, 5, 10, 11, 12, 13, 14, 15, 16, 17, 18, 19, 20, 21, 22, 23, 24, 25, 26, 27, 28, 29, 30, 31] (by decide +kernel) (by decide +kernel)
set_option maxRecDepth 20000 in
theorem gX5_hasRoom_X5_length : GoodIn wsX5_hasRoom (wsV RX5 51 RX5 yX5_length wsX5_length) := goodIn_app (goodIn_of _ (by decide +kernel)) ggX5_hasRoom_X5_length
theorem dX5_hasRoom_0 : decode cX5_hasRoom 0 = .ok (.aload_n 0, 1) := by decide +kernel
theorem dX5_hasRoom_1 : decode cX5_hasRoom 1 = .ok (.getfield 7, 3) := by decide +kernel
theorem dX5_hasRoom_4 : decode cX5_hasRoom 4 = .ok (.iconst 1, 1) := by decide +kernel
theorem dX5_hasRoom_5 : decode cX5_hasRoom 5 = .ok (.iaload, 1) := by decide +kernel
theorem dX5_hasRoom_6 : decode cX5_hasRoom 6 = .ok (.bipush 16, 2) := by decide +kernel
theorem dX5_hasRoom_8 : decode cX5_hasRoom 8 = .ok (.if_icmp .ge 32, 3) := by decide +kernel
theorem dX5_hasRoom_11 : decode cX5_hasRoom 11 = .ok (.aload_n 0, 1) := by decide +kernel
theorem dX5_hasRoom_12 : decode cX5_hasRoom 12 = .ok (.invokevirtual 51, 3) := by decide +kernel
theorem dX5_hasRoom_15 : decode cX5_hasRoom 15 = .ok (.iload_n 1, 1) := by decide +kernel
theorem dX5_hasRoom_16 : decode cX5_hasRoom 16 = .ok (.iadd, 1) := by decide +kernel
theorem dX5_hasRoom_17 : decode cX5_hasRoom 17 = .ok (.bipush 60, 2) := by decide +kernel
theorem dX5_hasRoom_19 : decode cX5_hasRoom 19 = .ok (.if_icmp .gt 21, 3) := by decide +kernel
theorem dX5_hasRoom_22 : decode cX5_hasRoom 22 = .ok (.aload_n 0, 1) := by decide +kernel
theorem dX5_hasRoom_23 : decode cX5_hasRoom 23 = .ok (.getfield 7, 3) := by decide +kernel
theorem dX5_hasRoom_26 : decode cX5_hasRoom 26 = .ok (.iconst 0, 1) := by decide +kernel
theorem dX5_hasRoom_27 : decode cX5_hasRoom 27 = .ok (.iaload, 1) := by decide +kernel
theorem dX5_hasRoom_28 : decode cX5_hasRoom 28 = .ok (.iload_n 1, 1) := by decide +kernel
theorem dX5_hasRoom_29 : decode cX5_hasRoom 29 = .ok (.iadd, 1) := by decide +kernel
theorem dX5_hasRoom_30 : decode cX5_hasRoom 30 = .ok (.sipush 160, 3) := by decide +kernel
theorem dX5_hasRoom_33 : decode cX5_hasRoom 33 = .ok (.if_icmp .gt 7, 3) := by decide +kernel
theorem dX5_hasRoom_36 : decode cX5_hasRoom 36 = .ok (.iconst 1, 1) := by decide +kernel
theorem dX5_hasRoom_37 : decode cX5_hasRoom 37 = .ok (.goto 4, 3) := by decide +kernel
theorem dX5_hasRoom_40 : decode cX5_hasRoom 40 = .ok (.iconst 0, 1) := by decide +kernel
theorem dX5_hasRoom_41 : decode cX5_hasRoom 41 = .ok (.ireturn, 1) := by decide +kernel
set_option maxRecDepth 20000 in
theorem ggX5_opens_X5_at : GoodIn wsX5_opens wsX5_at := goodIn_r _ [6, 1, 7, 8, 9, 5, 10, 11, 12, 13, 14, 15, 16, 17, 18, 19, 20, 21, 22, 23, 24, 25, 26, 27] (by decide +kernel) (by decide +kernel)
set_option maxRecDepth 20000 in
theorem gX5_opens_X5_at : GoodIn wsX5_opens (wsV RX5 82 RX5 yX5_at wsX5_at) := goodIn_app (goodIn_of _ (by decide +kernel)) ggX5_opens_X5_at
theorem dX5_opens_0 : decode cX5_opens 0 = .ok (.iload_n 1, 1) := by decide +kernel
theorem dX5_opens_1 : decode cX5_opens 1 = .ok (.ifCond .ne 7, 3) := by decide +kernel
theorem dX5_opens_4 : decode cX5_opens 4 = .ok (.iconst (-1), 1) := by decide +kernel
theorem dX5_opens_5 : decode cX5_opens 5 = .ok (.goto 10, 3) := by decide +kernel
theorem dX5_opens_8 : decode cX5_opens 8 = .ok (.aload_n 0, 1) := by decide +kernel
theorem dX5_opens_9 : decode cX5_opens 9 = .ok (.iload_n 1, 1) := by decide +kernel
theorem dX5_opens_10 : decode cX5_opens 10 = .ok (.iconst 1, 1) := by decide +kernel
theorem dX5_opens_11 : decode cX5_opens 11 = .ok (.isub, 1) := by decide +kernel
theorem dX5_opens_12 : decode cX5_opens 12 = .ok (.invokevirtual 82, 3) := by decide +kernel
theorem dX5_opens_15 : decode cX5_opens 15 = .ok (.istore_n 3, 1) := by decide +kernel
theorem dX5_opens_16 : decode cX5_opens 16 = .ok (.aload_n 0, 1) := by decide +kernel
theorem dX5_opens_17 : decode cX5_opens 17 = .ok (.getfield 7, 3) := by decide +kernel
theorem dX5_opens_20 : decode cX5_opens 20 = .ok (.iconst 1, 1) := by decide +kernel
theorem dX5_opens_21 : decode cX5_opens 21 = .ok (.iaload, 1) := by decide +kernel
theorem dX5_opens_22 : decode cX5_opens 22 = .ok (.istore 4, 2) := by decide +kernel
theorem dX5_opens_24 : decode cX5_opens 24 = .ok (.aload_n 0, 1) := by decide +kernel
theorem dX5_opens_25 : decode cX5_opens 25 = .ok (.getfield 7, 3) := by decide +kernel
theorem dX5_opens_28 : decode cX5_opens 28 = .ok (.sipush 484, 3) := by decide +kernel
theorem dX5_opens_31 : decode cX5_opens 31 = .ok (.iload 4, 2) := by decide +kernel
theorem dX5_opens_33 : decode cX5_opens 33 = .ok (.iadd, 1) := by decide +kernel
theorem dX5_opens_34 : decode cX5_opens 34 = .ok (.iconst 0, 1) := by decide +kernel
theorem dX5_opens_35 : decode cX5_opens 35 = .ok (.iastore, 1) := by decide +kernel
theorem dX5_opens_36 : decode cX5_opens 36 = .ok (.aload_n 0, 1) := by decide +kernel
theorem dX5_opens_37 : decode cX5_opens 37 = .ok (.getfield 7, 3) := by decide +kernel
theorem dX5_opens_40 : decode cX5_opens 40 = .ok (.sipush 500, 3) := by decide +kernel
theorem dX5_opens_43 : decode cX5_opens 43 = .ok (.iload 4, 2) := by decide +kernel
theorem dX5_opens_45 : decode cX5_opens 45 = .ok (.iadd, 1) := by decide +kernel
theorem dX5_opens_46 : decode cX5_opens 46 = .ok (.iload_n 3, 1) := by decide +kernel
theorem dX5_opens_47 : decode cX5_opens 47 = .ok (.iconst (-1), 1) := by decide +kernel
theorem dX5_opens_48 : decode cX5_opens 48 = .ok (.if_icmp .ne 7, 3) := by decide +kernel
theorem dX5_opens_51 : decode cX5_opens 51 = .ok (.iconst (-1), 1) := by decide +kernel
theorem dX5_opens_52 : decode cX5_opens 52 = .ok (.goto 13, 3) := by decide +kernel
theorem dX5_opens_55 : decode cX5_opens 55 = .ok (.aload_n 0, 1) := by decide +kernel
theorem dX5_opens_56 : decode cX5_opens 56 = .ok (.getfield 7, 3) := by decide +kernel
theorem dX5_opens_59 : decode cX5_opens 59 = .ok (.sipush 164, 3) := by decide +kernel
theorem dX5_opens_62 : decode cX5_opens 62 = .ok (.iload_n 3, 1) := by decide +kernel
theorem dX5_opens_63 : decode cX5_opens 63 = .ok (.iadd, 1) := by decide +kernel
theorem dX5_opens_64 : decode cX5_opens 64 = .ok (.iaload, 1) := by decide +kernel
theorem dX5_opens_65 : decode cX5_opens 65 = .ok (.iastore, 1) := by decide +kernel
theorem dX5_opens_66 : decode cX5_opens 66 = .ok (.aload_n 0, 1) := by decide +kernel
theorem dX5_opens_67 : decode cX5_opens 67 = .ok (.getfield 7, 3) := by decide +kernel
theorem dX5_opens_70 : decode cX5_opens 70 = .ok (.iconst 1, 1) := by decide +kernel
theorem dX5_opens_71 : decode cX5_opens 71 = .ok (.dup2, 1) := by decide +kernel
theorem dX5_opens_72 : decode cX5_opens 72 = .ok (.iaload, 1) := by decide +kernel
theorem dX5_opens_73 : decode cX5_opens 73 = .ok (.iconst 1, 1) := by decide +kernel
theorem dX5_opens_74 : decode cX5_opens 74 = .ok (.iadd, 1) := by decide +kernel
theorem dX5_opens_75 : decode cX5_opens 75 = .ok (.iastore, 1) := by decide +kernel
theorem dX5_opens_76 : decode cX5_opens 76 = .ok (.aload_n 0, 1) := by decide +kernel
theorem dX5_opens_77 : decode cX5_opens 77 = .ok (.getfield 7, 3) := by decide +kernel
theorem dX5_opens_80 : decode cX5_opens 80 = .ok (.iconst 2, 1) := by decide +kernel
theorem dX5_opens_81 : decode cX5_opens 81 = .ok (.dup2, 1) := by decide +kernel
theorem dX5_opens_82 : decode cX5_opens 82 = .ok (.iaload, 1) := by decide +kernel
theorem dX5_opens_83 : decode cX5_opens 83 = .ok (.iconst 1, 1) := by decide +kernel
theorem dX5_opens_84 : decode cX5_opens 84 = .ok (.iload 4, 2) := by decide +kernel
theorem dX5_opens_86 : decode cX5_opens 86 = .ok (.ishl, 1) := by decide +kernel
theorem dX5_opens_87 : decode cX5_opens 87 = .ok (.ior, 1) := by decide +kernel
theorem dX5_opens_88 : decode cX5_opens 88 = .ok (.iastore, 1) := by decide +kernel
theorem dX5_opens_89 : decode cX5_opens 89 = .ok (.aload_n 0, 1) := by decide +kernel
theorem dX5_opens_90 : decode cX5_opens 90 = .ok (.getfield 7, 3) := by decide +kernel
theorem dX5_opens_93 : decode cX5_opens 93 = .ok (.iconst 0, 1) := by decide +kernel
theorem dX5_opens_94 : decode cX5_opens 94 = .ok (.iaload, 1) := by decide +kernel
theorem dX5_opens_95 : decode cX5_opens 95 = .ok (.iconst 1, 1) := by decide +kernel
theorem dX5_opens_96 : decode cX5_opens 96 = .ok (.isub, 1) := by decide +kernel
theorem dX5_opens_97 : decode cX5_opens 97 = .ok (.istore 5, 2) := by decide +kernel
theorem dX5_opens_99 : decode cX5_opens 99 = .ok (.iload 5, 2) := by decide +kernel
theorem dX5_opens_101 : decode cX5_opens 101 = .ok (.iload_n 3, 1) := by decide +kernel
theorem dX5_opens_102 : decode cX5_opens 102 = .ok (.if_icmp .le 77, 3) := by decide +kernel
theorem dX5_opens_105 : decode cX5_opens 105 = .ok (.aload_n 0, 1) := by decide +kernel
theorem dX5_opens_106 : decode cX5_opens 106 = .ok (.getfield 7, 3) := by decide +kernel
theorem dX5_opens_109 : decode cX5_opens 109 = .ok (.iconst 4, 1) := by decide +kernel
theorem dX5_opens_110 : decode cX5_opens 110 = .ok (.iload 5, 2) := by decide +kernel
theorem dX5_opens_112 : decode cX5_opens 112 = .ok (.iadd, 1) := by decide +kernel
theorem dX5_opens_113 : decode cX5_opens 113 = .ok (.iload_n 2, 1) := by decide +kernel
theorem dX5_opens_114 : decode cX5_opens 114 = .ok (.iadd, 1) := by decide +kernel
theorem dX5_opens_115 : decode cX5_opens 115 = .ok (.aload_n 0, 1) := by decide +kernel
theorem dX5_opens_116 : decode cX5_opens 116 = .ok (.getfield 7, 3) := by decide +kernel
theorem dX5_opens_119 : decode cX5_opens 119 = .ok (.iconst 4, 1) := by decide +kernel
theorem dX5_opens_120 : decode cX5_opens 120 = .ok (.iload 5, 2) := by decide +kernel
theorem dX5_opens_122 : decode cX5_opens 122 = .ok (.iadd, 1) := by decide +kernel
theorem dX5_opens_123 : decode cX5_opens 123 = .ok (.iaload, 1) := by decide +kernel
theorem dX5_opens_124 : decode cX5_opens 124 = .ok (.iastore, 1) := by decide +kernel
theorem dX5_opens_125 : decode cX5_opens 125 = .ok (.aload_n 0, 1) := by decide +kernel
theorem dX5_opens_126 : decode cX5_opens 126 = .ok (.getfield 7, 3) := by decide +kernel
theorem dX5_opens_129 : decode cX5_opens 129 = .ok (.sipush 164, 3) := by decide +kernel
theorem dX5_opens_132 : decode cX5_opens 132 = .ok (.iload 5, 2) := by decide +kernel
theorem dX5_opens_134 : decode cX5_opens 134 = .ok (.iadd, 1) := by decide +kernel
theorem dX5_opens_135 : decode cX5_opens 135 = .ok (.iload_n 2, 1) := by decide +kernel
theorem dX5_opens_136 : decode cX5_opens 136 = .ok (.iadd, 1) := by decide +kernel
theorem dX5_opens_137 : decode cX5_opens 137 = .ok (.aload_n 0, 1) := by decide +kernel
theorem dX5_opens_138 : decode cX5_opens 138 = .ok (.getfield 7, 3) := by decide +kernel
theorem dX5_opens_141 : decode cX5_opens 141 = .ok (.sipush 164, 3) := by decide +kernel
theorem dX5_opens_144 : decode cX5_opens 144 = .ok (.iload 5, 2) := by decide +kernel
theorem dX5_opens_146 : decode cX5_opens 146 = .ok (.iadd, 1) := by decide +kernel
theorem dX5_opens_147 : decode cX5_opens 147 = .ok (.iaload, 1) := by decide +kernel
theorem dX5_opens_148 : decode cX5_opens 148 = .ok (.iastore, 1) := by decide +kernel
theorem dX5_opens_149 : decode cX5_opens 149 = .ok (.aload_n 0, 1) := by decide +kernel
theorem dX5_opens_150 : decode cX5_opens 150 = .ok (.getfield 7, 3) := by decide +kernel
theorem dX5_opens_153 : decode cX5_opens 153 = .ok (.sipush 324, 3) := by decide +kernel
theorem dX5_opens_156 : decode cX5_opens 156 = .ok (.iload 5, 2) := by decide +kernel
theorem dX5_opens_158 : decode cX5_opens 158 = .ok (.iadd, 1) := by decide +kernel
theorem dX5_opens_159 : decode cX5_opens 159 = .ok (.iload_n 2, 1) := by decide +kernel
theorem dX5_opens_160 : decode cX5_opens 160 = .ok (.iadd, 1) := by decide +kernel
theorem dX5_opens_161 : decode cX5_opens 161 = .ok (.aload_n 0, 1) := by decide +kernel
theorem dX5_opens_162 : decode cX5_opens 162 = .ok (.getfield 7, 3) := by decide +kernel
theorem dX5_opens_165 : decode cX5_opens 165 = .ok (.sipush 324, 3) := by decide +kernel
theorem dX5_opens_168 : decode cX5_opens 168 = .ok (.iload 5, 2) := by decide +kernel
theorem dX5_opens_170 : decode cX5_opens 170 = .ok (.iadd, 1) := by decide +kernel
theorem dX5_opens_171 : decode cX5_opens 171 = .ok (.iaload, 1) := by decide +kernel
theorem dX5_opens_172 : decode cX5_opens 172 = .ok (.iastore, 1) := by decide +kernel
theorem dX5_opens_173 : decode cX5_opens 173 = .ok (.iinc 5 (-1), 3) := by decide +kernel
theorem dX5_opens_176 : decode cX5_opens 176 = .ok (.goto (-77), 3) := by decide +kernel
theorem dX5_opens_179 : decode cX5_opens 179 = .ok (.aload_n 0, 1) := by decide +kernel
theorem dX5_opens_180 : decode cX5_opens 180 = .ok (.getfield 7, 3) := by decide +kernel
theorem dX5_opens_183 : decode cX5_opens 183 = .ok (.iconst 0, 1) := by decide +kernel
theorem dX5_opens_184 : decode cX5_opens 184 = .ok (.dup2, 1) := by decide +kernel
theorem dX5_opens_185 : decode cX5_opens 185 = .ok (.iaload, 1) := by decide +kernel
theorem dX5_opens_186 : decode cX5_opens 186 = .ok (.iload_n 2, 1) := by decide +kernel
theorem dX5_opens_187 : decode cX5_opens 187 = .ok (.iadd, 1) := by decide +kernel
theorem dX5_opens_188 : decode cX5_opens 188 = .ok (.iastore, 1) := by decide +kernel
theorem dX5_opens_189 : decode cX5_opens 189 = .ok (.iload_n 3, 1) := by decide +kernel
theorem dX5_opens_190 : decode cX5_opens 190 = .ok (.iconst 1, 1) := by decide +kernel
theorem dX5_opens_191 : decode cX5_opens 191 = .ok (.iadd, 1) := by decide +kernel
theorem dX5_opens_192 : decode cX5_opens 192 = .ok (.ireturn, 1) := by decide +kernel
theorem dX5_lays_0 : decode cX5_lays 0 = .ok (.aload_n 0, 1) := by decide +kernel
theorem dX5_lays_1 : decode cX5_lays 1 = .ok (.getfield 7, 3) := by decide +kernel
theorem dX5_lays_4 : decode cX5_lays 4 = .ok (.iconst 4, 1) := by decide +kernel
theorem dX5_lays_5 : decode cX5_lays 5 = .ok (.iload_n 1, 1) := by decide +kernel
theorem dX5_lays_6 : decode cX5_lays 6 = .ok (.iadd, 1) := by decide +kernel
theorem dX5_lays_7 : decode cX5_lays 7 = .ok (.iload_n 2, 1) := by decide +kernel
theorem dX5_lays_8 : decode cX5_lays 8 = .ok (.iastore, 1) := by decide +kernel
theorem dX5_lays_9 : decode cX5_lays 9 = .ok (.aload_n 0, 1) := by decide +kernel
theorem dX5_lays_10 : decode cX5_lays 10 = .ok (.getfield 7, 3) := by decide +kernel
theorem dX5_lays_13 : decode cX5_lays 13 = .ok (.sipush 164, 3) := by decide +kernel
theorem dX5_lays_16 : decode cX5_lays 16 = .ok (.iload_n 1, 1) := by decide +kernel
theorem dX5_lays_17 : decode cX5_lays 17 = .ok (.iadd, 1) := by decide +kernel
theorem dX5_lays_18 : decode cX5_lays 18 = .ok (.aload_n 0, 1) := by decide +kernel
theorem dX5_lays_19 : decode cX5_lays 19 = .ok (.getfield 7, 3) := by decide +kernel
theorem dX5_lays_22 : decode cX5_lays 22 = .ok (.iconst 1, 1) := by decide +kernel
theorem dX5_lays_23 : decode cX5_lays 23 = .ok (.iaload, 1) := by decide +kernel
theorem dX5_lays_24 : decode cX5_lays 24 = .ok (.iconst 1, 1) := by decide +kernel
theorem dX5_lays_25 : decode cX5_lays 25 = .ok (.isub, 1) := by decide +kernel
theorem dX5_lays_26 : decode cX5_lays 26 = .ok (.iastore, 1) := by decide +kernel
theorem dX5_lays_27 : decode cX5_lays 27 = .ok (.aload_n 0, 1) := by decide +kernel
theorem dX5_lays_28 : decode cX5_lays 28 = .ok (.getfield 7, 3) := by decide +kernel
theorem dX5_lays_31 : decode cX5_lays 31 = .ok (.sipush 324, 3) := by decide +kernel
theorem dX5_lays_34 : decode cX5_lays 34 = .ok (.iload_n 1, 1) := by decide +kernel
theorem dX5_lays_35 : decode cX5_lays 35 = .ok (.iadd, 1) := by decide +kernel
theorem dX5_lays_36 : decode cX5_lays 36 = .ok (.iconst 0, 1) := by decide +kernel
theorem dX5_lays_37 : decode cX5_lays 37 = .ok (.iastore, 1) := by decide +kernel
theorem dX5_lays_38 : decode cX5_lays 38 = .ok (.return_, 1) := by decide +kernel
set_option maxRecDepth 20000 in
theorem ggX5_insert_X5_length : GoodIn wsX5_insert wsX5_length := goodIn_r _ [8, 3, 9, 10, 11, 7, 12, 13, 14, 15, 16, 36, 37, 38, 39, 40, 41, 42, 43, 44, 45, 46, 47, 48, 49, 50, 51, 52] (by decide +kernel) (by decide +kernel)
set_option maxRecDepth 20000 in
theorem gX5_insert_X5_length : GoodIn wsX5_insert (wsV RX5 51 RX5 yX5_length wsX5_length) := goodIn_app (goodIn_of _ (by decide +kernel)) ggX5_insert_X5_length
set_option maxRecDepth 20000 in
theorem ggX5_insert_X5_in : GoodIn wsX5_insert wsX5_in := goodIn_r _ [19] (by decide +kernel) (by decide +kernel)
set_option maxRecDepth 20000 in
theorem gX5_insert_X5_in : GoodIn wsX5_insert (va_wsS RX5 55 yX5_in wsX5_in) := goodIn_app (goodIn_of _ (by decide +kernel)) ggX5_insert_X5_in
set_option maxRecDepth 20000 in
theorem ggX5_insert_X5_hasRoom : GoodIn wsX5_insert wsX5_hasRoom := goodIn_r _ [23, 3, 4, 5, 6, 7, 8, 9, 10, 11, 12, 13, 14, 15, 16, 36, 37, 38, 39, 40, 41, 42, 43, 44, 45, 46, 47, 48, 49, 50, 51, 52] (by decide +kernel) (by decide +kernel)
set_option maxRecDepth 20000 in
theorem gX5_insert_X5_hasRoom : GoodIn wsX5_insert (wsV RX5 85 RX5 yX5_hasRoom wsX5_hasRoom) := goodIn_app (goodIn_of _ (by decide +kernel)) ggX5_insert_X5_hasRoom
set_option maxRecDepth 20000 in
theorem ggX5_insert_X5_opens : GoodIn wsX5_insert wsX5_opens := goodIn_r _ [27, 3, 28, 29, 30, 7, 31, 13, 14, 15, 16, 36, 37, 38, 39, 40, 41, 42, 43, 44, 45, 46, 47, 48, 49, 50, 51, 52] (by decide +kernel) (by decide +kernel)
set_option maxRecDepth 20000 in
theorem gX5_insert_X5_opens : GoodIn wsX5_insert (wsV RX5 88 RX5 yX5_opens wsX5_opens) := goodIn_app (goodIn_of _ (by decide +kernel)) ggX5_insert_X5_opens
set_option maxRecDepth 20000 in
theorem ggX5_insert_X5_lays : GoodIn wsX5_insert wsX5_lays := goodIn_r _ [35, 3, 36, 37, 38, 39, 40, 41, 42, 43, 44, 45, 46, 47, 48, 49, 50, 51, 52] (by decide +kernel) (by decide +kernel)
set_option maxRecDepth 20000 in
theorem gX5_insert_X5_lays : GoodIn wsX5_insert (wsV RX5 91 RX5 yX5_lays wsX5_lays) := goodIn_app (goodIn_of _ (by decide +kernel)) ggX5_insert_X5_lays
theorem dX5_insert_0 : decode cX5_insert 0 = .ok (.iload_n 1, 1) := by decide +kernel
theorem dX5_insert_1 : decode cX5_insert 1 = .ok (.iconst 0, 1) := by decide +kernel
theorem dX5_insert_2 : decode cX5_insert 2 = .ok (.aload_n 0, 1) := by decide +kernel
theorem dX5_insert_3 : decode cX5_insert 3 = .ok (.invokevirtual 51, 3) := by decide +kernel
theorem dX5_insert_6 : decode cX5_insert 6 = .ok (.invokestatic 55, 3) := by decide +kernel
theorem dX5_insert_9 : decode cX5_insert 9 = .ok (.ifCond .ne 5, 3) := by decide +kernel
theorem dX5_insert_12 : decode cX5_insert 12 = .ok (.iconst (-1), 1) := by decide +kernel
theorem dX5_insert_13 : decode cX5_insert 13 = .ok (.ireturn, 1) := by decide +kernel
theorem dX5_insert_14 : decode cX5_insert 14 = .ok (.aload_n 0, 1) := by decide +kernel
theorem dX5_insert_15 : decode cX5_insert 15 = .ok (.getfield 79, 3) := by decide +kernel
theorem dX5_insert_18 : decode cX5_insert 18 = .ok (.iconst 1, 1) := by decide +kernel
theorem dX5_insert_19 : decode cX5_insert 19 = .ok (.bipush 8, 2) := by decide +kernel
theorem dX5_insert_21 : decode cX5_insert 21 = .ok (.invokestatic 55, 3) := by decide +kernel
theorem dX5_insert_24 : decode cX5_insert 24 = .ok (.ifCond .ne 6, 3) := by decide +kernel
theorem dX5_insert_27 : decode cX5_insert 27 = .ok (.bipush (-2), 2) := by decide +kernel
theorem dX5_insert_29 : decode cX5_insert 29 = .ok (.ireturn, 1) := by decide +kernel
theorem dX5_insert_30 : decode cX5_insert 30 = .ok (.aload_n 0, 1) := by decide +kernel
theorem dX5_insert_31 : decode cX5_insert 31 = .ok (.aload_n 0, 1) := by decide +kernel
theorem dX5_insert_32 : decode cX5_insert 32 = .ok (.getfield 79, 3) := by decide +kernel
theorem dX5_insert_35 : decode cX5_insert 35 = .ok (.invokevirtual 85, 3) := by decide +kernel
theorem dX5_insert_38 : decode cX5_insert 38 = .ok (.ifCond .ne 6, 3) := by decide +kernel
theorem dX5_insert_41 : decode cX5_insert 41 = .ok (.bipush (-3), 2) := by decide +kernel
theorem dX5_insert_43 : decode cX5_insert 43 = .ok (.ireturn, 1) := by decide +kernel
theorem dX5_insert_44 : decode cX5_insert 44 = .ok (.aload_n 0, 1) := by decide +kernel
theorem dX5_insert_45 : decode cX5_insert 45 = .ok (.iload_n 1, 1) := by decide +kernel
theorem dX5_insert_46 : decode cX5_insert 46 = .ok (.aload_n 0, 1) := by decide +kernel
theorem dX5_insert_47 : decode cX5_insert 47 = .ok (.getfield 79, 3) := by decide +kernel
theorem dX5_insert_50 : decode cX5_insert 50 = .ok (.invokevirtual 88, 3) := by decide +kernel
theorem dX5_insert_53 : decode cX5_insert 53 = .ok (.istore_n 2, 1) := by decide +kernel
theorem dX5_insert_54 : decode cX5_insert 54 = .ok (.iconst 0, 1) := by decide +kernel
theorem dX5_insert_55 : decode cX5_insert 55 = .ok (.istore_n 3, 1) := by decide +kernel
theorem dX5_insert_56 : decode cX5_insert 56 = .ok (.iload_n 3, 1) := by decide +kernel
theorem dX5_insert_57 : decode cX5_insert 57 = .ok (.aload_n 0, 1) := by decide +kernel
theorem dX5_insert_58 : decode cX5_insert 58 = .ok (.getfield 79, 3) := by decide +kernel
theorem dX5_insert_61 : decode cX5_insert 61 = .ok (.if_icmp .ge 22, 3) := by decide +kernel
theorem dX5_insert_64 : decode cX5_insert 64 = .ok (.aload_n 0, 1) := by decide +kernel
theorem dX5_insert_65 : decode cX5_insert 65 = .ok (.iload_n 2, 1) := by decide +kernel
theorem dX5_insert_66 : decode cX5_insert 66 = .ok (.iload_n 3, 1) := by decide +kernel
theorem dX5_insert_67 : decode cX5_insert 67 = .ok (.iadd, 1) := by decide +kernel
theorem dX5_insert_68 : decode cX5_insert 68 = .ok (.aload_n 0, 1) := by decide +kernel
theorem dX5_insert_69 : decode cX5_insert 69 = .ok (.getfield 27, 3) := by decide +kernel
theorem dX5_insert_72 : decode cX5_insert 72 = .ok (.iload_n 3, 1) := by decide +kernel
theorem dX5_insert_73 : decode cX5_insert 73 = .ok (.baload, 1) := by decide +kernel
theorem dX5_insert_74 : decode cX5_insert 74 = .ok (.invokevirtual 91, 3) := by decide +kernel
theorem dX5_insert_77 : decode cX5_insert 77 = .ok (.iinc 3 1, 3) := by decide +kernel
theorem dX5_insert_80 : decode cX5_insert 80 = .ok (.goto (-24), 3) := by decide +kernel
theorem dX5_insert_83 : decode cX5_insert 83 = .ok (.aload_n 0, 1) := by decide +kernel
theorem dX5_insert_84 : decode cX5_insert 84 = .ok (.iconst 0, 1) := by decide +kernel
theorem dX5_insert_85 : decode cX5_insert 85 = .ok (.putfield 79, 3) := by decide +kernel
theorem dX5_insert_88 : decode cX5_insert 88 = .ok (.aload_n 0, 1) := by decide +kernel
theorem dX5_insert_89 : decode cX5_insert 89 = .ok (.getfield 7, 3) := by decide +kernel
theorem dX5_insert_92 : decode cX5_insert 92 = .ok (.iconst 1, 1) := by decide +kernel
theorem dX5_insert_93 : decode cX5_insert 93 = .ok (.iaload, 1) := by decide +kernel
theorem dX5_insert_94 : decode cX5_insert 94 = .ok (.iconst 1, 1) := by decide +kernel
theorem dX5_insert_95 : decode cX5_insert 95 = .ok (.isub, 1) := by decide +kernel
theorem dX5_insert_96 : decode cX5_insert 96 = .ok (.ireturn, 1) := by decide +kernel
set_option maxRecDepth 20000 in
theorem ggX5_erases_X5_length : GoodIn wsX5_erases wsX5_length := goodIn_r _ [6, 1, 7, 8, 9, 5, 10, 11, 12, 13, 14, 22, 23, 24, 25, 26, 27, 28, 29, 30, 31, 32, 33, 34, 35, 36, 37, 38] (by decide +kernel) (by decide +kernel)
set_option maxRecDepth 20000 in
theorem gX5_erases_X5_length : GoodIn wsX5_erases (wsV RX5 51 RX5 yX5_length wsX5_length) := goodIn_app (goodIn_of _ (by decide +kernel)) ggX5_erases_X5_length
set_option maxRecDepth 20000 in
theorem ggX5_erases_X5_in : GoodIn wsX5_erases wsX5_in := goodIn_r _ [17] (by decide +kernel) (by decide +kernel)
set_option maxRecDepth 20000 in
theorem gX5_erases_X5_in : GoodIn wsX5_erases (va_wsS RX5 55 yX5_in wsX5_in) := goodIn_app (goodIn_of _ (by decide +kernel)) ggX5_erases_X5_in
set_option maxRecDepth 20000 in
theorem ggX5_erases_X5_isVisible : GoodIn wsX5_erases wsX5_isVisible := goodIn_r _ [14, 1, 22, 23, 24, 25, 26, 27, 28, 29, 30, 31, 32, 33, 34, 35, 36, 37, 38] (by decide +kernel) (by decide +kernel)
set_option maxRecDepth 20000 in
theorem gX5_erases_X5_isVisible : GoodIn wsX5_erases (wsV RX5 43 RX5 yX5_isVisible wsX5_isVisible) := goodIn_app (goodIn_of _ (by decide +kernel)) ggX5_erases_X5_isVisible
set_option maxRecDepth 20000 in
theorem ggX5_erases_X5_cutsCursor : GoodIn wsX5_erases wsX5_cutsCursor := goodIn_r _ [21, 1, 2, 3, 4, 5, 6, 7, 8, 9, 10, 11, 12, 13, 14, 22, 23, 24, 25, 26, 27, 28, 29, 30, 31, 32, 33, 34, 35, 36, 37, 38] (by decide +kernel) (by decide +kernel)
set_option maxRecDepth 20000 in
theorem gX5_erases_X5_cutsCursor : GoodIn wsX5_erases (wsV RX5 95 RX5 yX5_cutsCursor wsX5_cutsCursor) := goodIn_app (goodIn_of _ (by decide +kernel)) ggX5_erases_X5_cutsCursor
theorem dX5_erases_0 : decode cX5_erases 0 = .ok (.aload_n 0, 1) := by decide +kernel
theorem dX5_erases_1 : decode cX5_erases 1 = .ok (.invokevirtual 51, 3) := by decide +kernel
theorem dX5_erases_4 : decode cX5_erases 4 = .ok (.istore_n 3, 1) := by decide +kernel
theorem dX5_erases_5 : decode cX5_erases 5 = .ok (.iload_n 1, 1) := by decide +kernel
theorem dX5_erases_6 : decode cX5_erases 6 = .ok (.iconst 0, 1) := by decide +kernel
theorem dX5_erases_7 : decode cX5_erases 7 = .ok (.iload_n 3, 1) := by decide +kernel
theorem dX5_erases_8 : decode cX5_erases 8 = .ok (.iconst 1, 1) := by decide +kernel
theorem dX5_erases_9 : decode cX5_erases 9 = .ok (.isub, 1) := by decide +kernel
theorem dX5_erases_10 : decode cX5_erases 10 = .ok (.invokestatic 55, 3) := by decide +kernel
theorem dX5_erases_13 : decode cX5_erases 13 = .ok (.ifCond .eq 14, 3) := by decide +kernel
theorem dX5_erases_16 : decode cX5_erases 16 = .ok (.iload_n 2, 1) := by decide +kernel
theorem dX5_erases_17 : decode cX5_erases 17 = .ok (.iload_n 1, 1) := by decide +kernel
theorem dX5_erases_18 : decode cX5_erases 18 = .ok (.iconst 1, 1) := by decide +kernel
theorem dX5_erases_19 : decode cX5_erases 19 = .ok (.iadd, 1) := by decide +kernel
theorem dX5_erases_20 : decode cX5_erases 20 = .ok (.iload_n 3, 1) := by decide +kernel
theorem dX5_erases_21 : decode cX5_erases 21 = .ok (.invokestatic 55, 3) := by decide +kernel
theorem dX5_erases_24 : decode cX5_erases 24 = .ok (.ifCond .ne 5, 3) := by decide +kernel
theorem dX5_erases_27 : decode cX5_erases 27 = .ok (.iconst (-1), 1) := by decide +kernel
theorem dX5_erases_28 : decode cX5_erases 28 = .ok (.ireturn, 1) := by decide +kernel
theorem dX5_erases_29 : decode cX5_erases 29 = .ok (.aload_n 0, 1) := by decide +kernel
theorem dX5_erases_30 : decode cX5_erases 30 = .ok (.getfield 7, 3) := by decide +kernel
theorem dX5_erases_33 : decode cX5_erases 33 = .ok (.iconst 1, 1) := by decide +kernel
theorem dX5_erases_34 : decode cX5_erases 34 = .ok (.iaload, 1) := by decide +kernel
theorem dX5_erases_35 : decode cX5_erases 35 = .ok (.bipush 16, 2) := by decide +kernel
theorem dX5_erases_37 : decode cX5_erases 37 = .ok (.if_icmp .ne 6, 3) := by decide +kernel
theorem dX5_erases_40 : decode cX5_erases 40 = .ok (.bipush (-3), 2) := by decide +kernel
theorem dX5_erases_42 : decode cX5_erases 42 = .ok (.ireturn, 1) := by decide +kernel
theorem dX5_erases_43 : decode cX5_erases 43 = .ok (.aload_n 0, 1) := by decide +kernel
theorem dX5_erases_44 : decode cX5_erases 44 = .ok (.getfield 7, 3) := by decide +kernel
theorem dX5_erases_47 : decode cX5_erases 47 = .ok (.iconst 1, 1) := by decide +kernel
theorem dX5_erases_48 : decode cX5_erases 48 = .ok (.iaload, 1) := by decide +kernel
theorem dX5_erases_49 : decode cX5_erases 49 = .ok (.istore 4, 2) := by decide +kernel
theorem dX5_erases_51 : decode cX5_erases 51 = .ok (.iconst 0, 1) := by decide +kernel
theorem dX5_erases_52 : decode cX5_erases 52 = .ok (.istore 5, 2) := by decide +kernel
theorem dX5_erases_54 : decode cX5_erases 54 = .ok (.iconst 0, 1) := by decide +kernel
theorem dX5_erases_55 : decode cX5_erases 55 = .ok (.istore 6, 2) := by decide +kernel
theorem dX5_erases_57 : decode cX5_erases 57 = .ok (.iload 6, 2) := by decide +kernel
theorem dX5_erases_59 : decode cX5_erases 59 = .ok (.aload_n 0, 1) := by decide +kernel
theorem dX5_erases_60 : decode cX5_erases 60 = .ok (.getfield 7, 3) := by decide +kernel
theorem dX5_erases_63 : decode cX5_erases 63 = .ok (.iconst 0, 1) := by decide +kernel
theorem dX5_erases_64 : decode cX5_erases 64 = .ok (.iaload, 1) := by decide +kernel
theorem dX5_erases_65 : decode cX5_erases 65 = .ok (.if_icmp .ge 77, 3) := by decide +kernel
theorem dX5_erases_68 : decode cX5_erases 68 = .ok (.aload_n 0, 1) := by decide +kernel
theorem dX5_erases_69 : decode cX5_erases 69 = .ok (.iload 6, 2) := by decide +kernel
theorem dX5_erases_71 : decode cX5_erases 71 = .ok (.aload_n 0, 1) := by decide +kernel
theorem dX5_erases_72 : decode cX5_erases 72 = .ok (.getfield 7, 3) := by decide +kernel
theorem dX5_erases_75 : decode cX5_erases 75 = .ok (.iconst 2, 1) := by decide +kernel
theorem dX5_erases_76 : decode cX5_erases 76 = .ok (.iaload, 1) := by decide +kernel
theorem dX5_erases_77 : decode cX5_erases 77 = .ok (.invokevirtual 43, 3) := by decide +kernel
theorem dX5_erases_80 : decode cX5_erases 80 = .ok (.istore 7, 2) := by decide +kernel
theorem dX5_erases_82 : decode cX5_erases 82 = .ok (.aload_n 0, 1) := by decide +kernel
theorem dX5_erases_83 : decode cX5_erases 83 = .ok (.getfield 7, 3) := by decide +kernel
theorem dX5_erases_86 : decode cX5_erases 86 = .ok (.sipush 324, 3) := by decide +kernel
theorem dX5_erases_89 : decode cX5_erases 89 = .ok (.iload 6, 2) := by decide +kernel
theorem dX5_erases_91 : decode cX5_erases 91 = .ok (.iadd, 1) := by decide +kernel
theorem dX5_erases_92 : decode cX5_erases 92 = .ok (.dup2, 1) := by decide +kernel
theorem dX5_erases_93 : decode cX5_erases 93 = .ok (.iaload, 1) := by decide +kernel
theorem dX5_erases_94 : decode cX5_erases 94 = .ok (.iload 7, 2) := by decide +kernel
theorem dX5_erases_96 : decode cX5_erases 96 = .ok (.ifCond .eq 22, 3) := by decide +kernel
theorem dX5_erases_99 : decode cX5_erases 99 = .ok (.iload 5, 2) := by decide +kernel
theorem dX5_erases_101 : decode cX5_erases 101 = .ok (.iload_n 1, 1) := by decide +kernel
theorem dX5_erases_102 : decode cX5_erases 102 = .ok (.if_icmp .lt 16, 3) := by decide +kernel
theorem dX5_erases_105 : decode cX5_erases 105 = .ok (.iload 5, 2) := by decide +kernel
theorem dX5_erases_107 : decode cX5_erases 107 = .ok (.iload_n 2, 1) := by decide +kernel
theorem dX5_erases_108 : decode cX5_erases 108 = .ok (.if_icmp .ge 10, 3) := by decide +kernel
theorem dX5_erases_111 : decode cX5_erases 111 = .ok (.iconst 1, 1) := by decide +kernel
theorem dX5_erases_112 : decode cX5_erases 112 = .ok (.iload 4, 2) := by decide +kernel
theorem dX5_erases_114 : decode cX5_erases 114 = .ok (.ishl, 1) := by decide +kernel
theorem dX5_erases_115 : decode cX5_erases 115 = .ok (.goto 4, 3) := by decide +kernel
theorem dX5_erases_118 : decode cX5_erases 118 = .ok (.iconst 0, 1) := by decide +kernel
theorem dX5_erases_119 : decode cX5_erases 119 = .ok (.ior, 1) := by decide +kernel
theorem dX5_erases_120 : decode cX5_erases 120 = .ok (.iastore, 1) := by decide +kernel
theorem dX5_erases_121 : decode cX5_erases 121 = .ok (.iload 5, 2) := by decide +kernel
theorem dX5_erases_123 : decode cX5_erases 123 = .ok (.iload 7, 2) := by decide +kernel
theorem dX5_erases_125 : decode cX5_erases 125 = .ok (.ifCond .eq 7, 3) := by decide +kernel
theorem dX5_erases_128 : decode cX5_erases 128 = .ok (.iconst 1, 1) := by decide +kernel
theorem dX5_erases_129 : decode cX5_erases 129 = .ok (.goto 4, 3) := by decide +kernel
theorem dX5_erases_132 : decode cX5_erases 132 = .ok (.iconst 0, 1) := by decide +kernel
theorem dX5_erases_133 : decode cX5_erases 133 = .ok (.iadd, 1) := by decide +kernel
theorem dX5_erases_134 : decode cX5_erases 134 = .ok (.istore 5, 2) := by decide +kernel
theorem dX5_erases_136 : decode cX5_erases 136 = .ok (.iinc 6 1, 3) := by decide +kernel
theorem dX5_erases_139 : decode cX5_erases 139 = .ok (.goto (-82), 3) := by decide +kernel
theorem dX5_erases_142 : decode cX5_erases 142 = .ok (.aload_n 0, 1) := by decide +kernel
theorem dX5_erases_143 : decode cX5_erases 143 = .ok (.getfield 7, 3) := by decide +kernel
theorem dX5_erases_146 : decode cX5_erases 146 = .ok (.sipush 484, 3) := by decide +kernel
theorem dX5_erases_149 : decode cX5_erases 149 = .ok (.iload 4, 2) := by decide +kernel
theorem dX5_erases_151 : decode cX5_erases 151 = .ok (.iadd, 1) := by decide +kernel
theorem dX5_erases_152 : decode cX5_erases 152 = .ok (.iconst 1, 1) := by decide +kernel
theorem dX5_erases_153 : decode cX5_erases 153 = .ok (.iastore, 1) := by decide +kernel
theorem dX5_erases_154 : decode cX5_erases 154 = .ok (.aload_n 0, 1) := by decide +kernel
theorem dX5_erases_155 : decode cX5_erases 155 = .ok (.getfield 7, 3) := by decide +kernel
theorem dX5_erases_158 : decode cX5_erases 158 = .ok (.sipush 500, 3) := by decide +kernel
theorem dX5_erases_161 : decode cX5_erases 161 = .ok (.iload 4, 2) := by decide +kernel
theorem dX5_erases_163 : decode cX5_erases 163 = .ok (.iadd, 1) := by decide +kernel
theorem dX5_erases_164 : decode cX5_erases 164 = .ok (.iconst (-1), 1) := by decide +kernel
theorem dX5_erases_165 : decode cX5_erases 165 = .ok (.iastore, 1) := by decide +kernel
theorem dX5_erases_166 : decode cX5_erases 166 = .ok (.aload_n 0, 1) := by decide +kernel
theorem dX5_erases_167 : decode cX5_erases 167 = .ok (.getfield 7, 3) := by decide +kernel
theorem dX5_erases_170 : decode cX5_erases 170 = .ok (.iconst 1, 1) := by decide +kernel
theorem dX5_erases_171 : decode cX5_erases 171 = .ok (.dup2, 1) := by decide +kernel
theorem dX5_erases_172 : decode cX5_erases 172 = .ok (.iaload, 1) := by decide +kernel
theorem dX5_erases_173 : decode cX5_erases 173 = .ok (.iconst 1, 1) := by decide +kernel
theorem dX5_erases_174 : decode cX5_erases 174 = .ok (.iadd, 1) := by decide +kernel
theorem dX5_erases_175 : decode cX5_erases 175 = .ok (.iastore, 1) := by decide +kernel
theorem dX5_erases_176 : decode cX5_erases 176 = .ok (.aload_n 0, 1) := by decide +kernel
theorem dX5_erases_177 : decode cX5_erases 177 = .ok (.getfield 7, 3) := by decide +kernel
theorem dX5_erases_180 : decode cX5_erases 180 = .ok (.iconst 2, 1) := by decide +kernel
theorem dX5_erases_181 : decode cX5_erases 181 = .ok (.dup2, 1) := by decide +kernel
theorem dX5_erases_182 : decode cX5_erases 182 = .ok (.iaload, 1) := by decide +kernel
theorem dX5_erases_183 : decode cX5_erases 183 = .ok (.iconst 1, 1) := by decide +kernel
theorem dX5_erases_184 : decode cX5_erases 184 = .ok (.iload 4, 2) := by decide +kernel
theorem dX5_erases_186 : decode cX5_erases 186 = .ok (.ishl, 1) := by decide +kernel
theorem dX5_erases_187 : decode cX5_erases 187 = .ok (.ior, 1) := by decide +kernel
theorem dX5_erases_188 : decode cX5_erases 188 = .ok (.iastore, 1) := by decide +kernel
theorem dX5_erases_189 : decode cX5_erases 189 = .ok (.aload_n 0, 1) := by decide +kernel
theorem dX5_erases_190 : decode cX5_erases 190 = .ok (.invokevirtual 95, 3) := by decide +kernel
theorem dX5_erases_193 : decode cX5_erases 193 = .ok (.iload 4, 2) := by decide +kernel
theorem dX5_erases_195 : decode cX5_erases 195 = .ok (.ireturn, 1) := by decide +kernel
set_option maxRecDepth 20000 in
theorem ggX5_erase_X5_erases : GoodIn wsX5_erase wsX5_erases := goodIn_r _ [5, 6, 7, 8, 9, 4, 10, 11, 12, 13, 14, 15, 16, 17, 18, 19, 20, 21, 22, 23, 24, 25, 26, 27, 28, 29, 30, 31, 32, 33, 34, 35, 36, 37, 38, 39, 40, 41, 42] (by decide +kernel) (by decide +kernel)
set_option maxRecDepth 20000 in
theorem gX5_erase_X5_erases : GoodIn wsX5_erase (wsV RX5 98 RX5 yX5_erases wsX5_erases) := goodIn_app (goodIn_of _ (by decide +kernel)) ggX5_erase_X5_erases
theorem dX5_erase_0 : decode cX5_erase 0 = .ok (.aload_n 0, 1) := by decide +kernel
theorem dX5_erase_1 : decode cX5_erase 1 = .ok (.iload_n 1, 1) := by decide +kernel
theorem dX5_erase_2 : decode cX5_erase 2 = .ok (.iload_n 2, 1) := by decide +kernel
theorem dX5_erase_3 : decode cX5_erase 3 = .ok (.invokevirtual 98, 3) := by decide +kernel
theorem dX5_erase_6 : decode cX5_erase 6 = .ok (.ireturn, 1) := by decide +kernel
set_option maxRecDepth 20000 in
theorem ggX5_setCursor_X5_length : GoodIn wsX5_setCursor wsX5_length := goodIn_r _ [6, 1, 7, 8, 9, 5, 10, 11, 12, 13, 14, 18, 19, 20, 21, 22, 23, 24, 25, 26, 27, 28, 29, 30, 31, 32, 33, 34] (by decide +kernel) (by decide +kernel)
set_option maxRecDepth 20000 in
theorem gX5_setCursor_X5_length : GoodIn wsX5_setCursor (wsV RX5 51 RX5 yX5_length wsX5_length) := goodIn_app (goodIn_of _ (by decide +kernel)) ggX5_setCursor_X5_length
set_option maxRecDepth 20000 in
theorem ggX5_setCursor_X5_in : GoodIn wsX5_setCursor wsX5_in := goodIn_r _ [17] (by decide +kernel) (by decide +kernel)
set_option maxRecDepth 20000 in
theorem gX5_setCursor_X5_in : GoodIn wsX5_setCursor (va_wsS RX5 55 yX5_in wsX5_in) := goodIn_app (goodIn_of _ (by decide +kernel)) ggX5_setCursor_X5_in
theorem dX5_setCursor_0 : decode cX5_setCursor 0 = .ok (.iload_n 1, 1) := by decide +kernel
theorem dX5_setCursor_1 : decode cX5_setCursor 1 = .ok (.iconst 0, 1) := by decide +kernel
theorem dX5_setCursor_2 : decode cX5_setCursor 2 = .ok (.aload_n 0, 1) := by decide +kernel
theorem dX5_setCursor_3 : decode cX5_setCursor 3 = .ok (.invokevirtual 51, 3) := by decide +kernel
theorem dX5_setCursor_6 : decode cX5_setCursor 6 = .ok (.invokestatic 55, 3) := by decide +kernel
theorem dX5_setCursor_9 : decode cX5_setCursor 9 = .ok (.ifCond .ne 5, 3) := by decide +kernel
theorem dX5_setCursor_12 : decode cX5_setCursor 12 = .ok (.iconst (-1), 1) := by decide +kernel
theorem dX5_setCursor_13 : decode cX5_setCursor 13 = .ok (.ireturn, 1) := by decide +kernel
theorem dX5_setCursor_14 : decode cX5_setCursor 14 = .ok (.aload_n 0, 1) := by decide +kernel
theorem dX5_setCursor_15 : decode cX5_setCursor 15 = .ok (.getfield 7, 3) := by decide +kernel
theorem dX5_setCursor_18 : decode cX5_setCursor 18 = .ok (.iconst 3, 1) := by decide +kernel
theorem dX5_setCursor_19 : decode cX5_setCursor 19 = .ok (.iaload, 1) := by decide +kernel
theorem dX5_setCursor_20 : decode cX5_setCursor 20 = .ok (.istore_n 2, 1) := by decide +kernel
theorem dX5_setCursor_21 : decode cX5_setCursor 21 = .ok (.aload_n 0, 1) := by decide +kernel
theorem dX5_setCursor_22 : decode cX5_setCursor 22 = .ok (.getfield 7, 3) := by decide +kernel
theorem dX5_setCursor_25 : decode cX5_setCursor 25 = .ok (.iconst 3, 1) := by decide +kernel
theorem dX5_setCursor_26 : decode cX5_setCursor 26 = .ok (.iload_n 1, 1) := by decide +kernel
theorem dX5_setCursor_27 : decode cX5_setCursor 27 = .ok (.iastore, 1) := by decide +kernel
theorem dX5_setCursor_28 : decode cX5_setCursor 28 = .ok (.iload_n 2, 1) := by decide +kernel
theorem dX5_setCursor_29 : decode cX5_setCursor 29 = .ok (.ireturn, 1) := by decide +kernel
set_option maxRecDepth 20000 in
theorem ggX5_setPrices_X5_in : GoodIn wsX5_setPrices wsX5_in := goodIn_r _ [6] (by decide +kernel) (by decide +kernel)
set_option maxRecDepth 20000 in
theorem gX5_setPrices_X5_in : GoodIn wsX5_setPrices (va_wsS RX5 55 yX5_in wsX5_in) := goodIn_app (goodIn_of _ (by decide +kernel)) ggX5_setPrices_X5_in
theorem dX5_setPrices_0 : decode cX5_setPrices 0 = .ok (.iload_n 1, 1) := by decide +kernel
theorem dX5_setPrices_1 : decode cX5_setPrices 1 = .ok (.iconst 0, 1) := by decide +kernel
theorem dX5_setPrices_2 : decode cX5_setPrices 2 = .ok (.bipush 9, 2) := by decide +kernel
theorem dX5_setPrices_4 : decode cX5_setPrices 4 = .ok (.invokestatic 55, 3) := by decide +kernel
theorem dX5_setPrices_7 : decode cX5_setPrices 7 = .ok (.ifCond .eq 13, 3) := by decide +kernel
theorem dX5_setPrices_10 : decode cX5_setPrices 10 = .ok (.iload_n 2, 1) := by decide +kernel
theorem dX5_setPrices_11 : decode cX5_setPrices 11 = .ok (.iconst 0, 1) := by decide +kernel
theorem dX5_setPrices_12 : decode cX5_setPrices 12 = .ok (.bipush 9, 2) := by decide +kernel
theorem dX5_setPrices_14 : decode cX5_setPrices 14 = .ok (.invokestatic 55, 3) := by decide +kernel
theorem dX5_setPrices_17 : decode cX5_setPrices 17 = .ok (.ifCond .ne 5, 3) := by decide +kernel
theorem dX5_setPrices_20 : decode cX5_setPrices 20 = .ok (.iconst (-1), 1) := by decide +kernel
theorem dX5_setPrices_21 : decode cX5_setPrices 21 = .ok (.ireturn, 1) := by decide +kernel
theorem dX5_setPrices_22 : decode cX5_setPrices 22 = .ok (.aload_n 0, 1) := by decide +kernel
theorem dX5_setPrices_23 : decode cX5_setPrices 23 = .ok (.getfield 20, 3) := by decide +kernel
theorem dX5_setPrices_26 : decode cX5_setPrices 26 = .ok (.iload_n 1, 1) := by decide +kernel
theorem dX5_setPrices_27 : decode cX5_setPrices 27 = .ok (.if_icmp .ne 11, 3) := by decide +kernel
theorem dX5_setPrices_30 : decode cX5_setPrices 30 = .ok (.aload_n 0, 1) := by decide +kernel
theorem dX5_setPrices_31 : decode cX5_setPrices 31 = .ok (.getfield 24, 3) := by decide +kernel
theorem dX5_setPrices_34 : decode cX5_setPrices 34 = .ok (.iload_n 2, 1) := by decide +kernel
theorem dX5_setPrices_35 : decode cX5_setPrices 35 = .ok (.if_icmp .eq 7, 3) := by decide +kernel
theorem dX5_setPrices_38 : decode cX5_setPrices 38 = .ok (.iconst 1, 1) := by decide +kernel
theorem dX5_setPrices_39 : decode cX5_setPrices 39 = .ok (.goto 4, 3) := by decide +kernel
theorem dX5_setPrices_42 : decode cX5_setPrices 42 = .ok (.iconst 0, 1) := by decide +kernel
theorem dX5_setPrices_43 : decode cX5_setPrices 43 = .ok (.istore_n 3, 1) := by decide +kernel
theorem dX5_setPrices_44 : decode cX5_setPrices 44 = .ok (.aload_n 0, 1) := by decide +kernel
theorem dX5_setPrices_45 : decode cX5_setPrices 45 = .ok (.iload_n 1, 1) := by decide +kernel
theorem dX5_setPrices_46 : decode cX5_setPrices 46 = .ok (.putfield 20, 3) := by decide +kernel
theorem dX5_setPrices_49 : decode cX5_setPrices 49 = .ok (.aload_n 0, 1) := by decide +kernel
theorem dX5_setPrices_50 : decode cX5_setPrices 50 = .ok (.iload_n 2, 1) := by decide +kernel
theorem dX5_setPrices_51 : decode cX5_setPrices 51 = .ok (.putfield 24, 3) := by decide +kernel
theorem dX5_setPrices_54 : decode cX5_setPrices 54 = .ok (.iload_n 3, 1) := by decide +kernel
theorem dX5_setPrices_55 : decode cX5_setPrices 55 = .ok (.ifCond .eq 7, 3) := by decide +kernel
theorem dX5_setPrices_58 : decode cX5_setPrices 58 = .ok (.iconst 1, 1) := by decide +kernel
theorem dX5_setPrices_59 : decode cX5_setPrices 59 = .ok (.goto 4, 3) := by decide +kernel
theorem dX5_setPrices_62 : decode cX5_setPrices 62 = .ok (.iconst 0, 1) := by decide +kernel
theorem dX5_setPrices_63 : decode cX5_setPrices 63 = .ok (.ireturn, 1) := by decide +kernel
set_option maxRecDepth 20000 in
theorem ggX5_character_X5_at : GoodIn wsX5_character wsX5_at := goodIn_r _ [6, 1, 7, 8, 9, 5, 10, 11, 12, 13, 14, 15, 16, 17, 18, 19, 20, 21, 22, 23, 24, 25, 26, 27] (by decide +kernel) (by decide +kernel)
set_option maxRecDepth 20000 in
theorem gX5_character_X5_at : GoodIn wsX5_character (wsV RX5 82 RX5 yX5_at wsX5_at) := goodIn_app (goodIn_of _ (by decide +kernel)) ggX5_character_X5_at
theorem dX5_character_0 : decode cX5_character 0 = .ok (.iload_n 1, 1) := by decide +kernel
theorem dX5_character_1 : decode cX5_character 1 = .ok (.ifCond .ge 5, 3) := by decide +kernel
theorem dX5_character_4 : decode cX5_character 4 = .ok (.iconst (-1), 1) := by decide +kernel
theorem dX5_character_5 : decode cX5_character 5 = .ok (.ireturn, 1) := by decide +kernel
theorem dX5_character_6 : decode cX5_character 6 = .ok (.aload_n 0, 1) := by decide +kernel
theorem dX5_character_7 : decode cX5_character 7 = .ok (.iload_n 1, 1) := by decide +kernel
theorem dX5_character_8 : decode cX5_character 8 = .ok (.invokevirtual 82, 3) := by decide +kernel
theorem dX5_character_11 : decode cX5_character 11 = .ok (.istore_n 2, 1) := by decide +kernel
theorem dX5_character_12 : decode cX5_character 12 = .ok (.iload_n 2, 1) := by decide +kernel
theorem dX5_character_13 : decode cX5_character 13 = .ok (.bipush (-9), 2) := by decide +kernel
theorem dX5_character_15 : decode cX5_character 15 = .ok (.if_icmp .ne 8, 3) := by decide +kernel
theorem dX5_character_18 : decode cX5_character 18 = .ok (.bipush (-9), 2) := by decide +kernel
theorem dX5_character_20 : decode cX5_character 20 = .ok (.goto 11, 3) := by decide +kernel
theorem dX5_character_23 : decode cX5_character 23 = .ok (.aload_n 0, 1) := by decide +kernel
theorem dX5_character_24 : decode cX5_character 24 = .ok (.getfield 7, 3) := by decide +kernel
theorem dX5_character_27 : decode cX5_character 27 = .ok (.iconst 4, 1) := by decide +kernel
theorem dX5_character_28 : decode cX5_character 28 = .ok (.iload_n 2, 1) := by decide +kernel
theorem dX5_character_29 : decode cX5_character 29 = .ok (.iadd, 1) := by decide +kernel
theorem dX5_character_30 : decode cX5_character 30 = .ok (.iaload, 1) := by decide +kernel
theorem dX5_character_31 : decode cX5_character 31 = .ok (.ireturn, 1) := by decide +kernel
set_option maxRecDepth 20000 in
theorem ggX5_author_X5_length : GoodIn wsX5_author wsX5_length := goodIn_r _ [6, 1, 7, 8, 9, 5, 10, 11, 12, 13, 14, 22, 23, 24, 25, 26, 27, 28, 29, 30, 31, 32, 33, 34, 35, 36, 37, 38] (by decide +kernel) (by decide +kernel)
set_option maxRecDepth 20000 in
theorem gX5_author_X5_length : GoodIn wsX5_author (wsV RX5 51 RX5 yX5_length wsX5_length) := goodIn_app (goodIn_of _ (by decide +kernel)) ggX5_author_X5_length
set_option maxRecDepth 20000 in
theorem ggX5_author_X5_in : GoodIn wsX5_author wsX5_in := goodIn_r _ [17] (by decide +kernel) (by decide +kernel)
set_option maxRecDepth 20000 in
theorem gX5_author_X5_in : GoodIn wsX5_author (va_wsS RX5 55 yX5_in wsX5_in) := goodIn_app (goodIn_of _ (by decide +kernel)) ggX5_author_X5_in
set_option maxRecDepth 20000 in
theorem ggX5_author_X5_at : GoodIn wsX5_author wsX5_at := goodIn_r _ [21, 1, 11, 12, 13, 5, 14, 22, 23, 24, 25, 26, 27, 28, 29, 30, 31, 32, 33, 34, 35, 36, 37, 38] (by decide +kernel) (by decide +kernel)
set_option maxRecDepth 20000 in
theorem gX5_author_X5_at : GoodIn wsX5_author (wsV RX5 82 RX5 yX5_at wsX5_at) := goodIn_app (goodIn_of _ (by decide +kernel)) ggX5_author_X5_at
theorem dX5_author_0 : decode cX5_author 0 = .ok (.iload_n 1, 1) := by decide +kernel
theorem dX5_author_1 : decode cX5_author 1 = .ok (.iconst 0, 1) := by decide +kernel
theorem dX5_author_2 : decode cX5_author 2 = .ok (.aload_n 0, 1) := by decide +kernel
theorem dX5_author_3 : decode cX5_author 3 = .ok (.invokevirtual 51, 3) := by decide +kernel
theorem dX5_author_6 : decode cX5_author 6 = .ok (.iconst 1, 1) := by decide +kernel
theorem dX5_author_7 : decode cX5_author 7 = .ok (.isub, 1) := by decide +kernel
theorem dX5_author_8 : decode cX5_author 8 = .ok (.invokestatic 55, 3) := by decide +kernel
theorem dX5_author_11 : decode cX5_author 11 = .ok (.ifCond .ne 5, 3) := by decide +kernel
theorem dX5_author_14 : decode cX5_author 14 = .ok (.iconst (-1), 1) := by decide +kernel
theorem dX5_author_15 : decode cX5_author 15 = .ok (.ireturn, 1) := by decide +kernel
theorem dX5_author_16 : decode cX5_author 16 = .ok (.aload_n 0, 1) := by decide +kernel
theorem dX5_author_17 : decode cX5_author 17 = .ok (.getfield 7, 3) := by decide +kernel
theorem dX5_author_20 : decode cX5_author 20 = .ok (.sipush 164, 3) := by decide +kernel
theorem dX5_author_23 : decode cX5_author 23 = .ok (.aload_n 0, 1) := by decide +kernel
theorem dX5_author_24 : decode cX5_author 24 = .ok (.iload_n 1, 1) := by decide +kernel
theorem dX5_author_25 : decode cX5_author 25 = .ok (.invokevirtual 82, 3) := by decide +kernel
theorem dX5_author_28 : decode cX5_author 28 = .ok (.iadd, 1) := by decide +kernel
theorem dX5_author_29 : decode cX5_author 29 = .ok (.iaload, 1) := by decide +kernel
theorem dX5_author_30 : decode cX5_author 30 = .ok (.istore_n 2, 1) := by decide +kernel
theorem dX5_author_31 : decode cX5_author 31 = .ok (.iload_n 2, 1) := by decide +kernel
theorem dX5_author_32 : decode cX5_author 32 = .ok (.iconst (-1), 1) := by decide +kernel
theorem dX5_author_33 : decode cX5_author 33 = .ok (.if_icmp .ne 8, 3) := by decide +kernel
theorem dX5_author_36 : decode cX5_author 36 = .ok (.bipush (-9), 2) := by decide +kernel
theorem dX5_author_38 : decode cX5_author 38 = .ok (.goto 4, 3) := by decide +kernel
theorem dX5_author_41 : decode cX5_author 41 = .ok (.iload_n 2, 1) := by decide +kernel
theorem dX5_author_42 : decode cX5_author 42 = .ok (.ireturn, 1) := by decide +kernel
set_option maxRecDepth 20000 in
theorem ggX5_count_X5_length : GoodIn wsX5_count wsX5_length := goodIn_r _ [7, 1, 8, 9, 10, 6, 11, 12, 13, 14, 15, 28, 29, 30, 31, 32, 33, 34, 35, 36, 37, 38, 39, 40, 41, 42, 43, 44] (by decide +kernel) (by decide +kernel)
set_option maxRecDepth 20000 in
theorem gX5_count_X5_length : GoodIn wsX5_count (wsV RX5 51 RX5 yX5_length wsX5_length) := goodIn_app (goodIn_of _ (by decide +kernel)) ggX5_count_X5_length
set_option maxRecDepth 20000 in
theorem ggX5_count_X5_bits : GoodIn wsX5_count wsX5_bits := goodIn_r _ [18] (by decide +kernel) (by decide +kernel)
set_option maxRecDepth 20000 in
theorem gX5_count_X5_bits : GoodIn wsX5_count (va_wsS RX5 73 yX5_bits wsX5_bits) := goodIn_app (goodIn_of _ (by decide +kernel)) ggX5_count_X5_bits
set_option maxRecDepth 20000 in
theorem ggX5_count_X5_findsRests : GoodIn wsX5_count wsX5_findsRests := goodIn_r _ [22, 1, 23, 28, 29, 30, 31, 32, 33, 34, 35, 36, 37, 38, 39, 40, 41, 42, 43, 44] (by decide +kernel) (by decide +kernel)
set_option maxRecDepth 20000 in
theorem gX5_count_X5_findsRests : GoodIn wsX5_count (wsV RX5 101 RX5 yX5_findsRests wsX5_findsRests) := goodIn_app (goodIn_of _ (by decide +kernel)) ggX5_count_X5_findsRests
set_option maxRecDepth 20000 in
theorem ggX5_count_X5_commutes : GoodIn wsX5_count wsX5_commutes := goodIn_r _ [27, 23, 28, 29, 30, 31, 32, 33, 34, 35, 36, 37, 38, 39, 40, 41, 42, 43, 44] (by decide +kernel) (by decide +kernel)
set_option maxRecDepth 20000 in
theorem gX5_count_X5_commutes : GoodIn wsX5_count (wsV RX5 104 RX5 yX5_commutes wsX5_commutes) := goodIn_app (goodIn_of _ (by decide +kernel)) ggX5_count_X5_commutes
theorem dX5_count_0 : decode cX5_count 0 = .ok (.iconst 0, 1) := by decide +kernel
theorem dX5_count_1 : decode cX5_count 1 = .ok (.istore_n 2, 1) := by decide +kernel
theorem dX5_count_2 : decode cX5_count 2 = .ok (.iload_n 1, 1) := by decide +kernel
theorem dX5_count_3 : decode cX5_count 3 = .ok (.tableswitch 139 0 6 #[41, 46, 53, 60, 70, 77, 82], 41) := by decide +kernel
theorem dX5_count_44 : decode cX5_count 44 = .ok (.aload_n 0, 1) := by decide +kernel
theorem dX5_count_45 : decode cX5_count 45 = .ok (.invokevirtual 51, 3) := by decide +kernel
theorem dX5_count_48 : decode cX5_count 48 = .ok (.ireturn, 1) := by decide +kernel
theorem dX5_count_49 : decode cX5_count 49 = .ok (.aload_n 0, 1) := by decide +kernel
theorem dX5_count_50 : decode cX5_count 50 = .ok (.getfield 7, 3) := by decide +kernel
theorem dX5_count_53 : decode cX5_count 53 = .ok (.iconst 0, 1) := by decide +kernel
theorem dX5_count_54 : decode cX5_count 54 = .ok (.iaload, 1) := by decide +kernel
theorem dX5_count_55 : decode cX5_count 55 = .ok (.ireturn, 1) := by decide +kernel
theorem dX5_count_56 : decode cX5_count 56 = .ok (.aload_n 0, 1) := by decide +kernel
theorem dX5_count_57 : decode cX5_count 57 = .ok (.getfield 7, 3) := by decide +kernel
theorem dX5_count_60 : decode cX5_count 60 = .ok (.iconst 1, 1) := by decide +kernel
theorem dX5_count_61 : decode cX5_count 61 = .ok (.iaload, 1) := by decide +kernel
theorem dX5_count_62 : decode cX5_count 62 = .ok (.ireturn, 1) := by decide +kernel
theorem dX5_count_63 : decode cX5_count 63 = .ok (.aload_n 0, 1) := by decide +kernel
theorem dX5_count_64 : decode cX5_count 64 = .ok (.getfield 7, 3) := by decide +kernel
theorem dX5_count_67 : decode cX5_count 67 = .ok (.iconst 2, 1) := by decide +kernel
theorem dX5_count_68 : decode cX5_count 68 = .ok (.iaload, 1) := by decide +kernel
theorem dX5_count_69 : decode cX5_count 69 = .ok (.invokestatic 73, 3) := by decide +kernel
theorem dX5_count_72 : decode cX5_count 72 = .ok (.ireturn, 1) := by decide +kernel
theorem dX5_count_73 : decode cX5_count 73 = .ok (.aload_n 0, 1) := by decide +kernel
theorem dX5_count_74 : decode cX5_count 74 = .ok (.getfield 7, 3) := by decide +kernel
theorem dX5_count_77 : decode cX5_count 77 = .ok (.iconst 3, 1) := by decide +kernel
theorem dX5_count_78 : decode cX5_count 78 = .ok (.iaload, 1) := by decide +kernel
theorem dX5_count_79 : decode cX5_count 79 = .ok (.ireturn, 1) := by decide +kernel
theorem dX5_count_80 : decode cX5_count 80 = .ok (.aload_n 0, 1) := by decide +kernel
theorem dX5_count_81 : decode cX5_count 81 = .ok (.getfield 79, 3) := by decide +kernel
theorem dX5_count_84 : decode cX5_count 84 = .ok (.ireturn, 1) := by decide +kernel
theorem dX5_count_85 : decode cX5_count 85 = .ok (.aload_n 0, 1) := by decide +kernel
theorem dX5_count_86 : decode cX5_count 86 = .ok (.invokevirtual 101, 3) := by decide +kernel
theorem dX5_count_89 : decode cX5_count 89 = .ok (.iconst 0, 1) := by decide +kernel
theorem dX5_count_90 : decode cX5_count 90 = .ok (.istore_n 3, 1) := by decide +kernel
theorem dX5_count_91 : decode cX5_count 91 = .ok (.iload_n 3, 1) := by decide +kernel
theorem dX5_count_92 : decode cX5_count 92 = .ok (.aload_n 0, 1) := by decide +kernel
theorem dX5_count_93 : decode cX5_count 93 = .ok (.getfield 7, 3) := by decide +kernel
theorem dX5_count_96 : decode cX5_count 96 = .ok (.iconst 1, 1) := by decide +kernel
theorem dX5_count_97 : decode cX5_count 97 = .ok (.iaload, 1) := by decide +kernel
theorem dX5_count_98 : decode cX5_count 98 = .ok (.if_icmp .ge 42, 3) := by decide +kernel
theorem dX5_count_101 : decode cX5_count 101 = .ok (.iconst 0, 1) := by decide +kernel
theorem dX5_count_102 : decode cX5_count 102 = .ok (.istore 4, 2) := by decide +kernel
theorem dX5_count_104 : decode cX5_count 104 = .ok (.iload 4, 2) := by decide +kernel
theorem dX5_count_106 : decode cX5_count 106 = .ok (.iload_n 3, 1) := by decide +kernel
theorem dX5_count_107 : decode cX5_count 107 = .ok (.if_icmp .ge 27, 3) := by decide +kernel
theorem dX5_count_110 : decode cX5_count 110 = .ok (.iload_n 2, 1) := by decide +kernel
theorem dX5_count_111 : decode cX5_count 111 = .ok (.aload_n 0, 1) := by decide +kernel
theorem dX5_count_112 : decode cX5_count 112 = .ok (.iload_n 3, 1) := by decide +kernel
theorem dX5_count_113 : decode cX5_count 113 = .ok (.iload 4, 2) := by decide +kernel
theorem dX5_count_115 : decode cX5_count 115 = .ok (.invokevirtual 104, 3) := by decide +kernel
theorem dX5_count_118 : decode cX5_count 118 = .ok (.ifCond .eq 7, 3) := by decide +kernel
theorem dX5_count_121 : decode cX5_count 121 = .ok (.iconst 1, 1) := by decide +kernel
theorem dX5_count_122 : decode cX5_count 122 = .ok (.goto 4, 3) := by decide +kernel
theorem dX5_count_125 : decode cX5_count 125 = .ok (.iconst 0, 1) := by decide +kernel
theorem dX5_count_126 : decode cX5_count 126 = .ok (.iadd, 1) := by decide +kernel
theorem dX5_count_127 : decode cX5_count 127 = .ok (.istore_n 2, 1) := by decide +kernel
theorem dX5_count_128 : decode cX5_count 128 = .ok (.iinc 4 1, 3) := by decide +kernel
theorem dX5_count_131 : decode cX5_count 131 = .ok (.goto (-27), 3) := by decide +kernel
theorem dX5_count_134 : decode cX5_count 134 = .ok (.iinc 3 1, 3) := by decide +kernel
theorem dX5_count_137 : decode cX5_count 137 = .ok (.goto (-46), 3) := by decide +kernel
theorem dX5_count_140 : decode cX5_count 140 = .ok (.iload_n 2, 1) := by decide +kernel
theorem dX5_count_141 : decode cX5_count 141 = .ok (.ireturn, 1) := by decide +kernel
theorem dX5_count_142 : decode cX5_count 142 = .ok (.iconst (-1), 1) := by decide +kernel
theorem dX5_count_143 : decode cX5_count 143 = .ok (.ireturn, 1) := by decide +kernel
theorem dX5_charactersOf_0 : decode cX5_charactersOf 0 = .ok (.iconst 0, 1) := by decide +kernel
theorem dX5_charactersOf_1 : decode cX5_charactersOf 1 = .ok (.istore_n 2, 1) := by decide +kernel
theorem dX5_charactersOf_2 : decode cX5_charactersOf 2 = .ok (.iconst 0, 1) := by decide +kernel
theorem dX5_charactersOf_3 : decode cX5_charactersOf 3 = .ok (.istore_n 3, 1) := by decide +kernel
theorem dX5_charactersOf_4 : decode cX5_charactersOf 4 = .ok (.iload_n 3, 1) := by decide +kernel
theorem dX5_charactersOf_5 : decode cX5_charactersOf 5 = .ok (.aload_n 0, 1) := by decide +kernel
theorem dX5_charactersOf_6 : decode cX5_charactersOf 6 = .ok (.getfield 7, 3) := by decide +kernel
theorem dX5_charactersOf_9 : decode cX5_charactersOf 9 = .ok (.iconst 0, 1) := by decide +kernel
theorem dX5_charactersOf_10 : decode cX5_charactersOf 10 = .ok (.iaload, 1) := by decide +kernel
theorem dX5_charactersOf_11 : decode cX5_charactersOf 11 = .ok (.if_icmp .ge 61, 3) := by decide +kernel
theorem dX5_charactersOf_14 : decode cX5_charactersOf 14 = .ok (.iload_n 2, 1) := by decide +kernel
theorem dX5_charactersOf_15 : decode cX5_charactersOf 15 = .ok (.aload_n 0, 1) := by decide +kernel
theorem dX5_charactersOf_16 : decode cX5_charactersOf 16 = .ok (.getfield 7, 3) := by decide +kernel
theorem dX5_charactersOf_19 : decode cX5_charactersOf 19 = .ok (.sipush 484, 3) := by decide +kernel
theorem dX5_charactersOf_22 : decode cX5_charactersOf 22 = .ok (.iload_n 1, 1) := by decide +kernel
theorem dX5_charactersOf_23 : decode cX5_charactersOf 23 = .ok (.iadd, 1) := by decide +kernel
theorem dX5_charactersOf_24 : decode cX5_charactersOf 24 = .ok (.iaload, 1) := by decide +kernel
theorem dX5_charactersOf_25 : decode cX5_charactersOf 25 = .ok (.ifCond .ne 25, 3) := by decide +kernel
theorem dX5_charactersOf_28 : decode cX5_charactersOf 28 = .ok (.aload_n 0, 1) := by decide +kernel
theorem dX5_charactersOf_29 : decode cX5_charactersOf 29 = .ok (.getfield 7, 3) := by decide +kernel
theorem dX5_charactersOf_32 : decode cX5_charactersOf 32 = .ok (.sipush 164, 3) := by decide +kernel
theorem dX5_charactersOf_35 : decode cX5_charactersOf 35 = .ok (.iload_n 3, 1) := by decide +kernel
theorem dX5_charactersOf_36 : decode cX5_charactersOf 36 = .ok (.iadd, 1) := by decide +kernel
theorem dX5_charactersOf_37 : decode cX5_charactersOf 37 = .ok (.iaload, 1) := by decide +kernel
theorem dX5_charactersOf_38 : decode cX5_charactersOf 38 = .ok (.iload_n 1, 1) := by decide +kernel
theorem dX5_charactersOf_39 : decode cX5_charactersOf 39 = .ok (.if_icmp .ne 7, 3) := by decide +kernel
theorem dX5_charactersOf_42 : decode cX5_charactersOf 42 = .ok (.iconst 1, 1) := by decide +kernel
theorem dX5_charactersOf_43 : decode cX5_charactersOf 43 = .ok (.goto 21, 3) := by decide +kernel
theorem dX5_charactersOf_46 : decode cX5_charactersOf 46 = .ok (.iconst 0, 1) := by decide +kernel
theorem dX5_charactersOf_47 : decode cX5_charactersOf 47 = .ok (.goto 17, 3) := by decide +kernel
theorem dX5_charactersOf_50 : decode cX5_charactersOf 50 = .ok (.aload_n 0, 1) := by decide +kernel
theorem dX5_charactersOf_51 : decode cX5_charactersOf 51 = .ok (.getfield 7, 3) := by decide +kernel
theorem dX5_charactersOf_54 : decode cX5_charactersOf 54 = .ok (.sipush 324, 3) := by decide +kernel
theorem dX5_charactersOf_57 : decode cX5_charactersOf 57 = .ok (.iload_n 3, 1) := by decide +kernel
theorem dX5_charactersOf_58 : decode cX5_charactersOf 58 = .ok (.iadd, 1) := by decide +kernel
theorem dX5_charactersOf_59 : decode cX5_charactersOf 59 = .ok (.iaload, 1) := by decide +kernel
theorem dX5_charactersOf_60 : decode cX5_charactersOf 60 = .ok (.iload_n 1, 1) := by decide +kernel
theorem dX5_charactersOf_61 : decode cX5_charactersOf 61 = .ok (.ishr, 1) := by decide +kernel
theorem dX5_charactersOf_62 : decode cX5_charactersOf 62 = .ok (.iconst 1, 1) := by decide +kernel
theorem dX5_charactersOf_63 : decode cX5_charactersOf 63 = .ok (.iand, 1) := by decide +kernel
theorem dX5_charactersOf_64 : decode cX5_charactersOf 64 = .ok (.iadd, 1) := by decide +kernel
theorem dX5_charactersOf_65 : decode cX5_charactersOf 65 = .ok (.istore_n 2, 1) := by decide +kernel
theorem dX5_charactersOf_66 : decode cX5_charactersOf 66 = .ok (.iinc 3 1, 3) := by decide +kernel
theorem dX5_charactersOf_69 : decode cX5_charactersOf 69 = .ok (.goto (-65), 3) := by decide +kernel
theorem dX5_charactersOf_72 : decode cX5_charactersOf 72 = .ok (.iload_n 2, 1) := by decide +kernel
theorem dX5_charactersOf_73 : decode cX5_charactersOf 73 = .ok (.ireturn, 1) := by decide +kernel
set_option maxRecDepth 20000 in
theorem ggX5_edit_X5_isEdit : GoodIn wsX5_edit wsX5_isEdit := goodIn_r _ [7, 1, 8, 9, 6, 10, 48, 49, 50, 51, 52, 53, 54, 55, 56, 57, 58, 59, 60, 61, 62, 63, 64] (by decide +kernel) (by decide +kernel)
set_option maxRecDepth 20000 in
theorem gX5_edit_X5_isEdit : GoodIn wsX5_edit (wsV RX5 107 RX5 yX5_isEdit wsX5_isEdit) := goodIn_app (goodIn_of _ (by decide +kernel)) ggX5_edit_X5_isEdit
set_option maxRecDepth 20000 in
theorem ggX5_edit_X5_in : GoodIn wsX5_edit wsX5_in := goodIn_r _ [10] (by decide +kernel) (by decide +kernel)
set_option maxRecDepth 20000 in
theorem gX5_edit_X5_in : GoodIn wsX5_edit (va_wsS RX5 55 yX5_in wsX5_in) := goodIn_app (goodIn_of _ (by decide +kernel)) ggX5_edit_X5_in
set_option maxRecDepth 20000 in
theorem ggX5_edit_X5_findsRests : GoodIn wsX5_edit wsX5_findsRests := goodIn_r _ [14, 1, 2, 48, 49, 50, 51, 52, 53, 54, 55, 56, 57, 58, 59, 60, 61, 62, 63, 64] (by decide +kernel) (by decide +kernel)
set_option maxRecDepth 20000 in
theorem gX5_edit_X5_findsRests : GoodIn wsX5_edit (wsV RX5 101 RX5 yX5_findsRests wsX5_findsRests) := goodIn_app (goodIn_of _ (by decide +kernel)) ggX5_edit_X5_findsRests
set_option maxRecDepth 20000 in
theorem ggX5_edit_X5_isActive : GoodIn wsX5_edit wsX5_isActive := goodIn_r _ [18, 1, 48, 49, 50, 51, 52, 53, 54, 55, 56, 57, 58, 59, 60, 61, 62, 63, 64] (by decide +kernel) (by decide +kernel)
set_option maxRecDepth 20000 in
theorem gX5_edit_X5_isActive : GoodIn wsX5_edit (wsV RX5 59 RX5 yX5_isActive wsX5_isActive) := goodIn_app (goodIn_of _ (by decide +kernel)) ggX5_edit_X5_isActive
set_option maxRecDepth 20000 in
theorem ggX5_edit_X5_charactersOf : GoodIn wsX5_edit wsX5_charactersOf := goodIn_r _ [22, 1, 48, 49, 50, 51, 52, 53, 54, 55, 56, 57, 58, 59, 60, 61, 62, 63, 64] (by decide +kernel) (by decide +kernel)
set_option maxRecDepth 20000 in
theorem gX5_edit_X5_charactersOf : GoodIn wsX5_edit (wsV RX5 110 RX5 yX5_charactersOf wsX5_charactersOf) := goodIn_app (goodIn_of _ (by decide +kernel)) ggX5_edit_X5_charactersOf
set_option maxRecDepth 20000 in
theorem ggX5_edit_X5_placeOf : GoodIn wsX5_edit wsX5_placeOf := goodIn_r _ [26, 1, 27, 28, 29, 6, 30, 31, 32, 33, 34, 48, 49, 50, 51, 52, 53, 54, 55, 56, 57, 58, 59, 60, 61, 62, 63, 64] (by decide +kernel) (by decide +kernel)
set_option maxRecDepth 20000 in
theorem gX5_edit_X5_placeOf : GoodIn wsX5_edit (wsV RX5 70 RX5 yX5_placeOf wsX5_placeOf) := goodIn_app (goodIn_of _ (by decide +kernel)) ggX5_edit_X5_placeOf
set_option maxRecDepth 20000 in
theorem ggX5_edit_X5_priceOf : GoodIn wsX5_edit wsX5_priceOf := goodIn_r _ [38, 1, 39, 40, 23, 24, 25, 6, 26, 27, 28, 29, 30, 31, 32, 33, 34, 41, 42, 43, 48, 49, 50, 51, 52, 53, 54, 55, 56, 57, 58, 59, 60, 61, 62, 63, 64] (by decide +kernel) (by decide +kernel)
set_option maxRecDepth 20000 in
theorem gX5_edit_X5_priceOf : GoodIn wsX5_edit (wsV RX5 76 RX5 yX5_priceOf wsX5_priceOf) := goodIn_app (goodIn_of _ (by decide +kernel)) ggX5_edit_X5_priceOf
set_option maxRecDepth 20000 in
theorem ggX5_edit_X5_above : GoodIn wsX5_edit wsX5_above := goodIn_r _ [47, 1, 2, 48, 49, 50, 51, 52, 53, 54, 55, 56, 57, 58, 59, 60, 61, 62, 63, 64] (by decide +kernel) (by decide +kernel)
set_option maxRecDepth 20000 in
theorem gX5_edit_X5_above : GoodIn wsX5_edit (wsV RX5 63 RX5 yX5_above wsX5_above) := goodIn_app (goodIn_of _ (by decide +kernel)) ggX5_edit_X5_above
theorem dX5_edit_0 : decode cX5_edit 0 = .ok (.aload_n 0, 1) := by decide +kernel
theorem dX5_edit_1 : decode cX5_edit 1 = .ok (.iload_n 1, 1) := by decide +kernel
theorem dX5_edit_2 : decode cX5_edit 2 = .ok (.invokevirtual 107, 3) := by decide +kernel
theorem dX5_edit_5 : decode cX5_edit 5 = .ok (.ifCond .eq 13, 3) := by decide +kernel
theorem dX5_edit_8 : decode cX5_edit 8 = .ok (.iload_n 2, 1) := by decide +kernel
theorem dX5_edit_9 : decode cX5_edit 9 = .ok (.iconst 0, 1) := by decide +kernel
theorem dX5_edit_10 : decode cX5_edit 10 = .ok (.bipush 6, 2) := by decide +kernel
theorem dX5_edit_12 : decode cX5_edit 12 = .ok (.invokestatic 55, 3) := by decide +kernel
theorem dX5_edit_15 : decode cX5_edit 15 = .ok (.ifCond .ne 5, 3) := by decide +kernel
theorem dX5_edit_18 : decode cX5_edit 18 = .ok (.iconst (-1), 1) := by decide +kernel
theorem dX5_edit_19 : decode cX5_edit 19 = .ok (.ireturn, 1) := by decide +kernel
theorem dX5_edit_20 : decode cX5_edit 20 = .ok (.aload_n 0, 1) := by decide +kernel
theorem dX5_edit_21 : decode cX5_edit 21 = .ok (.invokevirtual 101, 3) := by decide +kernel
theorem dX5_edit_24 : decode cX5_edit 24 = .ok (.iload_n 2, 1) := by decide +kernel
theorem dX5_edit_25 : decode cX5_edit 25 = .ok (.tableswitch 102 0 5 #[39, 50, 64, 70, 76, 95], 39) := by decide +kernel
theorem dX5_edit_64 : decode cX5_edit 64 = .ok (.aload_n 0, 1) := by decide +kernel
theorem dX5_edit_65 : decode cX5_edit 65 = .ok (.getfield 7, 3) := by decide +kernel
theorem dX5_edit_68 : decode cX5_edit 68 = .ok (.sipush 484, 3) := by decide +kernel
theorem dX5_edit_71 : decode cX5_edit 71 = .ok (.iload_n 1, 1) := by decide +kernel
theorem dX5_edit_72 : decode cX5_edit 72 = .ok (.iadd, 1) := by decide +kernel
theorem dX5_edit_73 : decode cX5_edit 73 = .ok (.iaload, 1) := by decide +kernel
theorem dX5_edit_74 : decode cX5_edit 74 = .ok (.ireturn, 1) := by decide +kernel
theorem dX5_edit_75 : decode cX5_edit 75 = .ok (.aload_n 0, 1) := by decide +kernel
theorem dX5_edit_76 : decode cX5_edit 76 = .ok (.iload_n 1, 1) := by decide +kernel
theorem dX5_edit_77 : decode cX5_edit 77 = .ok (.invokevirtual 59, 3) := by decide +kernel
theorem dX5_edit_80 : decode cX5_edit 80 = .ok (.ifCond .eq 7, 3) := by decide +kernel
theorem dX5_edit_83 : decode cX5_edit 83 = .ok (.iconst 1, 1) := by decide +kernel
theorem dX5_edit_84 : decode cX5_edit 84 = .ok (.goto 4, 3) := by decide +kernel
theorem dX5_edit_87 : decode cX5_edit 87 = .ok (.iconst 0, 1) := by decide +kernel
theorem dX5_edit_88 : decode cX5_edit 88 = .ok (.ireturn, 1) := by decide +kernel
theorem dX5_edit_89 : decode cX5_edit 89 = .ok (.aload_n 0, 1) := by decide +kernel
theorem dX5_edit_90 : decode cX5_edit 90 = .ok (.iload_n 1, 1) := by decide +kernel
theorem dX5_edit_91 : decode cX5_edit 91 = .ok (.invokevirtual 110, 3) := by decide +kernel
theorem dX5_edit_94 : decode cX5_edit 94 = .ok (.ireturn, 1) := by decide +kernel
theorem dX5_edit_95 : decode cX5_edit 95 = .ok (.aload_n 0, 1) := by decide +kernel
theorem dX5_edit_96 : decode cX5_edit 96 = .ok (.iload_n 1, 1) := by decide +kernel
theorem dX5_edit_97 : decode cX5_edit 97 = .ok (.invokevirtual 70, 3) := by decide +kernel
theorem dX5_edit_100 : decode cX5_edit 100 = .ok (.ireturn, 1) := by decide +kernel
theorem dX5_edit_101 : decode cX5_edit 101 = .ok (.aload_n 0, 1) := by decide +kernel
theorem dX5_edit_102 : decode cX5_edit 102 = .ok (.iload_n 1, 1) := by decide +kernel
theorem dX5_edit_103 : decode cX5_edit 103 = .ok (.invokevirtual 59, 3) := by decide +kernel
theorem dX5_edit_106 : decode cX5_edit 106 = .ok (.ifCond .eq 11, 3) := by decide +kernel
theorem dX5_edit_109 : decode cX5_edit 109 = .ok (.aload_n 0, 1) := by decide +kernel
theorem dX5_edit_110 : decode cX5_edit 110 = .ok (.iload_n 1, 1) := by decide +kernel
theorem dX5_edit_111 : decode cX5_edit 111 = .ok (.invokevirtual 76, 3) := by decide +kernel
theorem dX5_edit_114 : decode cX5_edit 114 = .ok (.goto 5, 3) := by decide +kernel
theorem dX5_edit_117 : decode cX5_edit 117 = .ok (.bipush (-9), 2) := by decide +kernel
theorem dX5_edit_119 : decode cX5_edit 119 = .ok (.ireturn, 1) := by decide +kernel
theorem dX5_edit_120 : decode cX5_edit 120 = .ok (.aload_n 0, 1) := by decide +kernel
theorem dX5_edit_121 : decode cX5_edit 121 = .ok (.getfield 34, 3) := by decide +kernel
