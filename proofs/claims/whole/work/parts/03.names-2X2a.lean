set_option maxRecDepth 20000 in
theorem ggX2_init_X1_init : GoodIn wsX2_init wsX1_init := goodIn_r _ [10, 11, 2, 3, 12, 13, 14, 15, 16, 17, 18, 19] (by decide +kernel) (by decide +kernel)
set_option maxRecDepth 20000 in
theorem gX2_init_X1_init : GoodIn wsX2_init (wsX1_init) := ggX2_init_X1_init
theorem dX2_init_0 : decode cX2_init 0 = .ok (.aload_n 0, 1) := by decide +kernel
theorem dX2_init_1 : decode cX2_init 1 = .ok (.invokespecial 3, 3) := by decide +kernel
theorem dX2_init_4 : decode cX2_init 4 = .ok (.aload_n 0, 1) := by decide +kernel
theorem dX2_init_5 : decode cX2_init 5 = .ok (.new 9, 3) := by decide +kernel
theorem dX2_init_8 : decode cX2_init 8 = .ok (.dup, 1) := by decide +kernel
theorem dX2_init_9 : decode cX2_init 9 = .ok (.bipush 80, 2) := by decide +kernel
theorem dX2_init_11 : decode cX2_init 11 = .ok (.invokespecial 11, 3) := by decide +kernel
theorem dX2_init_14 : decode cX2_init 14 = .ok (.putfield 14, 3) := by decide +kernel
theorem dX2_init_17 : decode cX2_init 17 = .ok (.return_, 1) := by decide +kernel
theorem dX2_rewind_0 : decode cX2_rewind 0 = .ok (.aload_n 0, 1) := by decide +kernel
theorem dX2_rewind_1 : decode cX2_rewind 1 = .ok (.iconst 0, 1) := by decide +kernel
theorem dX2_rewind_2 : decode cX2_rewind 2 = .ok (.putfield 20, 3) := by decide +kernel
theorem dX2_rewind_5 : decode cX2_rewind 5 = .ok (.return_, 1) := by decide +kernel
set_option maxRecDepth 20000 in
theorem ggX2_firstError_X2_rewind : GoodIn wsX2_firstError wsX2_rewind := goodIn_r _ [6, 1, 54, 55, 56, 57, 58, 59, 60] (by decide +kernel) (by decide +kernel)
set_option maxRecDepth 20000 in
theorem gX2_firstError_X2_rewind : GoodIn wsX2_firstError (wsV RX2 24 RX2 yX2_rewind wsX2_rewind) := goodIn_app (goodIn_of _ (by decide +kernel)) ggX2_firstError_X2_rewind
set_option maxRecDepth 20000 in
theorem ggX2_firstError_X2_next : GoodIn wsX2_firstError wsX2_next := goodIn_r _ [10, 1, 11, 12, 13, 14, 15, 16, 17, 18, 19, 20, 21, 5, 22, 23, 24, 25, 26, 27, 28, 29, 30, 31, 32, 33, 34, 35, 36, 37, 38, 39, 40, 41, 42, 43, 44, 45, 46, 47, 48, 49, 50, 51, 52, 53, 54, 55, 56, 57, 58, 59, 60, 61, 62] (by decide +kernel) (by decide +kernel)
set_option maxRecDepth 20000 in
theorem gX2_firstError_X2_next : GoodIn wsX2_firstError (wsV RX2 27 RX2 yX2_next wsX2_next) := goodIn_app (goodIn_of _ (by decide +kernel)) ggX2_firstError_X2_next
theorem dX2_firstError_0 : decode cX2_firstError 0 = .ok (.aload_n 0, 1) := by decide +kernel
theorem dX2_firstError_1 : decode cX2_firstError 1 = .ok (.invokevirtual 24, 3) := by decide +kernel
theorem dX2_firstError_4 : decode cX2_firstError 4 = .ok (.iconst 1, 1) := by decide +kernel
theorem dX2_firstError_5 : decode cX2_firstError 5 = .ok (.istore_n 1, 1) := by decide +kernel
theorem dX2_firstError_6 : decode cX2_firstError 6 = .ok (.iconst 0, 1) := by decide +kernel
theorem dX2_firstError_7 : decode cX2_firstError 7 = .ok (.istore_n 2, 1) := by decide +kernel
theorem dX2_firstError_8 : decode cX2_firstError 8 = .ok (.iload_n 2, 1) := by decide +kernel
theorem dX2_firstError_9 : decode cX2_firstError 9 = .ok (.bipush 80, 2) := by decide +kernel
theorem dX2_firstError_11 : decode cX2_firstError 11 = .ok (.if_icmp .gt 19, 3) := by decide +kernel
theorem dX2_firstError_14 : decode cX2_firstError 14 = .ok (.iload_n 1, 1) := by decide +kernel
theorem dX2_firstError_15 : decode cX2_firstError 15 = .ok (.iconst 1, 1) := by decide +kernel
theorem dX2_firstError_16 : decode cX2_firstError 16 = .ok (.if_icmp .ne 14, 3) := by decide +kernel
theorem dX2_firstError_19 : decode cX2_firstError 19 = .ok (.aload_n 0, 1) := by decide +kernel
theorem dX2_firstError_20 : decode cX2_firstError 20 = .ok (.invokevirtual 27, 3) := by decide +kernel
theorem dX2_firstError_23 : decode cX2_firstError 23 = .ok (.istore_n 1, 1) := by decide +kernel
theorem dX2_firstError_24 : decode cX2_firstError 24 = .ok (.iinc 2 1, 3) := by decide +kernel
theorem dX2_firstError_27 : decode cX2_firstError 27 = .ok (.goto (-19), 3) := by decide +kernel
theorem dX2_firstError_30 : decode cX2_firstError 30 = .ok (.iload_n 1, 1) := by decide +kernel
theorem dX2_firstError_31 : decode cX2_firstError 31 = .ok (.iconst (-1), 1) := by decide +kernel
theorem dX2_firstError_32 : decode cX2_firstError 32 = .ok (.if_icmp .ne 10, 3) := by decide +kernel
theorem dX2_firstError_35 : decode cX2_firstError 35 = .ok (.aload_n 0, 1) := by decide +kernel
theorem dX2_firstError_36 : decode cX2_firstError 36 = .ok (.getfield 20, 3) := by decide +kernel
theorem dX2_firstError_39 : decode cX2_firstError 39 = .ok (.goto 5, 3) := by decide +kernel
theorem dX2_firstError_42 : decode cX2_firstError 42 = .ok (.bipush (-9), 2) := by decide +kernel
theorem dX2_firstError_44 : decode cX2_firstError 44 = .ok (.ireturn, 1) := by decide +kernel
set_option maxRecDepth 20000 in
theorem ggX2_next_X1_codeAt : GoodIn wsX2_next wsX1_codeAt := goodIn_r _ [7, 8, 9, 53, 54] (by decide +kernel) (by decide +kernel)
set_option maxRecDepth 20000 in
theorem gX2_next_X1_codeAt : GoodIn wsX2_next (wsV RX2 34 RX1 yX1_codeAt wsX1_codeAt) := goodIn_app (goodIn_of _ (by decide +kernel)) ggX2_next_X1_codeAt
set_option maxRecDepth 20000 in
theorem ggX2_next_X2_readSign : GoodIn wsX2_next wsX2_readSign := goodIn_r _ [14, 2, 1, 15, 3, 4, 5, 6, 7, 8, 9, 16, 17, 18, 13, 19, 46, 47, 48, 49, 50, 51, 52, 53, 54] (by decide +kernel) (by decide +kernel)
set_option maxRecDepth 20000 in
theorem gX2_next_X2_readSign : GoodIn wsX2_next (wsV RX2 38 RX2 yX2_readSign wsX2_readSign) := goodIn_app (goodIn_of _ (by decide +kernel)) ggX2_next_X2_readSign
set_option maxRecDepth 20000 in
theorem ggX2_next_X2_readRest : GoodIn wsX2_next wsX2_readRest := goodIn_r _ [23, 24, 15, 25, 26, 27, 13, 28, 2, 1, 3, 4, 5, 6, 7, 8, 9, 29, 30, 31, 16, 17, 18, 19, 32, 33, 34, 35, 36, 37, 38, 39, 40, 41, 42, 43, 44, 45, 46, 47, 48, 49, 50, 51, 52, 53, 54] (by decide +kernel) (by decide +kernel)
set_option maxRecDepth 20000 in
theorem gX2_next_X2_readRest : GoodIn wsX2_next (wsV RX2 42 RX2 yX2_readRest wsX2_readRest) := goodIn_app (goodIn_of _ (by decide +kernel)) ggX2_next_X2_readRest
set_option maxRecDepth 20000 in
theorem ggX2_next_X2_accept : GoodIn wsX2_next wsX2_accept := goodIn_r _ [19, 2, 1, 3, 4, 5, 6, 7, 8, 9, 46, 47, 48, 49, 50, 51, 52, 53, 54] (by decide +kernel) (by decide +kernel)
set_option maxRecDepth 20000 in
theorem gX2_next_X2_accept : GoodIn wsX2_next (wsV RX2 45 RX2 yX2_accept wsX2_accept) := goodIn_app (goodIn_of _ (by decide +kernel)) ggX2_next_X2_accept
theorem dX2_next_0 : decode cX2_next 0 = .ok (.aload_n 0, 1) := by decide +kernel
theorem dX2_next_1 : decode cX2_next 1 = .ok (.getfield 20, 3) := by decide +kernel
theorem dX2_next_4 : decode cX2_next 4 = .ok (.aload_n 0, 1) := by decide +kernel
theorem dX2_next_5 : decode cX2_next 5 = .ok (.getfield 14, 3) := by decide +kernel
theorem dX2_next_8 : decode cX2_next 8 = .ok (.getfield 31, 3) := by decide +kernel
theorem dX2_next_11 : decode cX2_next 11 = .ok (.if_icmp .ge 32, 3) := by decide +kernel
theorem dX2_next_14 : decode cX2_next 14 = .ok (.aload_n 0, 1) := by decide +kernel
theorem dX2_next_15 : decode cX2_next 15 = .ok (.getfield 14, 3) := by decide +kernel
theorem dX2_next_18 : decode cX2_next 18 = .ok (.aload_n 0, 1) := by decide +kernel
theorem dX2_next_19 : decode cX2_next 19 = .ok (.getfield 20, 3) := by decide +kernel
theorem dX2_next_22 : decode cX2_next 22 = .ok (.invokevirtual 34, 3) := by decide +kernel
theorem dX2_next_25 : decode cX2_next 25 = .ok (.bipush 32, 2) := by decide +kernel
theorem dX2_next_27 : decode cX2_next 27 = .ok (.if_icmp .ne 16, 3) := by decide +kernel
theorem dX2_next_30 : decode cX2_next 30 = .ok (.aload_n 0, 1) := by decide +kernel
theorem dX2_next_31 : decode cX2_next 31 = .ok (.dup, 1) := by decide +kernel
theorem dX2_next_32 : decode cX2_next 32 = .ok (.getfield 20, 3) := by decide +kernel
theorem dX2_next_35 : decode cX2_next 35 = .ok (.iconst 1, 1) := by decide +kernel
theorem dX2_next_36 : decode cX2_next 36 = .ok (.iadd, 1) := by decide +kernel
theorem dX2_next_37 : decode cX2_next 37 = .ok (.putfield 20, 3) := by decide +kernel
theorem dX2_next_40 : decode cX2_next 40 = .ok (.goto (-40), 3) := by decide +kernel
theorem dX2_next_43 : decode cX2_next 43 = .ok (.aload_n 0, 1) := by decide +kernel
theorem dX2_next_44 : decode cX2_next 44 = .ok (.getfield 20, 3) := by decide +kernel
theorem dX2_next_47 : decode cX2_next 47 = .ok (.aload_n 0, 1) := by decide +kernel
theorem dX2_next_48 : decode cX2_next 48 = .ok (.getfield 14, 3) := by decide +kernel
theorem dX2_next_51 : decode cX2_next 51 = .ok (.getfield 31, 3) := by decide +kernel
theorem dX2_next_54 : decode cX2_next 54 = .ok (.if_icmp .lt 5, 3) := by decide +kernel
theorem dX2_next_57 : decode cX2_next 57 = .ok (.iconst 0, 1) := by decide +kernel
theorem dX2_next_58 : decode cX2_next 58 = .ok (.ireturn, 1) := by decide +kernel
theorem dX2_next_59 : decode cX2_next 59 = .ok (.aload_n 0, 1) := by decide +kernel
theorem dX2_next_60 : decode cX2_next 60 = .ok (.invokevirtual 38, 3) := by decide +kernel
theorem dX2_next_63 : decode cX2_next 63 = .ok (.ifCond .eq 23, 3) := by decide +kernel
theorem dX2_next_66 : decode cX2_next 66 = .ok (.aload_n 0, 1) := by decide +kernel
theorem dX2_next_67 : decode cX2_next 67 = .ok (.invokevirtual 42, 3) := by decide +kernel
theorem dX2_next_70 : decode cX2_next 70 = .ok (.ifCond .eq 16, 3) := by decide +kernel
theorem dX2_next_73 : decode cX2_next 73 = .ok (.aload_n 0, 1) := by decide +kernel
theorem dX2_next_74 : decode cX2_next 74 = .ok (.bipush 59, 2) := by decide +kernel
theorem dX2_next_76 : decode cX2_next 76 = .ok (.invokevirtual 45, 3) := by decide +kernel
theorem dX2_next_79 : decode cX2_next 79 = .ok (.ifCond .eq 7, 3) := by decide +kernel
theorem dX2_next_82 : decode cX2_next 82 = .ok (.iconst 1, 1) := by decide +kernel
theorem dX2_next_83 : decode cX2_next 83 = .ok (.goto 4, 3) := by decide +kernel
theorem dX2_next_86 : decode cX2_next 86 = .ok (.iconst (-1), 1) := by decide +kernel
theorem dX2_next_87 : decode cX2_next 87 = .ok (.ireturn, 1) := by decide +kernel
set_option maxRecDepth 20000 in
theorem ggX2_readSign_X1_codeAt : GoodIn wsX2_readSign wsX1_codeAt := goodIn_r _ [8, 9, 10, 23, 24] (by decide +kernel) (by decide +kernel)
set_option maxRecDepth 20000 in
theorem gX2_readSign_X1_codeAt : GoodIn wsX2_readSign (wsV RX2 34 RX1 yX1_codeAt wsX1_codeAt) := goodIn_app (goodIn_of _ (by decide +kernel)) ggX2_readSign_X1_codeAt
set_option maxRecDepth 20000 in
theorem ggX2_readSign_X2_accept : GoodIn wsX2_readSign wsX2_accept := goodIn_r _ [15, 1, 2, 4, 5, 6, 7, 8, 9, 10, 16, 17, 18, 19, 20, 21, 22, 23, 24] (by decide +kernel) (by decide +kernel)
set_option maxRecDepth 20000 in
theorem gX2_readSign_X2_accept : GoodIn wsX2_readSign (wsV RX2 45 RX2 yX2_accept wsX2_accept) := goodIn_app (goodIn_of _ (by decide +kernel)) ggX2_readSign_X2_accept
theorem dX2_readSign_0 : decode cX2_readSign 0 = .ok (.aload_n 0, 1) := by decide +kernel
theorem dX2_readSign_1 : decode cX2_readSign 1 = .ok (.aload_n 0, 1) := by decide +kernel
theorem dX2_readSign_2 : decode cX2_readSign 2 = .ok (.getfield 14, 3) := by decide +kernel
theorem dX2_readSign_5 : decode cX2_readSign 5 = .ok (.aload_n 0, 1) := by decide +kernel
theorem dX2_readSign_6 : decode cX2_readSign 6 = .ok (.getfield 20, 3) := by decide +kernel
theorem dX2_readSign_9 : decode cX2_readSign 9 = .ok (.invokevirtual 34, 3) := by decide +kernel
theorem dX2_readSign_12 : decode cX2_readSign 12 = .ok (.putfield 49, 3) := by decide +kernel
theorem dX2_readSign_15 : decode cX2_readSign 15 = .ok (.aload_n 0, 1) := by decide +kernel
theorem dX2_readSign_16 : decode cX2_readSign 16 = .ok (.bipush 43, 2) := by decide +kernel
theorem dX2_readSign_18 : decode cX2_readSign 18 = .ok (.invokevirtual 45, 3) := by decide +kernel
theorem dX2_readSign_21 : decode cX2_readSign 21 = .ok (.ifCond .ne 39, 3) := by decide +kernel
theorem dX2_readSign_24 : decode cX2_readSign 24 = .ok (.aload_n 0, 1) := by decide +kernel
theorem dX2_readSign_25 : decode cX2_readSign 25 = .ok (.bipush 45, 2) := by decide +kernel
theorem dX2_readSign_27 : decode cX2_readSign 27 = .ok (.invokevirtual 45, 3) := by decide +kernel
theorem dX2_readSign_30 : decode cX2_readSign 30 = .ok (.ifCond .ne 30, 3) := by decide +kernel
theorem dX2_readSign_33 : decode cX2_readSign 33 = .ok (.aload_n 0, 1) := by decide +kernel
theorem dX2_readSign_34 : decode cX2_readSign 34 = .ok (.bipush 60, 2) := by decide +kernel
theorem dX2_readSign_36 : decode cX2_readSign 36 = .ok (.invokevirtual 45, 3) := by decide +kernel
theorem dX2_readSign_39 : decode cX2_readSign 39 = .ok (.ifCond .ne 21, 3) := by decide +kernel
theorem dX2_readSign_42 : decode cX2_readSign 42 = .ok (.aload_n 0, 1) := by decide +kernel
theorem dX2_readSign_43 : decode cX2_readSign 43 = .ok (.bipush 62, 2) := by decide +kernel
theorem dX2_readSign_45 : decode cX2_readSign 45 = .ok (.invokevirtual 45, 3) := by decide +kernel
theorem dX2_readSign_48 : decode cX2_readSign 48 = .ok (.ifCond .ne 12, 3) := by decide +kernel
theorem dX2_readSign_51 : decode cX2_readSign 51 = .ok (.aload_n 0, 1) := by decide +kernel
theorem dX2_readSign_52 : decode cX2_readSign 52 = .ok (.bipush 64, 2) := by decide +kernel
theorem dX2_readSign_54 : decode cX2_readSign 54 = .ok (.invokevirtual 45, 3) := by decide +kernel
theorem dX2_readSign_57 : decode cX2_readSign 57 = .ok (.ifCond .eq 7, 3) := by decide +kernel
theorem dX2_readSign_60 : decode cX2_readSign 60 = .ok (.iconst 1, 1) := by decide +kernel
theorem dX2_readSign_61 : decode cX2_readSign 61 = .ok (.goto 4, 3) := by decide +kernel
theorem dX2_readSign_64 : decode cX2_readSign 64 = .ok (.iconst 0, 1) := by decide +kernel
theorem dX2_readSign_65 : decode cX2_readSign 65 = .ok (.ireturn, 1) := by decide +kernel
set_option maxRecDepth 20000 in
theorem ggX2_readRest_X2_readNumber : GoodIn wsX2_readRest wsX2_readNumber := goodIn_r _ [7, 8, 9, 10, 11, 12, 13, 14, 15, 16, 17, 18, 6, 19, 38, 39, 40, 41, 42, 43, 44, 45, 46] (by decide +kernel) (by decide +kernel)
set_option maxRecDepth 20000 in
theorem gX2_readRest_X2_readNumber : GoodIn wsX2_readRest (wsV RX2 52 RX2 yX2_readNumber wsX2_readNumber) := goodIn_app (goodIn_of _ (by decide +kernel)) ggX2_readRest_X2_readNumber
set_option maxRecDepth 20000 in
theorem ggX2_readRest_X2_accept : GoodIn wsX2_readRest wsX2_accept := goodIn_r _ [23, 8, 9, 10, 11, 12, 13, 14, 15, 16, 38, 39, 40, 41, 42, 43, 44, 45, 46] (by decide +kernel) (by decide +kernel)
set_option maxRecDepth 20000 in
theorem gX2_readRest_X2_accept : GoodIn wsX2_readRest (wsV RX2 45 RX2 yX2_accept wsX2_accept) := goodIn_app (goodIn_of _ (by decide +kernel)) ggX2_readRest_X2_accept
set_option maxRecDepth 20000 in
theorem ggX2_readRest_X2_readLetters : GoodIn wsX2_readRest wsX2_readLetters := goodIn_r _ [27, 9, 28, 29, 8, 10, 11, 12, 13, 14, 15, 16, 30, 31, 6, 32, 38, 39, 40, 41, 42, 43, 44, 45, 46] (by decide +kernel) (by decide +kernel)
set_option maxRecDepth 20000 in
theorem gX2_readRest_X2_readLetters : GoodIn wsX2_readRest (wsV RX2 58 RX2 yX2_readLetters wsX2_readLetters) := goodIn_app (goodIn_of _ (by decide +kernel)) ggX2_readRest_X2_readLetters
set_option maxRecDepth 20000 in
theorem ggX2_readRest_X2_readSecond : GoodIn wsX2_readRest wsX2_readSecond := goodIn_r _ [36, 37, 3, 4, 5, 6, 7, 8, 9, 10, 11, 12, 13, 14, 15, 16, 17, 18, 19, 38, 39, 40, 41, 42, 43, 44, 45, 46] (by decide +kernel) (by decide +kernel)
set_option maxRecDepth 20000 in
theorem gX2_readRest_X2_readSecond : GoodIn wsX2_readRest (wsV RX2 61 RX2 yX2_readSecond wsX2_readSecond) := goodIn_app (goodIn_of _ (by decide +kernel)) ggX2_readRest_X2_readSecond
theorem dX2_readRest_0 : decode cX2_readRest 0 = .ok (.aload_n 0, 1) := by decide +kernel
theorem dX2_readRest_1 : decode cX2_readRest 1 = .ok (.aload_n 0, 1) := by decide +kernel
theorem dX2_readRest_2 : decode cX2_readRest 2 = .ok (.invokevirtual 52, 3) := by decide +kernel
theorem dX2_readRest_5 : decode cX2_readRest 5 = .ok (.putfield 55, 3) := by decide +kernel
theorem dX2_readRest_8 : decode cX2_readRest 8 = .ok (.aload_n 0, 1) := by decide +kernel
theorem dX2_readRest_9 : decode cX2_readRest 9 = .ok (.getfield 55, 3) := by decide +kernel
theorem dX2_readRest_12 : decode cX2_readRest 12 = .ok (.ifCond .ge 5, 3) := by decide +kernel
theorem dX2_readRest_15 : decode cX2_readRest 15 = .ok (.iconst 0, 1) := by decide +kernel
theorem dX2_readRest_16 : decode cX2_readRest 16 = .ok (.ireturn, 1) := by decide +kernel
theorem dX2_readRest_17 : decode cX2_readRest 17 = .ok (.aload_n 0, 1) := by decide +kernel
theorem dX2_readRest_18 : decode cX2_readRest 18 = .ok (.getfield 49, 3) := by decide +kernel
theorem dX2_readRest_21 : decode cX2_readRest 21 = .ok (.bipush 43, 2) := by decide +kernel
theorem dX2_readRest_23 : decode cX2_readRest 23 = .ok (.if_icmp .ne 25, 3) := by decide +kernel
theorem dX2_readRest_26 : decode cX2_readRest 26 = .ok (.aload_n 0, 1) := by decide +kernel
theorem dX2_readRest_27 : decode cX2_readRest 27 = .ok (.bipush 58, 2) := by decide +kernel
theorem dX2_readRest_29 : decode cX2_readRest 29 = .ok (.invokevirtual 45, 3) := by decide +kernel
theorem dX2_readRest_32 : decode cX2_readRest 32 = .ok (.ifCond .eq 14, 3) := by decide +kernel
theorem dX2_readRest_35 : decode cX2_readRest 35 = .ok (.aload_n 0, 1) := by decide +kernel
theorem dX2_readRest_36 : decode cX2_readRest 36 = .ok (.invokevirtual 58, 3) := by decide +kernel
theorem dX2_readRest_39 : decode cX2_readRest 39 = .ok (.ifCond .eq 7, 3) := by decide +kernel
theorem dX2_readRest_42 : decode cX2_readRest 42 = .ok (.iconst 1, 1) := by decide +kernel
theorem dX2_readRest_43 : decode cX2_readRest 43 = .ok (.goto 4, 3) := by decide +kernel
theorem dX2_readRest_46 : decode cX2_readRest 46 = .ok (.iconst 0, 1) := by decide +kernel
theorem dX2_readRest_47 : decode cX2_readRest 47 = .ok (.ireturn, 1) := by decide +kernel
theorem dX2_readRest_48 : decode cX2_readRest 48 = .ok (.aload_n 0, 1) := by decide +kernel
theorem dX2_readRest_49 : decode cX2_readRest 49 = .ok (.getfield 49, 3) := by decide +kernel
theorem dX2_readRest_52 : decode cX2_readRest 52 = .ok (.bipush 45, 2) := by decide +kernel
theorem dX2_readRest_54 : decode cX2_readRest 54 = .ok (.if_icmp .ne 25, 3) := by decide +kernel
theorem dX2_readRest_57 : decode cX2_readRest 57 = .ok (.aload_n 0, 1) := by decide +kernel
theorem dX2_readRest_58 : decode cX2_readRest 58 = .ok (.bipush 44, 2) := by decide +kernel
theorem dX2_readRest_60 : decode cX2_readRest 60 = .ok (.invokevirtual 45, 3) := by decide +kernel
theorem dX2_readRest_63 : decode cX2_readRest 63 = .ok (.ifCond .eq 14, 3) := by decide +kernel
theorem dX2_readRest_66 : decode cX2_readRest 66 = .ok (.aload_n 0, 1) := by decide +kernel
theorem dX2_readRest_67 : decode cX2_readRest 67 = .ok (.invokevirtual 61, 3) := by decide +kernel
theorem dX2_readRest_70 : decode cX2_readRest 70 = .ok (.ifCond .eq 7, 3) := by decide +kernel
theorem dX2_readRest_73 : decode cX2_readRest 73 = .ok (.iconst 1, 1) := by decide +kernel
theorem dX2_readRest_74 : decode cX2_readRest 74 = .ok (.goto 4, 3) := by decide +kernel
theorem dX2_readRest_77 : decode cX2_readRest 77 = .ok (.iconst 0, 1) := by decide +kernel
theorem dX2_readRest_78 : decode cX2_readRest 78 = .ok (.ireturn, 1) := by decide +kernel
theorem dX2_readRest_79 : decode cX2_readRest 79 = .ok (.iconst 1, 1) := by decide +kernel
theorem dX2_readRest_80 : decode cX2_readRest 80 = .ok (.ireturn, 1) := by decide +kernel
set_option maxRecDepth 20000 in
theorem ggX2_readSecond_X2_readNumber : GoodIn wsX2_readSecond wsX2_readNumber := goodIn_r _ [6, 7, 8, 9, 10, 11, 12, 13, 14, 15, 16, 17, 5, 18, 19, 20, 21, 22, 23, 24, 25, 26, 27] (by decide +kernel) (by decide +kernel)
set_option maxRecDepth 20000 in
theorem gX2_readSecond_X2_readNumber : GoodIn wsX2_readSecond (wsV RX2 52 RX2 yX2_readNumber wsX2_readNumber) := goodIn_app (goodIn_of _ (by decide +kernel)) ggX2_readSecond_X2_readNumber
theorem dX2_readSecond_0 : decode cX2_readSecond 0 = .ok (.aload_n 0, 1) := by decide +kernel
theorem dX2_readSecond_1 : decode cX2_readSecond 1 = .ok (.aload_n 0, 1) := by decide +kernel
theorem dX2_readSecond_2 : decode cX2_readSecond 2 = .ok (.invokevirtual 52, 3) := by decide +kernel
theorem dX2_readSecond_5 : decode cX2_readSecond 5 = .ok (.putfield 64, 3) := by decide +kernel
theorem dX2_readSecond_8 : decode cX2_readSecond 8 = .ok (.aload_n 0, 1) := by decide +kernel
theorem dX2_readSecond_9 : decode cX2_readSecond 9 = .ok (.getfield 64, 3) := by decide +kernel
theorem dX2_readSecond_12 : decode cX2_readSecond 12 = .ok (.ifCond .lt 7, 3) := by decide +kernel
theorem dX2_readSecond_15 : decode cX2_readSecond 15 = .ok (.iconst 1, 1) := by decide +kernel
theorem dX2_readSecond_16 : decode cX2_readSecond 16 = .ok (.goto 4, 3) := by decide +kernel
theorem dX2_readSecond_19 : decode cX2_readSecond 19 = .ok (.iconst 0, 1) := by decide +kernel
theorem dX2_readSecond_20 : decode cX2_readSecond 20 = .ok (.ireturn, 1) := by decide +kernel
set_option maxRecDepth 20000 in
theorem ggX2_readNumber_X1_codeAt : GoodIn wsX2_readNumber wsX1_codeAt := goodIn_r _ [7, 8, 9, 21, 22] (by decide +kernel) (by decide +kernel)
set_option maxRecDepth 20000 in
theorem gX2_readNumber_X1_codeAt : GoodIn wsX2_readNumber (wsV RX2 34 RX1 yX1_codeAt wsX1_codeAt) := goodIn_app (goodIn_of _ (by decide +kernel)) ggX2_readNumber_X1_codeAt
set_option maxRecDepth 20000 in
theorem ggX2_readNumber_X2_isDigit : GoodIn wsX2_readNumber wsX2_isDigit := goodIn_r _ [13] (by decide +kernel) (by decide +kernel)
set_option maxRecDepth 20000 in
theorem gX2_readNumber_X2_isDigit : GoodIn wsX2_readNumber (va_wsS RX2 67 yX2_isDigit wsX2_isDigit) := goodIn_app (goodIn_of _ (by decide +kernel)) ggX2_readNumber_X2_isDigit
theorem dX2_readNumber_0 : decode cX2_readNumber 0 = .ok (.aload_n 0, 1) := by decide +kernel
theorem dX2_readNumber_1 : decode cX2_readNumber 1 = .ok (.getfield 14, 3) := by decide +kernel
theorem dX2_readNumber_4 : decode cX2_readNumber 4 = .ok (.aload_n 0, 1) := by decide +kernel
theorem dX2_readNumber_5 : decode cX2_readNumber 5 = .ok (.getfield 20, 3) := by decide +kernel
theorem dX2_readNumber_8 : decode cX2_readNumber 8 = .ok (.invokevirtual 34, 3) := by decide +kernel
theorem dX2_readNumber_11 : decode cX2_readNumber 11 = .ok (.invokestatic 67, 3) := by decide +kernel
theorem dX2_readNumber_14 : decode cX2_readNumber 14 = .ok (.ifCond .ne 6, 3) := by decide +kernel
theorem dX2_readNumber_17 : decode cX2_readNumber 17 = .ok (.bipush (-9), 2) := by decide +kernel
theorem dX2_readNumber_19 : decode cX2_readNumber 19 = .ok (.ireturn, 1) := by decide +kernel
theorem dX2_readNumber_20 : decode cX2_readNumber 20 = .ok (.aload_n 0, 1) := by decide +kernel
theorem dX2_readNumber_21 : decode cX2_readNumber 21 = .ok (.getfield 14, 3) := by decide +kernel
theorem dX2_readNumber_24 : decode cX2_readNumber 24 = .ok (.aload_n 0, 1) := by decide +kernel
theorem dX2_readNumber_25 : decode cX2_readNumber 25 = .ok (.getfield 20, 3) := by decide +kernel
theorem dX2_readNumber_28 : decode cX2_readNumber 28 = .ok (.invokevirtual 34, 3) := by decide +kernel
theorem dX2_readNumber_31 : decode cX2_readNumber 31 = .ok (.bipush 48, 2) := by decide +kernel
theorem dX2_readNumber_33 : decode cX2_readNumber 33 = .ok (.isub, 1) := by decide +kernel
theorem dX2_readNumber_34 : decode cX2_readNumber 34 = .ok (.istore_n 1, 1) := by decide +kernel
theorem dX2_readNumber_35 : decode cX2_readNumber 35 = .ok (.aload_n 0, 1) := by decide +kernel
theorem dX2_readNumber_36 : decode cX2_readNumber 36 = .ok (.dup, 1) := by decide +kernel
theorem dX2_readNumber_37 : decode cX2_readNumber 37 = .ok (.getfield 20, 3) := by decide +kernel
theorem dX2_readNumber_40 : decode cX2_readNumber 40 = .ok (.iconst 1, 1) := by decide +kernel
theorem dX2_readNumber_41 : decode cX2_readNumber 41 = .ok (.iadd, 1) := by decide +kernel
theorem dX2_readNumber_42 : decode cX2_readNumber 42 = .ok (.putfield 20, 3) := by decide +kernel
theorem dX2_readNumber_45 : decode cX2_readNumber 45 = .ok (.iload_n 1, 1) := by decide +kernel
theorem dX2_readNumber_46 : decode cX2_readNumber 46 = .ok (.ifCond .le 50, 3) := by decide +kernel
theorem dX2_readNumber_49 : decode cX2_readNumber 49 = .ok (.aload_n 0, 1) := by decide +kernel
theorem dX2_readNumber_50 : decode cX2_readNumber 50 = .ok (.getfield 14, 3) := by decide +kernel
theorem dX2_readNumber_53 : decode cX2_readNumber 53 = .ok (.aload_n 0, 1) := by decide +kernel
theorem dX2_readNumber_54 : decode cX2_readNumber 54 = .ok (.getfield 20, 3) := by decide +kernel
theorem dX2_readNumber_57 : decode cX2_readNumber 57 = .ok (.invokevirtual 34, 3) := by decide +kernel
theorem dX2_readNumber_60 : decode cX2_readNumber 60 = .ok (.invokestatic 67, 3) := by decide +kernel
theorem dX2_readNumber_63 : decode cX2_readNumber 63 = .ok (.ifCond .eq 33, 3) := by decide +kernel
theorem dX2_readNumber_66 : decode cX2_readNumber 66 = .ok (.iload_n 1, 1) := by decide +kernel
theorem dX2_readNumber_67 : decode cX2_readNumber 67 = .ok (.bipush 10, 2) := by decide +kernel
theorem dX2_readNumber_69 : decode cX2_readNumber 69 = .ok (.imul, 1) := by decide +kernel
theorem dX2_readNumber_70 : decode cX2_readNumber 70 = .ok (.aload_n 0, 1) := by decide +kernel
theorem dX2_readNumber_71 : decode cX2_readNumber 71 = .ok (.getfield 14, 3) := by decide +kernel
theorem dX2_readNumber_74 : decode cX2_readNumber 74 = .ok (.aload_n 0, 1) := by decide +kernel
theorem dX2_readNumber_75 : decode cX2_readNumber 75 = .ok (.getfield 20, 3) := by decide +kernel
theorem dX2_readNumber_78 : decode cX2_readNumber 78 = .ok (.invokevirtual 34, 3) := by decide +kernel
theorem dX2_readNumber_81 : decode cX2_readNumber 81 = .ok (.iadd, 1) := by decide +kernel
theorem dX2_readNumber_82 : decode cX2_readNumber 82 = .ok (.bipush 48, 2) := by decide +kernel
theorem dX2_readNumber_84 : decode cX2_readNumber 84 = .ok (.isub, 1) := by decide +kernel
theorem dX2_readNumber_85 : decode cX2_readNumber 85 = .ok (.istore_n 1, 1) := by decide +kernel
theorem dX2_readNumber_86 : decode cX2_readNumber 86 = .ok (.aload_n 0, 1) := by decide +kernel
theorem dX2_readNumber_87 : decode cX2_readNumber 87 = .ok (.dup, 1) := by decide +kernel
theorem dX2_readNumber_88 : decode cX2_readNumber 88 = .ok (.getfield 20, 3) := by decide +kernel
theorem dX2_readNumber_91 : decode cX2_readNumber 91 = .ok (.iconst 1, 1) := by decide +kernel
theorem dX2_readNumber_92 : decode cX2_readNumber 92 = .ok (.iadd, 1) := by decide +kernel
theorem dX2_readNumber_93 : decode cX2_readNumber 93 = .ok (.putfield 20, 3) := by decide +kernel
theorem dX2_readNumber_96 : decode cX2_readNumber 96 = .ok (.iload_n 1, 1) := by decide +kernel
theorem dX2_readNumber_97 : decode cX2_readNumber 97 = .ok (.ireturn, 1) := by decide +kernel
set_option maxRecDepth 20000 in
theorem ggX2_readLetters_X1_codeAt : GoodIn wsX2_readLetters wsX1_codeAt := goodIn_r _ [9, 10, 11, 23, 24] (by decide +kernel) (by decide +kernel)
set_option maxRecDepth 20000 in
theorem gX2_readLetters_X1_codeAt : GoodIn wsX2_readLetters (wsV RX2 34 RX1 yX1_codeAt wsX1_codeAt) := goodIn_app (goodIn_of _ (by decide +kernel)) ggX2_readLetters_X1_codeAt
set_option maxRecDepth 20000 in
theorem ggX2_readLetters_X2_isLetter : GoodIn wsX2_readLetters wsX2_isLetter := goodIn_r _ [15] (by decide +kernel) (by decide +kernel)
set_option maxRecDepth 20000 in
theorem gX2_readLetters_X2_isLetter : GoodIn wsX2_readLetters (va_wsS RX2 77 yX2_isLetter wsX2_isLetter) := goodIn_app (goodIn_of _ (by decide +kernel)) ggX2_readLetters_X2_isLetter
theorem dX2_readLetters_0 : decode cX2_readLetters 0 = .ok (.aload_n 0, 1) := by decide +kernel
theorem dX2_readLetters_1 : decode cX2_readLetters 1 = .ok (.aload_n 0, 1) := by decide +kernel
theorem dX2_readLetters_2 : decode cX2_readLetters 2 = .ok (.getfield 20, 3) := by decide +kernel
theorem dX2_readLetters_5 : decode cX2_readLetters 5 = .ok (.putfield 71, 3) := by decide +kernel
theorem dX2_readLetters_8 : decode cX2_readLetters 8 = .ok (.aload_n 0, 1) := by decide +kernel
theorem dX2_readLetters_9 : decode cX2_readLetters 9 = .ok (.iconst 0, 1) := by decide +kernel
theorem dX2_readLetters_10 : decode cX2_readLetters 10 = .ok (.putfield 74, 3) := by decide +kernel
theorem dX2_readLetters_13 : decode cX2_readLetters 13 = .ok (.aload_n 0, 1) := by decide +kernel
theorem dX2_readLetters_14 : decode cX2_readLetters 14 = .ok (.getfield 74, 3) := by decide +kernel
theorem dX2_readLetters_17 : decode cX2_readLetters 17 = .ok (.bipush 8, 2) := by decide +kernel
theorem dX2_readLetters_19 : decode cX2_readLetters 19 = .ok (.if_icmp .ge 43, 3) := by decide +kernel
theorem dX2_readLetters_22 : decode cX2_readLetters 22 = .ok (.aload_n 0, 1) := by decide +kernel
theorem dX2_readLetters_23 : decode cX2_readLetters 23 = .ok (.getfield 14, 3) := by decide +kernel
theorem dX2_readLetters_26 : decode cX2_readLetters 26 = .ok (.aload_n 0, 1) := by decide +kernel
theorem dX2_readLetters_27 : decode cX2_readLetters 27 = .ok (.getfield 20, 3) := by decide +kernel
theorem dX2_readLetters_30 : decode cX2_readLetters 30 = .ok (.invokevirtual 34, 3) := by decide +kernel
theorem dX2_readLetters_33 : decode cX2_readLetters 33 = .ok (.invokestatic 77, 3) := by decide +kernel
theorem dX2_readLetters_36 : decode cX2_readLetters 36 = .ok (.ifCond .eq 26, 3) := by decide +kernel
theorem dX2_readLetters_39 : decode cX2_readLetters 39 = .ok (.aload_n 0, 1) := by decide +kernel
theorem dX2_readLetters_40 : decode cX2_readLetters 40 = .ok (.dup, 1) := by decide +kernel
theorem dX2_readLetters_41 : decode cX2_readLetters 41 = .ok (.getfield 74, 3) := by decide +kernel
theorem dX2_readLetters_44 : decode cX2_readLetters 44 = .ok (.iconst 1, 1) := by decide +kernel
theorem dX2_readLetters_45 : decode cX2_readLetters 45 = .ok (.iadd, 1) := by decide +kernel
theorem dX2_readLetters_46 : decode cX2_readLetters 46 = .ok (.putfield 74, 3) := by decide +kernel
theorem dX2_readLetters_49 : decode cX2_readLetters 49 = .ok (.aload_n 0, 1) := by decide +kernel
theorem dX2_readLetters_50 : decode cX2_readLetters 50 = .ok (.dup, 1) := by decide +kernel
theorem dX2_readLetters_51 : decode cX2_readLetters 51 = .ok (.getfield 20, 3) := by decide +kernel
theorem dX2_readLetters_54 : decode cX2_readLetters 54 = .ok (.iconst 1, 1) := by decide +kernel
theorem dX2_readLetters_55 : decode cX2_readLetters 55 = .ok (.iadd, 1) := by decide +kernel
theorem dX2_readLetters_56 : decode cX2_readLetters 56 = .ok (.putfield 20, 3) := by decide +kernel
theorem dX2_readLetters_59 : decode cX2_readLetters 59 = .ok (.goto (-46), 3) := by decide +kernel
theorem dX2_readLetters_62 : decode cX2_readLetters 62 = .ok (.aload_n 0, 1) := by decide +kernel
theorem dX2_readLetters_63 : decode cX2_readLetters 63 = .ok (.getfield 74, 3) := by decide +kernel
theorem dX2_readLetters_66 : decode cX2_readLetters 66 = .ok (.ifCond .le 7, 3) := by decide +kernel
theorem dX2_readLetters_69 : decode cX2_readLetters 69 = .ok (.iconst 1, 1) := by decide +kernel
theorem dX2_readLetters_70 : decode cX2_readLetters 70 = .ok (.goto 4, 3) := by decide +kernel
theorem dX2_readLetters_73 : decode cX2_readLetters 73 = .ok (.iconst 0, 1) := by decide +kernel
theorem dX2_readLetters_74 : decode cX2_readLetters 74 = .ok (.ireturn, 1) := by decide +kernel
set_option maxRecDepth 20000 in
theorem ggX2_accept_X1_codeAt : GoodIn wsX2_accept wsX1_codeAt := goodIn_r _ [7, 8, 9, 17, 18] (by decide +kernel) (by decide +kernel)
set_option maxRecDepth 20000 in
theorem gX2_accept_X1_codeAt : GoodIn wsX2_accept (wsV RX2 34 RX1 yX1_codeAt wsX1_codeAt) := goodIn_app (goodIn_of _ (by decide +kernel)) ggX2_accept_X1_codeAt
theorem dX2_accept_0 : decode cX2_accept 0 = .ok (.aload_n 0, 1) := by decide +kernel
theorem dX2_accept_1 : decode cX2_accept 1 = .ok (.getfield 14, 3) := by decide +kernel
theorem dX2_accept_4 : decode cX2_accept 4 = .ok (.aload_n 0, 1) := by decide +kernel
theorem dX2_accept_5 : decode cX2_accept 5 = .ok (.getfield 20, 3) := by decide +kernel
theorem dX2_accept_8 : decode cX2_accept 8 = .ok (.invokevirtual 34, 3) := by decide +kernel
theorem dX2_accept_11 : decode cX2_accept 11 = .ok (.iload_n 1, 1) := by decide +kernel
theorem dX2_accept_12 : decode cX2_accept 12 = .ok (.if_icmp .eq 5, 3) := by decide +kernel
theorem dX2_accept_15 : decode cX2_accept 15 = .ok (.iconst 0, 1) := by decide +kernel
theorem dX2_accept_16 : decode cX2_accept 16 = .ok (.ireturn, 1) := by decide +kernel
theorem dX2_accept_17 : decode cX2_accept 17 = .ok (.aload_n 0, 1) := by decide +kernel
theorem dX2_accept_18 : decode cX2_accept 18 = .ok (.dup, 1) := by decide +kernel
theorem dX2_accept_19 : decode cX2_accept 19 = .ok (.getfield 20, 3) := by decide +kernel
theorem dX2_accept_22 : decode cX2_accept 22 = .ok (.iconst 1, 1) := by decide +kernel
theorem dX2_accept_23 : decode cX2_accept 23 = .ok (.iadd, 1) := by decide +kernel
theorem dX2_accept_24 : decode cX2_accept 24 = .ok (.putfield 20, 3) := by decide +kernel
theorem dX2_accept_27 : decode cX2_accept 27 = .ok (.iconst 1, 1) := by decide +kernel
theorem dX2_accept_28 : decode cX2_accept 28 = .ok (.ireturn, 1) := by decide +kernel
theorem dX2_isDigit_0 : decode cX2_isDigit 0 = .ok (.iload_n 0, 1) := by decide +kernel
theorem dX2_isDigit_1 : decode cX2_isDigit 1 = .ok (.bipush 48, 2) := by decide +kernel
theorem dX2_isDigit_3 : decode cX2_isDigit 3 = .ok (.if_icmp .lt 13, 3) := by decide +kernel
theorem dX2_isDigit_6 : decode cX2_isDigit 6 = .ok (.iload_n 0, 1) := by decide +kernel
theorem dX2_isDigit_7 : decode cX2_isDigit 7 = .ok (.bipush 57, 2) := by decide +kernel
theorem dX2_isDigit_9 : decode cX2_isDigit 9 = .ok (.if_icmp .gt 7, 3) := by decide +kernel
theorem dX2_isDigit_12 : decode cX2_isDigit 12 = .ok (.iconst 1, 1) := by decide +kernel
theorem dX2_isDigit_13 : decode cX2_isDigit 13 = .ok (.goto 4, 3) := by decide +kernel
theorem dX2_isDigit_16 : decode cX2_isDigit 16 = .ok (.iconst 0, 1) := by decide +kernel
theorem dX2_isDigit_17 : decode cX2_isDigit 17 = .ok (.ireturn, 1) := by decide +kernel
theorem dX2_isLetter_0 : decode cX2_isLetter 0 = .ok (.iload_n 0, 1) := by decide +kernel
theorem dX2_isLetter_1 : decode cX2_isLetter 1 = .ok (.bipush 97, 2) := by decide +kernel
theorem dX2_isLetter_3 : decode cX2_isLetter 3 = .ok (.if_icmp .lt 13, 3) := by decide +kernel
theorem dX2_isLetter_6 : decode cX2_isLetter 6 = .ok (.iload_n 0, 1) := by decide +kernel
theorem dX2_isLetter_7 : decode cX2_isLetter 7 = .ok (.bipush 122, 2) := by decide +kernel
theorem dX2_isLetter_9 : decode cX2_isLetter 9 = .ok (.if_icmp .gt 7, 3) := by decide +kernel
theorem dX2_isLetter_12 : decode cX2_isLetter 12 = .ok (.iconst 1, 1) := by decide +kernel
theorem dX2_isLetter_13 : decode cX2_isLetter 13 = .ok (.goto 4, 3) := by decide +kernel
theorem dX2_isLetter_16 : decode cX2_isLetter 16 = .ok (.iconst 0, 1) := by decide +kernel
theorem dX2_isLetter_17 : decode cX2_isLetter 17 = .ok (.ireturn, 1) := by decide +kernel
