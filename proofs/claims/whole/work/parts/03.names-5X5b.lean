theorem dX5_edit_124 : decode cX5_edit 124 = .ok (.iload_n 1, 1) := by decide +kernel
theorem dX5_edit_125 : decode cX5_edit 125 = .ok (.iaload, 1) := by decide +kernel
theorem dX5_edit_126 : decode cX5_edit 126 = .ok (.ireturn, 1) := by decide +kernel
theorem dX5_edit_127 : decode cX5_edit 127 = .ok (.aload_n 0, 1) := by decide +kernel
theorem dX5_edit_128 : decode cX5_edit 128 = .ok (.iload_n 1, 1) := by decide +kernel
theorem dX5_edit_129 : decode cX5_edit 129 = .ok (.invokevirtual 63, 3) := by decide +kernel
theorem dX5_edit_132 : decode cX5_edit 132 = .ok (.ireturn, 1) := by decide +kernel
set_option maxRecDepth 20000 in
theorem ggX5_commute_X5_isEdit : GoodIn wsX5_commute wsX5_isEdit := goodIn_r _ [5, 6, 7, 8, 4, 9, 19, 20, 21, 22, 23, 24, 25, 26, 27, 28, 29, 30, 31, 32, 33, 34, 35] (by decide +kernel) (by decide +kernel)
set_option maxRecDepth 20000 in
theorem gX5_commute_X5_isEdit : GoodIn wsX5_commute (wsV RX5 107 RX5 yX5_isEdit wsX5_isEdit) := goodIn_app (goodIn_of _ (by decide +kernel)) ggX5_commute_X5_isEdit
set_option maxRecDepth 20000 in
theorem ggX5_commute_X5_findsRests : GoodIn wsX5_commute wsX5_findsRests := goodIn_r _ [13, 6, 14, 19, 20, 21, 22, 23, 24, 25, 26, 27, 28, 29, 30, 31, 32, 33, 34, 35] (by decide +kernel) (by decide +kernel)
set_option maxRecDepth 20000 in
theorem gX5_commute_X5_findsRests : GoodIn wsX5_commute (wsV RX5 101 RX5 yX5_findsRests wsX5_findsRests) := goodIn_app (goodIn_of _ (by decide +kernel)) ggX5_commute_X5_findsRests
set_option maxRecDepth 20000 in
theorem ggX5_commute_X5_commutes : GoodIn wsX5_commute wsX5_commutes := goodIn_r _ [18, 14, 19, 20, 21, 22, 23, 24, 25, 26, 27, 28, 29, 30, 31, 32, 33, 34, 35] (by decide +kernel) (by decide +kernel)
set_option maxRecDepth 20000 in
theorem gX5_commute_X5_commutes : GoodIn wsX5_commute (wsV RX5 104 RX5 yX5_commutes wsX5_commutes) := goodIn_app (goodIn_of _ (by decide +kernel)) ggX5_commute_X5_commutes
theorem dX5_commute_0 : decode cX5_commute 0 = .ok (.aload_n 0, 1) := by decide +kernel
theorem dX5_commute_1 : decode cX5_commute 1 = .ok (.iload_n 1, 1) := by decide +kernel
theorem dX5_commute_2 : decode cX5_commute 2 = .ok (.invokevirtual 107, 3) := by decide +kernel
theorem dX5_commute_5 : decode cX5_commute 5 = .ok (.ifCond .eq 16, 3) := by decide +kernel
theorem dX5_commute_8 : decode cX5_commute 8 = .ok (.aload_n 0, 1) := by decide +kernel
theorem dX5_commute_9 : decode cX5_commute 9 = .ok (.iload_n 2, 1) := by decide +kernel
theorem dX5_commute_10 : decode cX5_commute 10 = .ok (.invokevirtual 107, 3) := by decide +kernel
theorem dX5_commute_13 : decode cX5_commute 13 = .ok (.ifCond .eq 8, 3) := by decide +kernel
theorem dX5_commute_16 : decode cX5_commute 16 = .ok (.iload_n 1, 1) := by decide +kernel
theorem dX5_commute_17 : decode cX5_commute 17 = .ok (.iload_n 2, 1) := by decide +kernel
theorem dX5_commute_18 : decode cX5_commute 18 = .ok (.if_icmp .ne 5, 3) := by decide +kernel
theorem dX5_commute_21 : decode cX5_commute 21 = .ok (.iconst (-1), 1) := by decide +kernel
theorem dX5_commute_22 : decode cX5_commute 22 = .ok (.ireturn, 1) := by decide +kernel
theorem dX5_commute_23 : decode cX5_commute 23 = .ok (.aload_n 0, 1) := by decide +kernel
theorem dX5_commute_24 : decode cX5_commute 24 = .ok (.invokevirtual 101, 3) := by decide +kernel
theorem dX5_commute_27 : decode cX5_commute 27 = .ok (.aload_n 0, 1) := by decide +kernel
theorem dX5_commute_28 : decode cX5_commute 28 = .ok (.iload_n 1, 1) := by decide +kernel
theorem dX5_commute_29 : decode cX5_commute 29 = .ok (.iload_n 2, 1) := by decide +kernel
theorem dX5_commute_30 : decode cX5_commute 30 = .ok (.invokevirtual 104, 3) := by decide +kernel
theorem dX5_commute_33 : decode cX5_commute 33 = .ok (.ifCond .eq 7, 3) := by decide +kernel
theorem dX5_commute_36 : decode cX5_commute 36 = .ok (.iconst 1, 1) := by decide +kernel
theorem dX5_commute_37 : decode cX5_commute 37 = .ok (.goto 4, 3) := by decide +kernel
theorem dX5_commute_40 : decode cX5_commute 40 = .ok (.iconst 0, 1) := by decide +kernel
theorem dX5_commute_41 : decode cX5_commute 41 = .ok (.ireturn, 1) := by decide +kernel
set_option maxRecDepth 20000 in
theorem ggX5_closure_X5_isEdit : GoodIn wsX5_closure wsX5_isEdit := goodIn_r _ [5, 6, 7, 8, 4, 9, 27, 28, 29, 30, 31, 32, 33, 34, 35, 36, 37, 38, 39, 40, 41, 42, 43] (by decide +kernel) (by decide +kernel)
set_option maxRecDepth 20000 in
theorem gX5_closure_X5_isEdit : GoodIn wsX5_closure (wsV RX5 107 RX5 yX5_isEdit wsX5_isEdit) := goodIn_app (goodIn_of _ (by decide +kernel)) ggX5_closure_X5_isEdit
set_option maxRecDepth 20000 in
theorem ggX5_closure_X5_findsRests : GoodIn wsX5_closure wsX5_findsRests := goodIn_r _ [13, 6, 14, 27, 28, 29, 30, 31, 32, 33, 34, 35, 36, 37, 38, 39, 40, 41, 42, 43] (by decide +kernel) (by decide +kernel)
set_option maxRecDepth 20000 in
theorem gX5_closure_X5_findsRests : GoodIn wsX5_closure (wsV RX5 101 RX5 yX5_findsRests wsX5_findsRests) := goodIn_app (goodIn_of _ (by decide +kernel)) ggX5_closure_X5_findsRests
set_option maxRecDepth 20000 in
theorem ggX5_closure_X5_isActive : GoodIn wsX5_closure wsX5_isActive := goodIn_r _ [18, 6, 27, 28, 29, 30, 31, 32, 33, 34, 35, 36, 37, 38, 39, 40, 41, 42, 43] (by decide +kernel) (by decide +kernel)
set_option maxRecDepth 20000 in
theorem gX5_closure_X5_isActive : GoodIn wsX5_closure (wsV RX5 59 RX5 yX5_isActive wsX5_isActive) := goodIn_app (goodIn_of _ (by decide +kernel)) ggX5_closure_X5_isActive
set_option maxRecDepth 20000 in
theorem ggX5_closure_X5_closureOf : GoodIn wsX5_closure wsX5_closureOf := goodIn_r _ [22, 6, 23, 24, 25, 4, 26, 14, 27, 28, 29, 30, 31, 32, 33, 34, 35, 36, 37, 38, 39, 40, 41, 42, 43] (by decide +kernel) (by decide +kernel)
set_option maxRecDepth 20000 in
theorem gX5_closure_X5_closureOf : GoodIn wsX5_closure (wsV RX5 113 RX5 yX5_closureOf wsX5_closureOf) := goodIn_app (goodIn_of _ (by decide +kernel)) ggX5_closure_X5_closureOf
theorem dX5_closure_0 : decode cX5_closure 0 = .ok (.aload_n 0, 1) := by decide +kernel
theorem dX5_closure_1 : decode cX5_closure 1 = .ok (.iload_n 1, 1) := by decide +kernel
theorem dX5_closure_2 : decode cX5_closure 2 = .ok (.invokevirtual 107, 3) := by decide +kernel
theorem dX5_closure_5 : decode cX5_closure 5 = .ok (.ifCond .ne 5, 3) := by decide +kernel
theorem dX5_closure_8 : decode cX5_closure 8 = .ok (.iconst (-1), 1) := by decide +kernel
theorem dX5_closure_9 : decode cX5_closure 9 = .ok (.ireturn, 1) := by decide +kernel
theorem dX5_closure_10 : decode cX5_closure 10 = .ok (.aload_n 0, 1) := by decide +kernel
theorem dX5_closure_11 : decode cX5_closure 11 = .ok (.invokevirtual 101, 3) := by decide +kernel
theorem dX5_closure_14 : decode cX5_closure 14 = .ok (.aload_n 0, 1) := by decide +kernel
theorem dX5_closure_15 : decode cX5_closure 15 = .ok (.iload_n 1, 1) := by decide +kernel
theorem dX5_closure_16 : decode cX5_closure 16 = .ok (.invokevirtual 59, 3) := by decide +kernel
theorem dX5_closure_19 : decode cX5_closure 19 = .ok (.ifCond .eq 11, 3) := by decide +kernel
theorem dX5_closure_22 : decode cX5_closure 22 = .ok (.aload_n 0, 1) := by decide +kernel
theorem dX5_closure_23 : decode cX5_closure 23 = .ok (.iload_n 1, 1) := by decide +kernel
theorem dX5_closure_24 : decode cX5_closure 24 = .ok (.invokevirtual 113, 3) := by decide +kernel
theorem dX5_closure_27 : decode cX5_closure 27 = .ok (.goto 5, 3) := by decide +kernel
theorem dX5_closure_30 : decode cX5_closure 30 = .ok (.bipush (-2), 2) := by decide +kernel
theorem dX5_closure_32 : decode cX5_closure 32 = .ok (.ireturn, 1) := by decide +kernel
set_option maxRecDepth 20000 in
theorem ggX5_opening_X5_isEdit : GoodIn wsX5_opening wsX5_isEdit := goodIn_r _ [5, 6, 7, 8, 4, 9, 23, 24, 25, 26, 27, 28, 29, 30, 31, 32, 33, 34, 35, 36, 37, 38, 39] (by decide +kernel) (by decide +kernel)
set_option maxRecDepth 20000 in
theorem gX5_opening_X5_isEdit : GoodIn wsX5_opening (wsV RX5 107 RX5 yX5_isEdit wsX5_isEdit) := goodIn_app (goodIn_of _ (by decide +kernel)) ggX5_opening_X5_isEdit
set_option maxRecDepth 20000 in
theorem ggX5_opening_X5_findsRests : GoodIn wsX5_opening wsX5_findsRests := goodIn_r _ [13, 6, 14, 23, 24, 25, 26, 27, 28, 29, 30, 31, 32, 33, 34, 35, 36, 37, 38, 39] (by decide +kernel) (by decide +kernel)
set_option maxRecDepth 20000 in
theorem gX5_opening_X5_findsRests : GoodIn wsX5_opening (wsV RX5 101 RX5 yX5_findsRests wsX5_findsRests) := goodIn_app (goodIn_of _ (by decide +kernel)) ggX5_opening_X5_findsRests
set_option maxRecDepth 20000 in
theorem ggX5_opening_X5_isActive : GoodIn wsX5_opening wsX5_isActive := goodIn_r _ [18, 6, 23, 24, 25, 26, 27, 28, 29, 30, 31, 32, 33, 34, 35, 36, 37, 38, 39] (by decide +kernel) (by decide +kernel)
set_option maxRecDepth 20000 in
theorem gX5_opening_X5_isActive : GoodIn wsX5_opening (wsV RX5 59 RX5 yX5_isActive wsX5_isActive) := goodIn_app (goodIn_of _ (by decide +kernel)) ggX5_opening_X5_isActive
set_option maxRecDepth 20000 in
theorem ggX5_opening_X5_openingOf : GoodIn wsX5_opening wsX5_openingOf := goodIn_r _ [22, 14, 6, 23, 24, 25, 26, 27, 28, 29, 30, 31, 32, 33, 34, 35, 36, 37, 38, 39] (by decide +kernel) (by decide +kernel)
set_option maxRecDepth 20000 in
theorem gX5_opening_X5_openingOf : GoodIn wsX5_opening (wsV RX5 116 RX5 yX5_openingOf wsX5_openingOf) := goodIn_app (goodIn_of _ (by decide +kernel)) ggX5_opening_X5_openingOf
theorem dX5_opening_0 : decode cX5_opening 0 = .ok (.aload_n 0, 1) := by decide +kernel
theorem dX5_opening_1 : decode cX5_opening 1 = .ok (.iload_n 1, 1) := by decide +kernel
theorem dX5_opening_2 : decode cX5_opening 2 = .ok (.invokevirtual 107, 3) := by decide +kernel
theorem dX5_opening_5 : decode cX5_opening 5 = .ok (.ifCond .ne 5, 3) := by decide +kernel
theorem dX5_opening_8 : decode cX5_opening 8 = .ok (.iconst (-1), 1) := by decide +kernel
theorem dX5_opening_9 : decode cX5_opening 9 = .ok (.ireturn, 1) := by decide +kernel
theorem dX5_opening_10 : decode cX5_opening 10 = .ok (.aload_n 0, 1) := by decide +kernel
theorem dX5_opening_11 : decode cX5_opening 11 = .ok (.invokevirtual 101, 3) := by decide +kernel
theorem dX5_opening_14 : decode cX5_opening 14 = .ok (.aload_n 0, 1) := by decide +kernel
theorem dX5_opening_15 : decode cX5_opening 15 = .ok (.iload_n 1, 1) := by decide +kernel
theorem dX5_opening_16 : decode cX5_opening 16 = .ok (.invokevirtual 59, 3) := by decide +kernel
theorem dX5_opening_19 : decode cX5_opening 19 = .ok (.ifCond .eq 8, 3) := by decide +kernel
theorem dX5_opening_22 : decode cX5_opening 22 = .ok (.bipush (-2), 2) := by decide +kernel
theorem dX5_opening_24 : decode cX5_opening 24 = .ok (.goto 8, 3) := by decide +kernel
theorem dX5_opening_27 : decode cX5_opening 27 = .ok (.aload_n 0, 1) := by decide +kernel
theorem dX5_opening_28 : decode cX5_opening 28 = .ok (.iload_n 1, 1) := by decide +kernel
theorem dX5_opening_29 : decode cX5_opening 29 = .ok (.invokevirtual 116, 3) := by decide +kernel
theorem dX5_opening_32 : decode cX5_opening 32 = .ok (.ireturn, 1) := by decide +kernel
theorem dX5_isSet_0 : decode cX5_isSet 0 = .ok (.iload_n 1, 1) := by decide +kernel
theorem dX5_isSet_1 : decode cX5_isSet 1 = .ok (.ifCond .lt 19, 3) := by decide +kernel
theorem dX5_isSet_4 : decode cX5_isSet 4 = .ok (.iload_n 1, 1) := by decide +kernel
theorem dX5_isSet_5 : decode cX5_isSet 5 = .ok (.iconst 1, 1) := by decide +kernel
theorem dX5_isSet_6 : decode cX5_isSet 6 = .ok (.aload_n 0, 1) := by decide +kernel
theorem dX5_isSet_7 : decode cX5_isSet 7 = .ok (.getfield 7, 3) := by decide +kernel
theorem dX5_isSet_10 : decode cX5_isSet 10 = .ok (.iconst 1, 1) := by decide +kernel
theorem dX5_isSet_11 : decode cX5_isSet 11 = .ok (.iaload, 1) := by decide +kernel
theorem dX5_isSet_12 : decode cX5_isSet 12 = .ok (.ishl, 1) := by decide +kernel
theorem dX5_isSet_13 : decode cX5_isSet 13 = .ok (.if_icmp .ge 7, 3) := by decide +kernel
theorem dX5_isSet_16 : decode cX5_isSet 16 = .ok (.iconst 1, 1) := by decide +kernel
theorem dX5_isSet_17 : decode cX5_isSet 17 = .ok (.goto 4, 3) := by decide +kernel
theorem dX5_isSet_20 : decode cX5_isSet 20 = .ok (.iconst 0, 1) := by decide +kernel
theorem dX5_isSet_21 : decode cX5_isSet 21 = .ok (.ireturn, 1) := by decide +kernel
set_option maxRecDepth 20000 in
theorem ggX5_held_X5_findsRests : GoodIn wsX5_held wsX5_findsRests := goodIn_r _ [6, 1, 7, 20, 21, 22, 23, 24, 25, 26, 27, 28, 29, 30, 31, 32, 33, 34, 35, 36] (by decide +kernel) (by decide +kernel)
set_option maxRecDepth 20000 in
theorem gX5_held_X5_findsRests : GoodIn wsX5_held (wsV RX5 101 RX5 yX5_findsRests wsX5_findsRests) := goodIn_app (goodIn_of _ (by decide +kernel)) ggX5_held_X5_findsRests
set_option maxRecDepth 20000 in
theorem ggX5_held_X5_isSet : GoodIn wsX5_held wsX5_isSet := goodIn_r _ [11, 1, 20, 21, 22, 23, 24, 25, 26, 27, 28, 29, 30, 31, 32, 33, 34, 35, 36] (by decide +kernel) (by decide +kernel)
set_option maxRecDepth 20000 in
theorem gX5_held_X5_isSet : GoodIn wsX5_held (wsV RX5 119 RX5 yX5_isSet wsX5_isSet) := goodIn_app (goodIn_of _ (by decide +kernel)) ggX5_held_X5_isSet
set_option maxRecDepth 20000 in
theorem ggX5_held_X5_canGo : GoodIn wsX5_held wsX5_canGo := goodIn_r _ [15, 1, 7, 16, 17, 18, 5, 19, 20, 21, 22, 23, 24, 25, 26, 27, 28, 29, 30, 31, 32, 33, 34, 35, 36] (by decide +kernel) (by decide +kernel)
set_option maxRecDepth 20000 in
theorem gX5_held_X5_canGo : GoodIn wsX5_held (wsV RX5 122 RX5 yX5_canGo wsX5_canGo) := goodIn_app (goodIn_of _ (by decide +kernel)) ggX5_held_X5_canGo
theorem dX5_held_0 : decode cX5_held 0 = .ok (.aload_n 0, 1) := by decide +kernel
theorem dX5_held_1 : decode cX5_held 1 = .ok (.invokevirtual 101, 3) := by decide +kernel
theorem dX5_held_4 : decode cX5_held 4 = .ok (.aload_n 0, 1) := by decide +kernel
theorem dX5_held_5 : decode cX5_held 5 = .ok (.iload_n 1, 1) := by decide +kernel
theorem dX5_held_6 : decode cX5_held 6 = .ok (.invokevirtual 119, 3) := by decide +kernel
theorem dX5_held_9 : decode cX5_held 9 = .ok (.ifCond .ne 7, 3) := by decide +kernel
theorem dX5_held_12 : decode cX5_held 12 = .ok (.iconst (-1), 1) := by decide +kernel
theorem dX5_held_13 : decode cX5_held 13 = .ok (.goto 30, 3) := by decide +kernel
theorem dX5_held_16 : decode cX5_held 16 = .ok (.iload_n 1, 1) := by decide +kernel
theorem dX5_held_17 : decode cX5_held 17 = .ok (.aload_n 0, 1) := by decide +kernel
theorem dX5_held_18 : decode cX5_held 18 = .ok (.getfield 7, 3) := by decide +kernel
theorem dX5_held_21 : decode cX5_held 21 = .ok (.iconst 2, 1) := by decide +kernel
theorem dX5_held_22 : decode cX5_held 22 = .ok (.iaload, 1) := by decide +kernel
theorem dX5_held_23 : decode cX5_held 23 = .ok (.iconst (-1), 1) := by decide +kernel
theorem dX5_held_24 : decode cX5_held 24 = .ok (.ixor, 1) := by decide +kernel
theorem dX5_held_25 : decode cX5_held 25 = .ok (.iand, 1) := by decide +kernel
theorem dX5_held_26 : decode cX5_held 26 = .ok (.ifCond .ne 11, 3) := by decide +kernel
theorem dX5_held_29 : decode cX5_held 29 = .ok (.aload_n 0, 1) := by decide +kernel
theorem dX5_held_30 : decode cX5_held 30 = .ok (.iload_n 1, 1) := by decide +kernel
theorem dX5_held_31 : decode cX5_held 31 = .ok (.invokevirtual 122, 3) := by decide +kernel
theorem dX5_held_34 : decode cX5_held 34 = .ok (.ifCond .ne 8, 3) := by decide +kernel
theorem dX5_held_37 : decode cX5_held 37 = .ok (.bipush (-2), 2) := by decide +kernel
theorem dX5_held_39 : decode cX5_held 39 = .ok (.goto 4, 3) := by decide +kernel
theorem dX5_held_42 : decode cX5_held 42 = .ok (.iconst 0, 1) := by decide +kernel
theorem dX5_held_43 : decode cX5_held 43 = .ok (.ireturn, 1) := by decide +kernel
set_option maxRecDepth 20000 in
theorem ggX5_price_X5_held : GoodIn wsX5_price wsX5_held := goodIn_r _ [5, 6, 7, 8, 9, 4, 10, 11, 12, 13, 14, 15, 16, 17, 18, 19, 20, 21, 22, 23, 49, 50, 51, 52, 53, 54, 55, 56, 57, 58, 59, 60, 61, 62, 63, 64, 65] (by decide +kernel) (by decide +kernel)
set_option maxRecDepth 20000 in
theorem gX5_price_X5_held : GoodIn wsX5_price (wsV RX5 125 RX5 yX5_held wsX5_held) := goodIn_app (goodIn_of _ (by decide +kernel)) ggX5_price_X5_held
set_option maxRecDepth 20000 in
theorem ggX5_price_X5_priceOfAll : GoodIn wsX5_price wsX5_priceOfAll := goodIn_r _ [27, 6, 28, 29, 30, 4, 31, 32, 33, 34, 35, 36, 37, 38, 39, 40, 41, 42, 43, 44, 45, 46, 47, 48, 49, 50, 51, 52, 53, 54, 55, 56, 57, 58, 59, 60, 61, 62, 63, 64, 65] (by decide +kernel) (by decide +kernel)
set_option maxRecDepth 20000 in
theorem gX5_price_X5_priceOfAll : GoodIn wsX5_price (wsV RX5 128 RX5 yX5_priceOfAll wsX5_priceOfAll) := goodIn_app (goodIn_of _ (by decide +kernel)) ggX5_price_X5_priceOfAll
theorem dX5_price_0 : decode cX5_price 0 = .ok (.aload_n 0, 1) := by decide +kernel
theorem dX5_price_1 : decode cX5_price 1 = .ok (.iload_n 1, 1) := by decide +kernel
theorem dX5_price_2 : decode cX5_price 2 = .ok (.invokevirtual 125, 3) := by decide +kernel
theorem dX5_price_5 : decode cX5_price 5 = .ok (.istore_n 2, 1) := by decide +kernel
theorem dX5_price_6 : decode cX5_price 6 = .ok (.iload_n 2, 1) := by decide +kernel
theorem dX5_price_7 : decode cX5_price 7 = .ok (.ifCond .ge 7, 3) := by decide +kernel
theorem dX5_price_10 : decode cX5_price 10 = .ok (.iload_n 2, 1) := by decide +kernel
theorem dX5_price_11 : decode cX5_price 11 = .ok (.goto 8, 3) := by decide +kernel
theorem dX5_price_14 : decode cX5_price 14 = .ok (.aload_n 0, 1) := by decide +kernel
theorem dX5_price_15 : decode cX5_price 15 = .ok (.iload_n 1, 1) := by decide +kernel
theorem dX5_price_16 : decode cX5_price 16 = .ok (.invokevirtual 128, 3) := by decide +kernel
theorem dX5_price_19 : decode cX5_price 19 = .ok (.ireturn, 1) := by decide +kernel
set_option maxRecDepth 20000 in
theorem ggX5_goes_X5_lengthBy : GoodIn wsX5_goes wsX5_lengthBy := goodIn_r _ [6, 1, 7, 8, 9, 5, 10, 19, 20, 21, 22, 23, 24, 25, 26, 27, 28, 29, 30, 31, 32, 33, 34, 35] (by decide +kernel) (by decide +kernel)
set_option maxRecDepth 20000 in
theorem gX5_goes_X5_lengthBy : GoodIn wsX5_goes (wsV RX5 47 RX5 yX5_lengthBy wsX5_lengthBy) := goodIn_app (goodIn_of _ (by decide +kernel)) ggX5_goes_X5_lengthBy
set_option maxRecDepth 20000 in
theorem ggX5_goes_X5_cutsCursor : GoodIn wsX5_goes wsX5_cutsCursor := goodIn_r _ [14, 1, 15, 16, 17, 5, 18, 2, 3, 4, 6, 7, 8, 9, 10, 19, 20, 21, 22, 23, 24, 25, 26, 27, 28, 29, 30, 31, 32, 33, 34, 35] (by decide +kernel) (by decide +kernel)
set_option maxRecDepth 20000 in
theorem gX5_goes_X5_cutsCursor : GoodIn wsX5_goes (wsV RX5 95 RX5 yX5_cutsCursor wsX5_cutsCursor) := goodIn_app (goodIn_of _ (by decide +kernel)) ggX5_goes_X5_cutsCursor
set_option maxRecDepth 20000 in
theorem ggX5_goes_X5_length : GoodIn wsX5_goes wsX5_length := goodIn_r _ [18, 1, 2, 3, 4, 5, 6, 7, 8, 9, 10, 19, 20, 21, 22, 23, 24, 25, 26, 27, 28, 29, 30, 31, 32, 33, 34, 35] (by decide +kernel) (by decide +kernel)
set_option maxRecDepth 20000 in
theorem gX5_goes_X5_length : GoodIn wsX5_goes (wsV RX5 51 RX5 yX5_length wsX5_length) := goodIn_app (goodIn_of _ (by decide +kernel)) ggX5_goes_X5_length
theorem dX5_goes_0 : decode cX5_goes 0 = .ok (.aload_n 0, 1) := by decide +kernel
theorem dX5_goes_1 : decode cX5_goes 1 = .ok (.getfield 7, 3) := by decide +kernel
theorem dX5_goes_4 : decode cX5_goes 4 = .ok (.iconst 2, 1) := by decide +kernel
theorem dX5_goes_5 : decode cX5_goes 5 = .ok (.iaload, 1) := by decide +kernel
theorem dX5_goes_6 : decode cX5_goes 6 = .ok (.iload_n 1, 1) := by decide +kernel
theorem dX5_goes_7 : decode cX5_goes 7 = .ok (.iconst (-1), 1) := by decide +kernel
theorem dX5_goes_8 : decode cX5_goes 8 = .ok (.ixor, 1) := by decide +kernel
theorem dX5_goes_9 : decode cX5_goes 9 = .ok (.iand, 1) := by decide +kernel
theorem dX5_goes_10 : decode cX5_goes 10 = .ok (.istore_n 2, 1) := by decide +kernel
theorem dX5_goes_11 : decode cX5_goes 11 = .ok (.aload_n 0, 1) := by decide +kernel
theorem dX5_goes_12 : decode cX5_goes 12 = .ok (.iload_n 2, 1) := by decide +kernel
theorem dX5_goes_13 : decode cX5_goes 13 = .ok (.invokevirtual 47, 3) := by decide +kernel
theorem dX5_goes_16 : decode cX5_goes 16 = .ok (.bipush 60, 2) := by decide +kernel
theorem dX5_goes_18 : decode cX5_goes 18 = .ok (.if_icmp .le 6, 3) := by decide +kernel
theorem dX5_goes_21 : decode cX5_goes 21 = .ok (.bipush (-3), 2) := by decide +kernel
theorem dX5_goes_23 : decode cX5_goes 23 = .ok (.ireturn, 1) := by decide +kernel
theorem dX5_goes_24 : decode cX5_goes 24 = .ok (.aload_n 0, 1) := by decide +kernel
theorem dX5_goes_25 : decode cX5_goes 25 = .ok (.getfield 7, 3) := by decide +kernel
theorem dX5_goes_28 : decode cX5_goes 28 = .ok (.iconst 2, 1) := by decide +kernel
theorem dX5_goes_29 : decode cX5_goes 29 = .ok (.iload_n 2, 1) := by decide +kernel
theorem dX5_goes_30 : decode cX5_goes 30 = .ok (.iastore, 1) := by decide +kernel
theorem dX5_goes_31 : decode cX5_goes 31 = .ok (.aload_n 0, 1) := by decide +kernel
theorem dX5_goes_32 : decode cX5_goes 32 = .ok (.invokevirtual 95, 3) := by decide +kernel
theorem dX5_goes_35 : decode cX5_goes 35 = .ok (.aload_n 0, 1) := by decide +kernel
theorem dX5_goes_36 : decode cX5_goes 36 = .ok (.invokevirtual 51, 3) := by decide +kernel
theorem dX5_goes_39 : decode cX5_goes 39 = .ok (.ireturn, 1) := by decide +kernel
set_option maxRecDepth 20000 in
theorem ggX5_takeBack_X5_held : GoodIn wsX5_takeBack wsX5_held := goodIn_r _ [5, 6, 7, 8, 9, 4, 10, 11, 12, 13, 14, 15, 16, 17, 18, 19, 20, 21, 22, 23, 44, 45, 46, 47, 48, 49, 50, 51, 52, 53, 54, 55, 56, 57, 58, 59, 60] (by decide +kernel) (by decide +kernel)
set_option maxRecDepth 20000 in
theorem gX5_takeBack_X5_held : GoodIn wsX5_takeBack (wsV RX5 125 RX5 yX5_held wsX5_held) := goodIn_app (goodIn_of _ (by decide +kernel)) ggX5_takeBack_X5_held
set_option maxRecDepth 20000 in
theorem ggX5_takeBack_X5_goes : GoodIn wsX5_takeBack wsX5_goes := goodIn_r _ [27, 6, 28, 29, 30, 4, 31, 32, 33, 34, 35, 36, 37, 38, 39, 40, 41, 42, 43, 44, 45, 46, 47, 48, 49, 50, 51, 52, 53, 54, 55, 56, 57, 58, 59, 60] (by decide +kernel) (by decide +kernel)
set_option maxRecDepth 20000 in
theorem gX5_takeBack_X5_goes : GoodIn wsX5_takeBack (wsV RX5 131 RX5 yX5_goes wsX5_goes) := goodIn_app (goodIn_of _ (by decide +kernel)) ggX5_takeBack_X5_goes
theorem dX5_takeBack_0 : decode cX5_takeBack 0 = .ok (.iload_n 1, 1) := by decide +kernel
theorem dX5_takeBack_1 : decode cX5_takeBack 1 = .ok (.ifCond .ne 7, 3) := by decide +kernel
theorem dX5_takeBack_4 : decode cX5_takeBack 4 = .ok (.iconst (-1), 1) := by decide +kernel
theorem dX5_takeBack_5 : decode cX5_takeBack 5 = .ok (.goto 8, 3) := by decide +kernel
theorem dX5_takeBack_8 : decode cX5_takeBack 8 = .ok (.aload_n 0, 1) := by decide +kernel
theorem dX5_takeBack_9 : decode cX5_takeBack 9 = .ok (.iload_n 1, 1) := by decide +kernel
theorem dX5_takeBack_10 : decode cX5_takeBack 10 = .ok (.invokevirtual 125, 3) := by decide +kernel
theorem dX5_takeBack_13 : decode cX5_takeBack 13 = .ok (.istore_n 2, 1) := by decide +kernel
theorem dX5_takeBack_14 : decode cX5_takeBack 14 = .ok (.iload_n 2, 1) := by decide +kernel
theorem dX5_takeBack_15 : decode cX5_takeBack 15 = .ok (.ifCond .ge 7, 3) := by decide +kernel
theorem dX5_takeBack_18 : decode cX5_takeBack 18 = .ok (.iload_n 2, 1) := by decide +kernel
theorem dX5_takeBack_19 : decode cX5_takeBack 19 = .ok (.goto 8, 3) := by decide +kernel
theorem dX5_takeBack_22 : decode cX5_takeBack 22 = .ok (.aload_n 0, 1) := by decide +kernel
theorem dX5_takeBack_23 : decode cX5_takeBack 23 = .ok (.iload_n 1, 1) := by decide +kernel
theorem dX5_takeBack_24 : decode cX5_takeBack 24 = .ok (.invokevirtual 131, 3) := by decide +kernel
theorem dX5_takeBack_27 : decode cX5_takeBack 27 = .ok (.ireturn, 1) := by decide +kernel
set_option maxRecDepth 20000 in
theorem ggX5_comes_X5_lengthBy : GoodIn wsX5_comes wsX5_lengthBy := goodIn_r _ [6, 1, 7, 8, 9, 5, 10, 19, 20, 21, 22, 23, 24, 25, 26, 27, 28, 29, 30, 31, 32, 33, 34, 35] (by decide +kernel) (by decide +kernel)
set_option maxRecDepth 20000 in
theorem gX5_comes_X5_lengthBy : GoodIn wsX5_comes (wsV RX5 47 RX5 yX5_lengthBy wsX5_lengthBy) := goodIn_app (goodIn_of _ (by decide +kernel)) ggX5_comes_X5_lengthBy
set_option maxRecDepth 20000 in
theorem ggX5_comes_X5_cutsCursor : GoodIn wsX5_comes wsX5_cutsCursor := goodIn_r _ [14, 1, 15, 16, 17, 5, 18, 2, 3, 4, 6, 7, 8, 9, 10, 19, 20, 21, 22, 23, 24, 25, 26, 27, 28, 29, 30, 31, 32, 33, 34, 35] (by decide +kernel) (by decide +kernel)
set_option maxRecDepth 20000 in
theorem gX5_comes_X5_cutsCursor : GoodIn wsX5_comes (wsV RX5 95 RX5 yX5_cutsCursor wsX5_cutsCursor) := goodIn_app (goodIn_of _ (by decide +kernel)) ggX5_comes_X5_cutsCursor
set_option maxRecDepth 20000 in
theorem ggX5_comes_X5_length : GoodIn wsX5_comes wsX5_length := goodIn_r _ [18, 1, 2, 3, 4, 5, 6, 7, 8, 9, 10, 19, 20, 21, 22, 23, 24, 25, 26, 27, 28, 29, 30, 31, 32, 33, 34, 35] (by decide +kernel) (by decide +kernel)
set_option maxRecDepth 20000 in
theorem gX5_comes_X5_length : GoodIn wsX5_comes (wsV RX5 51 RX5 yX5_length wsX5_length) := goodIn_app (goodIn_of _ (by decide +kernel)) ggX5_comes_X5_length
theorem dX5_comes_0 : decode cX5_comes 0 = .ok (.aload_n 0, 1) := by decide +kernel
theorem dX5_comes_1 : decode cX5_comes 1 = .ok (.getfield 7, 3) := by decide +kernel
theorem dX5_comes_4 : decode cX5_comes 4 = .ok (.iconst 2, 1) := by decide +kernel
theorem dX5_comes_5 : decode cX5_comes 5 = .ok (.iaload, 1) := by decide +kernel
theorem dX5_comes_6 : decode cX5_comes 6 = .ok (.iload_n 1, 1) := by decide +kernel
theorem dX5_comes_7 : decode cX5_comes 7 = .ok (.ior, 1) := by decide +kernel
theorem dX5_comes_8 : decode cX5_comes 8 = .ok (.istore_n 2, 1) := by decide +kernel
theorem dX5_comes_9 : decode cX5_comes 9 = .ok (.aload_n 0, 1) := by decide +kernel
theorem dX5_comes_10 : decode cX5_comes 10 = .ok (.iload_n 2, 1) := by decide +kernel
theorem dX5_comes_11 : decode cX5_comes 11 = .ok (.invokevirtual 47, 3) := by decide +kernel
theorem dX5_comes_14 : decode cX5_comes 14 = .ok (.bipush 60, 2) := by decide +kernel
theorem dX5_comes_16 : decode cX5_comes 16 = .ok (.if_icmp .le 6, 3) := by decide +kernel
theorem dX5_comes_19 : decode cX5_comes 19 = .ok (.bipush (-3), 2) := by decide +kernel
theorem dX5_comes_21 : decode cX5_comes 21 = .ok (.ireturn, 1) := by decide +kernel
theorem dX5_comes_22 : decode cX5_comes 22 = .ok (.aload_n 0, 1) := by decide +kernel
theorem dX5_comes_23 : decode cX5_comes 23 = .ok (.getfield 7, 3) := by decide +kernel
theorem dX5_comes_26 : decode cX5_comes 26 = .ok (.iconst 2, 1) := by decide +kernel
theorem dX5_comes_27 : decode cX5_comes 27 = .ok (.iload_n 2, 1) := by decide +kernel
theorem dX5_comes_28 : decode cX5_comes 28 = .ok (.iastore, 1) := by decide +kernel
theorem dX5_comes_29 : decode cX5_comes 29 = .ok (.aload_n 0, 1) := by decide +kernel
theorem dX5_comes_30 : decode cX5_comes 30 = .ok (.invokevirtual 95, 3) := by decide +kernel
theorem dX5_comes_33 : decode cX5_comes 33 = .ok (.aload_n 0, 1) := by decide +kernel
theorem dX5_comes_34 : decode cX5_comes 34 = .ok (.invokevirtual 51, 3) := by decide +kernel
theorem dX5_comes_37 : decode cX5_comes 37 = .ok (.ireturn, 1) := by decide +kernel
set_option maxRecDepth 20000 in
theorem ggX5_bringBack_X5_isSet : GoodIn wsX5_bringBack wsX5_isSet := goodIn_r _ [6, 1, 36, 37, 38, 39, 40, 41, 42, 43, 44, 45, 46, 47, 48, 49, 50, 51, 52] (by decide +kernel) (by decide +kernel)
set_option maxRecDepth 20000 in
theorem gX5_bringBack_X5_isSet : GoodIn wsX5_bringBack (wsV RX5 119 RX5 yX5_isSet wsX5_isSet) := goodIn_app (goodIn_of _ (by decide +kernel)) ggX5_bringBack_X5_isSet
set_option maxRecDepth 20000 in
theorem ggX5_bringBack_X5_findsRests : GoodIn wsX5_bringBack wsX5_findsRests := goodIn_r _ [10, 1, 11, 36, 37, 38, 39, 40, 41, 42, 43, 44, 45, 46, 47, 48, 49, 50, 51, 52] (by decide +kernel) (by decide +kernel)
set_option maxRecDepth 20000 in
theorem gX5_bringBack_X5_findsRests : GoodIn wsX5_bringBack (wsV RX5 101 RX5 yX5_findsRests wsX5_findsRests) := goodIn_app (goodIn_of _ (by decide +kernel)) ggX5_bringBack_X5_findsRests
set_option maxRecDepth 20000 in
theorem ggX5_bringBack_X5_canCome : GoodIn wsX5_bringBack wsX5_canCome := goodIn_r _ [15, 1, 11, 36, 37, 38, 39, 40, 41, 42, 43, 44, 45, 46, 47, 48, 49, 50, 51, 52] (by decide +kernel) (by decide +kernel)
set_option maxRecDepth 20000 in
theorem gX5_bringBack_X5_canCome : GoodIn wsX5_bringBack (wsV RX5 134 RX5 yX5_canCome wsX5_canCome) := goodIn_app (goodIn_of _ (by decide +kernel)) ggX5_bringBack_X5_canCome
set_option maxRecDepth 20000 in
theorem ggX5_bringBack_X5_comes : GoodIn wsX5_bringBack wsX5_comes := goodIn_r _ [19, 1, 20, 21, 22, 5, 23, 24, 25, 26, 27, 28, 29, 30, 31, 32, 33, 34, 35, 36, 37, 38, 39, 40, 41, 42, 43, 44, 45, 46, 47, 48, 49, 50, 51, 52] (by decide +kernel) (by decide +kernel)
set_option maxRecDepth 20000 in
theorem gX5_bringBack_X5_comes : GoodIn wsX5_bringBack (wsV RX5 137 RX5 yX5_comes wsX5_comes) := goodIn_app (goodIn_of _ (by decide +kernel)) ggX5_bringBack_X5_comes
theorem dX5_bringBack_0 : decode cX5_bringBack 0 = .ok (.iload_n 1, 1) := by decide +kernel
theorem dX5_bringBack_1 : decode cX5_bringBack 1 = .ok (.ifCond .eq 11, 3) := by decide +kernel
theorem dX5_bringBack_4 : decode cX5_bringBack 4 = .ok (.aload_n 0, 1) := by decide +kernel
theorem dX5_bringBack_5 : decode cX5_bringBack 5 = .ok (.iload_n 1, 1) := by decide +kernel
theorem dX5_bringBack_6 : decode cX5_bringBack 6 = .ok (.invokevirtual 119, 3) := by decide +kernel
theorem dX5_bringBack_9 : decode cX5_bringBack 9 = .ok (.ifCond .ne 5, 3) := by decide +kernel
theorem dX5_bringBack_12 : decode cX5_bringBack 12 = .ok (.iconst (-1), 1) := by decide +kernel
theorem dX5_bringBack_13 : decode cX5_bringBack 13 = .ok (.ireturn, 1) := by decide +kernel
theorem dX5_bringBack_14 : decode cX5_bringBack 14 = .ok (.aload_n 0, 1) := by decide +kernel
theorem dX5_bringBack_15 : decode cX5_bringBack 15 = .ok (.invokevirtual 101, 3) := by decide +kernel
theorem dX5_bringBack_18 : decode cX5_bringBack 18 = .ok (.iload_n 1, 1) := by decide +kernel
theorem dX5_bringBack_19 : decode cX5_bringBack 19 = .ok (.aload_n 0, 1) := by decide +kernel
theorem dX5_bringBack_20 : decode cX5_bringBack 20 = .ok (.getfield 7, 3) := by decide +kernel
theorem dX5_bringBack_23 : decode cX5_bringBack 23 = .ok (.iconst 2, 1) := by decide +kernel
theorem dX5_bringBack_24 : decode cX5_bringBack 24 = .ok (.iaload, 1) := by decide +kernel
theorem dX5_bringBack_25 : decode cX5_bringBack 25 = .ok (.iand, 1) := by decide +kernel
theorem dX5_bringBack_26 : decode cX5_bringBack 26 = .ok (.ifCond .ne 11, 3) := by decide +kernel
theorem dX5_bringBack_29 : decode cX5_bringBack 29 = .ok (.aload_n 0, 1) := by decide +kernel
theorem dX5_bringBack_30 : decode cX5_bringBack 30 = .ok (.iload_n 1, 1) := by decide +kernel
theorem dX5_bringBack_31 : decode cX5_bringBack 31 = .ok (.invokevirtual 134, 3) := by decide +kernel
theorem dX5_bringBack_34 : decode cX5_bringBack 34 = .ok (.ifCond .ne 8, 3) := by decide +kernel
theorem dX5_bringBack_37 : decode cX5_bringBack 37 = .ok (.bipush (-2), 2) := by decide +kernel
theorem dX5_bringBack_39 : decode cX5_bringBack 39 = .ok (.goto 8, 3) := by decide +kernel
theorem dX5_bringBack_42 : decode cX5_bringBack 42 = .ok (.aload_n 0, 1) := by decide +kernel
theorem dX5_bringBack_43 : decode cX5_bringBack 43 = .ok (.iload_n 1, 1) := by decide +kernel
theorem dX5_bringBack_44 : decode cX5_bringBack 44 = .ok (.invokevirtual 137, 3) := by decide +kernel
theorem dX5_bringBack_47 : decode cX5_bringBack 47 = .ok (.ireturn, 1) := by decide +kernel
set_option maxRecDepth 20000 in
theorem ggX5_carried_X5_held : GoodIn wsX5_carried wsX5_held := goodIn_r _ [6, 1, 7, 8, 9, 5, 10, 11, 12, 13, 14, 15, 16, 17, 18, 19, 20, 21, 22, 23, 47, 48, 49, 50, 51, 52, 53, 54, 55, 56, 57, 58, 59, 60, 61, 62, 63] (by decide +kernel) (by decide +kernel)
set_option maxRecDepth 20000 in
theorem gX5_carried_X5_held : GoodIn wsX5_carried (wsV RX5 125 RX5 yX5_held wsX5_held) := goodIn_app (goodIn_of _ (by decide +kernel)) ggX5_carried_X5_held
set_option maxRecDepth 20000 in
theorem ggX5_carried_X5_length : GoodIn wsX5_carried wsX5_length := goodIn_r _ [27, 1, 28, 29, 30, 5, 31, 32, 33, 34, 35, 47, 48, 49, 50, 51, 52, 53, 54, 55, 56, 57, 58, 59, 60, 61, 62, 63] (by decide +kernel) (by decide +kernel)
set_option maxRecDepth 20000 in
theorem gX5_carried_X5_length : GoodIn wsX5_carried (wsV RX5 51 RX5 yX5_length wsX5_length) := goodIn_app (goodIn_of _ (by decide +kernel)) ggX5_carried_X5_length
set_option maxRecDepth 20000 in
theorem ggX5_carried_X5_in : GoodIn wsX5_carried wsX5_in := goodIn_r _ [38] (by decide +kernel) (by decide +kernel)
set_option maxRecDepth 20000 in
theorem gX5_carried_X5_in : GoodIn wsX5_carried (va_wsS RX5 55 yX5_in wsX5_in) := goodIn_app (goodIn_of _ (by decide +kernel)) ggX5_carried_X5_in
set_option maxRecDepth 20000 in
theorem ggX5_carried_X5_at : GoodIn wsX5_carried wsX5_at := goodIn_r _ [42, 1, 32, 33, 34, 5, 35, 47, 48, 49, 50, 51, 52, 53, 54, 55, 56, 57, 58, 59, 60, 61, 62, 63] (by decide +kernel) (by decide +kernel)
set_option maxRecDepth 20000 in
theorem gX5_carried_X5_at : GoodIn wsX5_carried (wsV RX5 82 RX5 yX5_at wsX5_at) := goodIn_app (goodIn_of _ (by decide +kernel)) ggX5_carried_X5_at
set_option maxRecDepth 20000 in
theorem ggX5_carried_X5_isVisible : GoodIn wsX5_carried wsX5_isVisible := goodIn_r _ [35, 1, 47, 48, 49, 50, 51, 52, 53, 54, 55, 56, 57, 58, 59, 60, 61, 62, 63] (by decide +kernel) (by decide +kernel)
set_option maxRecDepth 20000 in
theorem gX5_carried_X5_isVisible : GoodIn wsX5_carried (wsV RX5 43 RX5 yX5_isVisible wsX5_isVisible) := goodIn_app (goodIn_of _ (by decide +kernel)) ggX5_carried_X5_isVisible
set_option maxRecDepth 20000 in
theorem ggX5_carried_X5_ahead : GoodIn wsX5_carried wsX5_ahead := goodIn_r _ [46, 32, 33, 34, 5, 35, 1, 47, 48, 49, 50, 51, 52, 53, 54, 55, 56, 57, 58, 59, 60, 61, 62, 63] (by decide +kernel) (by decide +kernel)
set_option maxRecDepth 20000 in
theorem gX5_carried_X5_ahead : GoodIn wsX5_carried (wsV RX5 66 RX5 yX5_ahead wsX5_ahead) := goodIn_app (goodIn_of _ (by decide +kernel)) ggX5_carried_X5_ahead
theorem dX5_carried_0 : decode cX5_carried 0 = .ok (.aload_n 0, 1) := by decide +kernel
theorem dX5_carried_1 : decode cX5_carried 1 = .ok (.iload_n 1, 1) := by decide +kernel
theorem dX5_carried_2 : decode cX5_carried 2 = .ok (.invokevirtual 125, 3) := by decide +kernel
theorem dX5_carried_5 : decode cX5_carried 5 = .ok (.istore_n 3, 1) := by decide +kernel
theorem dX5_carried_6 : decode cX5_carried 6 = .ok (.iload_n 3, 1) := by decide +kernel
theorem dX5_carried_7 : decode cX5_carried 7 = .ok (.iconst (-1), 1) := by decide +kernel
theorem dX5_carried_8 : decode cX5_carried 8 = .ok (.if_icmp .eq 17, 3) := by decide +kernel
theorem dX5_carried_11 : decode cX5_carried 11 = .ok (.iload_n 2, 1) := by decide +kernel
theorem dX5_carried_12 : decode cX5_carried 12 = .ok (.iconst 0, 1) := by decide +kernel
theorem dX5_carried_13 : decode cX5_carried 13 = .ok (.aload_n 0, 1) := by decide +kernel
theorem dX5_carried_14 : decode cX5_carried 14 = .ok (.invokevirtual 51, 3) := by decide +kernel
theorem dX5_carried_17 : decode cX5_carried 17 = .ok (.iconst 1, 1) := by decide +kernel
theorem dX5_carried_18 : decode cX5_carried 18 = .ok (.isub, 1) := by decide +kernel
theorem dX5_carried_19 : decode cX5_carried 19 = .ok (.invokestatic 55, 3) := by decide +kernel
theorem dX5_carried_22 : decode cX5_carried 22 = .ok (.ifCond .ne 5, 3) := by decide +kernel
theorem dX5_carried_25 : decode cX5_carried 25 = .ok (.iconst (-1), 1) := by decide +kernel
theorem dX5_carried_26 : decode cX5_carried 26 = .ok (.ireturn, 1) := by decide +kernel
theorem dX5_carried_27 : decode cX5_carried 27 = .ok (.iload_n 3, 1) := by decide +kernel
theorem dX5_carried_28 : decode cX5_carried 28 = .ok (.ifCond .ge 5, 3) := by decide +kernel
theorem dX5_carried_31 : decode cX5_carried 31 = .ok (.iload_n 3, 1) := by decide +kernel
theorem dX5_carried_32 : decode cX5_carried 32 = .ok (.ireturn, 1) := by decide +kernel
theorem dX5_carried_33 : decode cX5_carried 33 = .ok (.aload_n 0, 1) := by decide +kernel
theorem dX5_carried_34 : decode cX5_carried 34 = .ok (.iload_n 2, 1) := by decide +kernel
theorem dX5_carried_35 : decode cX5_carried 35 = .ok (.invokevirtual 82, 3) := by decide +kernel
theorem dX5_carried_38 : decode cX5_carried 38 = .ok (.istore 4, 2) := by decide +kernel
theorem dX5_carried_40 : decode cX5_carried 40 = .ok (.aload_n 0, 1) := by decide +kernel
theorem dX5_carried_41 : decode cX5_carried 41 = .ok (.getfield 7, 3) := by decide +kernel
theorem dX5_carried_44 : decode cX5_carried 44 = .ok (.iconst 2, 1) := by decide +kernel
theorem dX5_carried_45 : decode cX5_carried 45 = .ok (.iaload, 1) := by decide +kernel
theorem dX5_carried_46 : decode cX5_carried 46 = .ok (.iload_n 1, 1) := by decide +kernel
theorem dX5_carried_47 : decode cX5_carried 47 = .ok (.iconst (-1), 1) := by decide +kernel
theorem dX5_carried_48 : decode cX5_carried 48 = .ok (.ixor, 1) := by decide +kernel
theorem dX5_carried_49 : decode cX5_carried 49 = .ok (.iand, 1) := by decide +kernel
theorem dX5_carried_50 : decode cX5_carried 50 = .ok (.istore 5, 2) := by decide +kernel
theorem dX5_carried_52 : decode cX5_carried 52 = .ok (.aload_n 0, 1) := by decide +kernel
theorem dX5_carried_53 : decode cX5_carried 53 = .ok (.iload 4, 2) := by decide +kernel
theorem dX5_carried_55 : decode cX5_carried 55 = .ok (.iload 5, 2) := by decide +kernel
theorem dX5_carried_57 : decode cX5_carried 57 = .ok (.invokevirtual 43, 3) := by decide +kernel
theorem dX5_carried_60 : decode cX5_carried 60 = .ok (.ifCond .eq 14, 3) := by decide +kernel
theorem dX5_carried_63 : decode cX5_carried 63 = .ok (.aload_n 0, 1) := by decide +kernel
theorem dX5_carried_64 : decode cX5_carried 64 = .ok (.iload 4, 2) := by decide +kernel
theorem dX5_carried_66 : decode cX5_carried 66 = .ok (.iload 5, 2) := by decide +kernel
theorem dX5_carried_68 : decode cX5_carried 68 = .ok (.invokevirtual 66, 3) := by decide +kernel
theorem dX5_carried_71 : decode cX5_carried 71 = .ok (.goto 5, 3) := by decide +kernel
theorem dX5_carried_74 : decode cX5_carried 74 = .ok (.bipush (-9), 2) := by decide +kernel
theorem dX5_carried_76 : decode cX5_carried 76 = .ok (.ireturn, 1) := by decide +kernel
set_option maxRecDepth 20000 in
theorem ggX5_loose_X5_findsRests : GoodIn wsX5_loose wsX5_findsRests := goodIn_r _ [6, 1, 7, 20, 21, 22, 23, 24, 25, 26, 27, 28, 29, 30, 31, 32, 33, 34, 35, 36] (by decide +kernel) (by decide +kernel)
set_option maxRecDepth 20000 in
theorem gX5_loose_X5_findsRests : GoodIn wsX5_loose (wsV RX5 101 RX5 yX5_findsRests wsX5_findsRests) := goodIn_app (goodIn_of _ (by decide +kernel)) ggX5_loose_X5_findsRests
set_option maxRecDepth 20000 in
theorem ggX5_loose_X5_isActive : GoodIn wsX5_loose wsX5_isActive := goodIn_r _ [11, 1, 20, 21, 22, 23, 24, 25, 26, 27, 28, 29, 30, 31, 32, 33, 34, 35, 36] (by decide +kernel) (by decide +kernel)
set_option maxRecDepth 20000 in
theorem gX5_loose_X5_isActive : GoodIn wsX5_loose (wsV RX5 59 RX5 yX5_isActive wsX5_isActive) := goodIn_app (goodIn_of _ (by decide +kernel)) ggX5_loose_X5_isActive
set_option maxRecDepth 20000 in
theorem ggX5_loose_X5_closureOf : GoodIn wsX5_loose wsX5_closureOf := goodIn_r _ [15, 1, 16, 17, 18, 5, 19, 7, 20, 21, 22, 23, 24, 25, 26, 27, 28, 29, 30, 31, 32, 33, 34, 35, 36] (by decide +kernel) (by decide +kernel)
set_option maxRecDepth 20000 in
theorem gX5_loose_X5_closureOf : GoodIn wsX5_loose (wsV RX5 113 RX5 yX5_closureOf wsX5_closureOf) := goodIn_app (goodIn_of _ (by decide +kernel)) ggX5_loose_X5_closureOf
theorem dX5_loose_0 : decode cX5_loose 0 = .ok (.aload_n 0, 1) := by decide +kernel
theorem dX5_loose_1 : decode cX5_loose 1 = .ok (.invokevirtual 101, 3) := by decide +kernel
theorem dX5_loose_4 : decode cX5_loose 4 = .ok (.iconst 0, 1) := by decide +kernel
theorem dX5_loose_5 : decode cX5_loose 5 = .ok (.istore_n 1, 1) := by decide +kernel
theorem dX5_loose_6 : decode cX5_loose 6 = .ok (.iconst 0, 1) := by decide +kernel
theorem dX5_loose_7 : decode cX5_loose 7 = .ok (.istore_n 2, 1) := by decide +kernel
theorem dX5_loose_8 : decode cX5_loose 8 = .ok (.iload_n 2, 1) := by decide +kernel
theorem dX5_loose_9 : decode cX5_loose 9 = .ok (.aload_n 0, 1) := by decide +kernel
theorem dX5_loose_10 : decode cX5_loose 10 = .ok (.getfield 7, 3) := by decide +kernel
theorem dX5_loose_13 : decode cX5_loose 13 = .ok (.iconst 1, 1) := by decide +kernel
theorem dX5_loose_14 : decode cX5_loose 14 = .ok (.iaload, 1) := by decide +kernel
theorem dX5_loose_15 : decode cX5_loose 15 = .ok (.if_icmp .ge 38, 3) := by decide +kernel
theorem dX5_loose_18 : decode cX5_loose 18 = .ok (.iload_n 1, 1) := by decide +kernel
theorem dX5_loose_19 : decode cX5_loose 19 = .ok (.aload_n 0, 1) := by decide +kernel
theorem dX5_loose_20 : decode cX5_loose 20 = .ok (.iload_n 2, 1) := by decide +kernel
theorem dX5_loose_21 : decode cX5_loose 21 = .ok (.invokevirtual 59, 3) := by decide +kernel
theorem dX5_loose_24 : decode cX5_loose 24 = .ok (.ifCond .eq 20, 3) := by decide +kernel
theorem dX5_loose_27 : decode cX5_loose 27 = .ok (.aload_n 0, 1) := by decide +kernel
theorem dX5_loose_28 : decode cX5_loose 28 = .ok (.iload_n 2, 1) := by decide +kernel
theorem dX5_loose_29 : decode cX5_loose 29 = .ok (.invokevirtual 113, 3) := by decide +kernel
theorem dX5_loose_32 : decode cX5_loose 32 = .ok (.iconst 1, 1) := by decide +kernel
theorem dX5_loose_33 : decode cX5_loose 33 = .ok (.iload_n 2, 1) := by decide +kernel
theorem dX5_loose_34 : decode cX5_loose 34 = .ok (.ishl, 1) := by decide +kernel
theorem dX5_loose_35 : decode cX5_loose 35 = .ok (.if_icmp .ne 9, 3) := by decide +kernel
theorem dX5_loose_38 : decode cX5_loose 38 = .ok (.iconst 1, 1) := by decide +kernel
theorem dX5_loose_39 : decode cX5_loose 39 = .ok (.iload_n 2, 1) := by decide +kernel
theorem dX5_loose_40 : decode cX5_loose 40 = .ok (.ishl, 1) := by decide +kernel
theorem dX5_loose_41 : decode cX5_loose 41 = .ok (.goto 4, 3) := by decide +kernel
theorem dX5_loose_44 : decode cX5_loose 44 = .ok (.iconst 0, 1) := by decide +kernel
theorem dX5_loose_45 : decode cX5_loose 45 = .ok (.ior, 1) := by decide +kernel
theorem dX5_loose_46 : decode cX5_loose 46 = .ok (.istore_n 1, 1) := by decide +kernel
theorem dX5_loose_47 : decode cX5_loose 47 = .ok (.iinc 2 1, 3) := by decide +kernel
theorem dX5_loose_50 : decode cX5_loose 50 = .ok (.goto (-42), 3) := by decide +kernel
theorem dX5_loose_53 : decode cX5_loose 53 = .ok (.iload_n 1, 1) := by decide +kernel
theorem dX5_loose_54 : decode cX5_loose 54 = .ok (.ireturn, 1) := by decide +kernel
set_option maxRecDepth 20000 in
theorem ggX5_run_X5_isEdit : GoodIn wsX5_run wsX5_isEdit := goodIn_r _ [6, 1, 7, 8, 5, 9, 14, 15, 16, 17, 18, 19, 20, 21, 22, 23, 24, 25, 26, 27, 28, 29, 30] (by decide +kernel) (by decide +kernel)
set_option maxRecDepth 20000 in
theorem gX5_run_X5_isEdit : GoodIn wsX5_run (wsV RX5 107 RX5 yX5_isEdit wsX5_isEdit) := goodIn_app (goodIn_of _ (by decide +kernel)) ggX5_run_X5_isEdit
set_option maxRecDepth 20000 in
theorem ggX5_run_X5_in : GoodIn wsX5_run wsX5_in := goodIn_r _ [9] (by decide +kernel) (by decide +kernel)
set_option maxRecDepth 20000 in
theorem gX5_run_X5_in : GoodIn wsX5_run (va_wsS RX5 55 yX5_in wsX5_in) := goodIn_app (goodIn_of _ (by decide +kernel)) ggX5_run_X5_in
set_option maxRecDepth 20000 in
theorem ggX5_run_X5_isVisible : GoodIn wsX5_run wsX5_isVisible := goodIn_r _ [13, 1, 14, 15, 16, 17, 18, 19, 20, 21, 22, 23, 24, 25, 26, 27, 28, 29, 30] (by decide +kernel) (by decide +kernel)
set_option maxRecDepth 20000 in
theorem gX5_run_X5_isVisible : GoodIn wsX5_run (wsV RX5 43 RX5 yX5_isVisible wsX5_isVisible) := goodIn_app (goodIn_of _ (by decide +kernel)) ggX5_run_X5_isVisible
theorem dX5_run_0 : decode cX5_run 0 = .ok (.iload_n 1, 1) := by decide +kernel
theorem dX5_run_1 : decode cX5_run 1 = .ok (.iconst (-1), 1) := by decide +kernel
theorem dX5_run_2 : decode cX5_run 2 = .ok (.if_icmp .eq 11, 3) := by decide +kernel
theorem dX5_run_5 : decode cX5_run 5 = .ok (.aload_n 0, 1) := by decide +kernel
theorem dX5_run_6 : decode cX5_run 6 = .ok (.iload_n 1, 1) := by decide +kernel
theorem dX5_run_7 : decode cX5_run 7 = .ok (.invokevirtual 107, 3) := by decide +kernel
theorem dX5_run_10 : decode cX5_run 10 = .ok (.ifCond .eq 12, 3) := by decide +kernel
theorem dX5_run_13 : decode cX5_run 13 = .ok (.iload_n 2, 1) := by decide +kernel
theorem dX5_run_14 : decode cX5_run 14 = .ok (.iconst 0, 1) := by decide +kernel
theorem dX5_run_15 : decode cX5_run 15 = .ok (.iconst 1, 1) := by decide +kernel
theorem dX5_run_16 : decode cX5_run 16 = .ok (.invokestatic 55, 3) := by decide +kernel
theorem dX5_run_19 : decode cX5_run 19 = .ok (.ifCond .ne 5, 3) := by decide +kernel
theorem dX5_run_22 : decode cX5_run 22 = .ok (.iconst (-1), 1) := by decide +kernel
theorem dX5_run_23 : decode cX5_run 23 = .ok (.ireturn, 1) := by decide +kernel
theorem dX5_run_24 : decode cX5_run 24 = .ok (.iconst 0, 1) := by decide +kernel
theorem dX5_run_25 : decode cX5_run 25 = .ok (.istore_n 3, 1) := by decide +kernel
theorem dX5_run_26 : decode cX5_run 26 = .ok (.bipush (-9), 2) := by decide +kernel
theorem dX5_run_28 : decode cX5_run 28 = .ok (.istore 4, 2) := by decide +kernel
theorem dX5_run_30 : decode cX5_run 30 = .ok (.iconst 0, 1) := by decide +kernel
theorem dX5_run_31 : decode cX5_run 31 = .ok (.istore 5, 2) := by decide +kernel
theorem dX5_run_33 : decode cX5_run 33 = .ok (.iconst 0, 1) := by decide +kernel
theorem dX5_run_34 : decode cX5_run 34 = .ok (.istore 6, 2) := by decide +kernel
theorem dX5_run_36 : decode cX5_run 36 = .ok (.iconst 0, 1) := by decide +kernel
theorem dX5_run_37 : decode cX5_run 37 = .ok (.istore 7, 2) := by decide +kernel
theorem dX5_run_39 : decode cX5_run 39 = .ok (.iload 7, 2) := by decide +kernel
theorem dX5_run_41 : decode cX5_run 41 = .ok (.aload_n 0, 1) := by decide +kernel
theorem dX5_run_42 : decode cX5_run 42 = .ok (.getfield 7, 3) := by decide +kernel
theorem dX5_run_45 : decode cX5_run 45 = .ok (.iconst 0, 1) := by decide +kernel
theorem dX5_run_46 : decode cX5_run 46 = .ok (.iaload, 1) := by decide +kernel
theorem dX5_run_47 : decode cX5_run 47 = .ok (.if_icmp .ge 85, 3) := by decide +kernel
theorem dX5_run_50 : decode cX5_run 50 = .ok (.aload_n 0, 1) := by decide +kernel
theorem dX5_run_51 : decode cX5_run 51 = .ok (.iload 7, 2) := by decide +kernel
theorem dX5_run_53 : decode cX5_run 53 = .ok (.aload_n 0, 1) := by decide +kernel
theorem dX5_run_54 : decode cX5_run 54 = .ok (.getfield 7, 3) := by decide +kernel
theorem dX5_run_57 : decode cX5_run 57 = .ok (.iconst 2, 1) := by decide +kernel
theorem dX5_run_58 : decode cX5_run 58 = .ok (.iaload, 1) := by decide +kernel
theorem dX5_run_59 : decode cX5_run 59 = .ok (.invokevirtual 43, 3) := by decide +kernel
theorem dX5_run_62 : decode cX5_run 62 = .ok (.ifCond .eq 64, 3) := by decide +kernel
theorem dX5_run_65 : decode cX5_run 65 = .ok (.aload_n 0, 1) := by decide +kernel
theorem dX5_run_66 : decode cX5_run 66 = .ok (.getfield 7, 3) := by decide +kernel
theorem dX5_run_69 : decode cX5_run 69 = .ok (.sipush 164, 3) := by decide +kernel
theorem dX5_run_72 : decode cX5_run 72 = .ok (.iload 7, 2) := by decide +kernel
theorem dX5_run_74 : decode cX5_run 74 = .ok (.iadd, 1) := by decide +kernel
theorem dX5_run_75 : decode cX5_run 75 = .ok (.iaload, 1) := by decide +kernel
theorem dX5_run_76 : decode cX5_run 76 = .ok (.iload_n 1, 1) := by decide +kernel
theorem dX5_run_77 : decode cX5_run 77 = .ok (.if_icmp .ne 10, 3) := by decide +kernel
theorem dX5_run_80 : decode cX5_run 80 = .ok (.iload 5, 2) := by decide +kernel
theorem dX5_run_82 : decode cX5_run 82 = .ok (.iconst 1, 1) := by decide +kernel
theorem dX5_run_83 : decode cX5_run 83 = .ok (.iadd, 1) := by decide +kernel
theorem dX5_run_84 : decode cX5_run 84 = .ok (.goto 4, 3) := by decide +kernel
theorem dX5_run_87 : decode cX5_run 87 = .ok (.iconst 0, 1) := by decide +kernel
theorem dX5_run_88 : decode cX5_run 88 = .ok (.istore 5, 2) := by decide +kernel
theorem dX5_run_90 : decode cX5_run 90 = .ok (.iload 5, 2) := by decide +kernel
theorem dX5_run_92 : decode cX5_run 92 = .ok (.iload_n 3, 1) := by decide +kernel
theorem dX5_run_93 : decode cX5_run 93 = .ok (.if_icmp .le 13, 3) := by decide +kernel
theorem dX5_run_96 : decode cX5_run 96 = .ok (.iload 6, 2) := by decide +kernel
theorem dX5_run_98 : decode cX5_run 98 = .ok (.iload 5, 2) := by decide +kernel
theorem dX5_run_100 : decode cX5_run 100 = .ok (.isub, 1) := by decide +kernel
theorem dX5_run_101 : decode cX5_run 101 = .ok (.iconst 1, 1) := by decide +kernel
theorem dX5_run_102 : decode cX5_run 102 = .ok (.iadd, 1) := by decide +kernel
theorem dX5_run_103 : decode cX5_run 103 = .ok (.goto 5, 3) := by decide +kernel
theorem dX5_run_106 : decode cX5_run 106 = .ok (.iload 4, 2) := by decide +kernel
theorem dX5_run_108 : decode cX5_run 108 = .ok (.istore 4, 2) := by decide +kernel
theorem dX5_run_110 : decode cX5_run 110 = .ok (.iload 5, 2) := by decide +kernel
theorem dX5_run_112 : decode cX5_run 112 = .ok (.iload_n 3, 1) := by decide +kernel
theorem dX5_run_113 : decode cX5_run 113 = .ok (.if_icmp .le 8, 3) := by decide +kernel
theorem dX5_run_116 : decode cX5_run 116 = .ok (.iload 5, 2) := by decide +kernel
theorem dX5_run_118 : decode cX5_run 118 = .ok (.goto 4, 3) := by decide +kernel
theorem dX5_run_121 : decode cX5_run 121 = .ok (.iload_n 3, 1) := by decide +kernel
theorem dX5_run_122 : decode cX5_run 122 = .ok (.istore_n 3, 1) := by decide +kernel
theorem dX5_run_123 : decode cX5_run 123 = .ok (.iinc 6 1, 3) := by decide +kernel
theorem dX5_run_126 : decode cX5_run 126 = .ok (.iinc 7 1, 3) := by decide +kernel
theorem dX5_run_129 : decode cX5_run 129 = .ok (.goto (-90), 3) := by decide +kernel
theorem dX5_run_132 : decode cX5_run 132 = .ok (.iload_n 2, 1) := by decide +kernel
theorem dX5_run_133 : decode cX5_run 133 = .ok (.ifCond .ne 7, 3) := by decide +kernel
theorem dX5_run_136 : decode cX5_run 136 = .ok (.iload_n 3, 1) := by decide +kernel
theorem dX5_run_137 : decode cX5_run 137 = .ok (.goto 5, 3) := by decide +kernel
theorem dX5_run_140 : decode cX5_run 140 = .ok (.iload 4, 2) := by decide +kernel
theorem dX5_run_142 : decode cX5_run 142 = .ok (.ireturn, 1) := by decide +kernel
set_option maxRecDepth 20000 in
theorem ggX5_appendScript_X5_in : GoodIn wsX5_appendScript wsX5_in := goodIn_r _ [6] (by decide +kernel) (by decide +kernel)
set_option maxRecDepth 20000 in
theorem gX5_appendScript_X5_in : GoodIn wsX5_appendScript (va_wsS RX5 55 yX5_in wsX5_in) := goodIn_app (goodIn_of _ (by decide +kernel)) ggX5_appendScript_X5_in
theorem dX5_appendScript_0 : decode cX5_appendScript 0 = .ok (.iload_n 1, 1) := by decide +kernel
theorem dX5_appendScript_1 : decode cX5_appendScript 1 = .ok (.iconst 0, 1) := by decide +kernel
theorem dX5_appendScript_2 : decode cX5_appendScript 2 = .ok (.sipush 255, 3) := by decide +kernel
theorem dX5_appendScript_5 : decode cX5_appendScript 5 = .ok (.invokestatic 55, 3) := by decide +kernel
theorem dX5_appendScript_8 : decode cX5_appendScript 8 = .ok (.ifCond .ne 5, 3) := by decide +kernel
theorem dX5_appendScript_11 : decode cX5_appendScript 11 = .ok (.iconst (-1), 1) := by decide +kernel
theorem dX5_appendScript_12 : decode cX5_appendScript 12 = .ok (.ireturn, 1) := by decide +kernel
theorem dX5_appendScript_13 : decode cX5_appendScript 13 = .ok (.aload_n 0, 1) := by decide +kernel
theorem dX5_appendScript_14 : decode cX5_appendScript 14 = .ok (.getfield 140, 3) := by decide +kernel
theorem dX5_appendScript_17 : decode cX5_appendScript 17 = .ok (.bipush 80, 2) := by decide +kernel
theorem dX5_appendScript_19 : decode cX5_appendScript 19 = .ok (.if_icmp .ne 6, 3) := by decide +kernel
theorem dX5_appendScript_22 : decode cX5_appendScript 22 = .ok (.bipush (-3), 2) := by decide +kernel
theorem dX5_appendScript_24 : decode cX5_appendScript 24 = .ok (.ireturn, 1) := by decide +kernel
theorem dX5_appendScript_25 : decode cX5_appendScript 25 = .ok (.aload_n 0, 1) := by decide +kernel
theorem dX5_appendScript_26 : decode cX5_appendScript 26 = .ok (.getfield 31, 3) := by decide +kernel
theorem dX5_appendScript_29 : decode cX5_appendScript 29 = .ok (.aload_n 0, 1) := by decide +kernel
theorem dX5_appendScript_30 : decode cX5_appendScript 30 = .ok (.getfield 140, 3) := by decide +kernel
theorem dX5_appendScript_33 : decode cX5_appendScript 33 = .ok (.iload_n 1, 1) := by decide +kernel
theorem dX5_appendScript_34 : decode cX5_appendScript 34 = .ok (.i2b, 1) := by decide +kernel
theorem dX5_appendScript_35 : decode cX5_appendScript 35 = .ok (.bastore, 1) := by decide +kernel
theorem dX5_appendScript_36 : decode cX5_appendScript 36 = .ok (.aload_n 0, 1) := by decide +kernel
theorem dX5_appendScript_37 : decode cX5_appendScript 37 = .ok (.dup, 1) := by decide +kernel
theorem dX5_appendScript_38 : decode cX5_appendScript 38 = .ok (.getfield 140, 3) := by decide +kernel
theorem dX5_appendScript_41 : decode cX5_appendScript 41 = .ok (.iconst 1, 1) := by decide +kernel
theorem dX5_appendScript_42 : decode cX5_appendScript 42 = .ok (.iadd, 1) := by decide +kernel
theorem dX5_appendScript_43 : decode cX5_appendScript 43 = .ok (.putfield 140, 3) := by decide +kernel
theorem dX5_appendScript_46 : decode cX5_appendScript 46 = .ok (.aload_n 0, 1) := by decide +kernel
theorem dX5_appendScript_47 : decode cX5_appendScript 47 = .ok (.getfield 140, 3) := by decide +kernel
theorem dX5_appendScript_50 : decode cX5_appendScript 50 = .ok (.ireturn, 1) := by decide +kernel
theorem dX5_clearScript_0 : decode cX5_clearScript 0 = .ok (.aload_n 0, 1) := by decide +kernel
theorem dX5_clearScript_1 : decode cX5_clearScript 1 = .ok (.getfield 140, 3) := by decide +kernel
theorem dX5_clearScript_4 : decode cX5_clearScript 4 = .ok (.istore_n 1, 1) := by decide +kernel
theorem dX5_clearScript_5 : decode cX5_clearScript 5 = .ok (.aload_n 0, 1) := by decide +kernel
theorem dX5_clearScript_6 : decode cX5_clearScript 6 = .ok (.iconst 0, 1) := by decide +kernel
theorem dX5_clearScript_7 : decode cX5_clearScript 7 = .ok (.putfield 140, 3) := by decide +kernel
theorem dX5_clearScript_10 : decode cX5_clearScript 10 = .ok (.iload_n 1, 1) := by decide +kernel
theorem dX5_clearScript_11 : decode cX5_clearScript 11 = .ok (.ireturn, 1) := by decide +kernel
theorem dX5_here_0 : decode cX5_here 0 = .ok (.aload_n 0, 1) := by decide +kernel
theorem dX5_here_1 : decode cX5_here 1 = .ok (.getfield 143, 3) := by decide +kernel
theorem dX5_here_4 : decode cX5_here 4 = .ok (.aload_n 0, 1) := by decide +kernel
theorem dX5_here_5 : decode cX5_here 5 = .ok (.getfield 140, 3) := by decide +kernel
theorem dX5_here_8 : decode cX5_here 8 = .ok (.if_icmp .ge 19, 3) := by decide +kernel
theorem dX5_here_11 : decode cX5_here 11 = .ok (.aload_n 0, 1) := by decide +kernel
theorem dX5_here_12 : decode cX5_here 12 = .ok (.getfield 31, 3) := by decide +kernel
theorem dX5_here_15 : decode cX5_here 15 = .ok (.aload_n 0, 1) := by decide +kernel
theorem dX5_here_16 : decode cX5_here 16 = .ok (.getfield 143, 3) := by decide +kernel
theorem dX5_here_19 : decode cX5_here 19 = .ok (.baload, 1) := by decide +kernel
theorem dX5_here_20 : decode cX5_here 20 = .ok (.sipush 255, 3) := by decide +kernel
theorem dX5_here_23 : decode cX5_here 23 = .ok (.iand, 1) := by decide +kernel
theorem dX5_here_24 : decode cX5_here 24 = .ok (.goto 4, 3) := by decide +kernel
theorem dX5_here_27 : decode cX5_here 27 = .ok (.iconst (-1), 1) := by decide +kernel
theorem dX5_here_28 : decode cX5_here 28 = .ok (.ireturn, 1) := by decide +kernel
set_option maxRecDepth 20000 in
theorem ggX5_takes_X5_here : GoodIn wsX5_takes wsX5_here := goodIn_r _ [6, 1, 7, 8, 9, 10, 11, 12, 13, 14, 15, 16, 17, 18, 19, 20, 21, 22, 23, 24, 25] (by decide +kernel) (by decide +kernel)
set_option maxRecDepth 20000 in
theorem gX5_takes_X5_here : GoodIn wsX5_takes (wsV RX5 146 RX5 yX5_here wsX5_here) := goodIn_app (goodIn_of _ (by decide +kernel)) ggX5_takes_X5_here
theorem dX5_takes_0 : decode cX5_takes 0 = .ok (.aload_n 0, 1) := by decide +kernel
theorem dX5_takes_1 : decode cX5_takes 1 = .ok (.invokevirtual 146, 3) := by decide +kernel
theorem dX5_takes_4 : decode cX5_takes 4 = .ok (.iload_n 1, 1) := by decide +kernel
theorem dX5_takes_5 : decode cX5_takes 5 = .ok (.if_icmp .ne 7, 3) := by decide +kernel
theorem dX5_takes_8 : decode cX5_takes 8 = .ok (.iconst 1, 1) := by decide +kernel
theorem dX5_takes_9 : decode cX5_takes 9 = .ok (.goto 4, 3) := by decide +kernel
theorem dX5_takes_12 : decode cX5_takes 12 = .ok (.iconst 0, 1) := by decide +kernel
theorem dX5_takes_13 : decode cX5_takes 13 = .ok (.istore_n 2, 1) := by decide +kernel
theorem dX5_takes_14 : decode cX5_takes 14 = .ok (.aload_n 0, 1) := by decide +kernel
theorem dX5_takes_15 : decode cX5_takes 15 = .ok (.dup, 1) := by decide +kernel
theorem dX5_takes_16 : decode cX5_takes 16 = .ok (.getfield 143, 3) := by decide +kernel
theorem dX5_takes_19 : decode cX5_takes 19 = .ok (.iload_n 2, 1) := by decide +kernel
theorem dX5_takes_20 : decode cX5_takes 20 = .ok (.ifCond .eq 7, 3) := by decide +kernel
theorem dX5_takes_23 : decode cX5_takes 23 = .ok (.iconst 1, 1) := by decide +kernel
theorem dX5_takes_24 : decode cX5_takes 24 = .ok (.goto 4, 3) := by decide +kernel
theorem dX5_takes_27 : decode cX5_takes 27 = .ok (.iconst 0, 1) := by decide +kernel
theorem dX5_takes_28 : decode cX5_takes 28 = .ok (.iadd, 1) := by decide +kernel
theorem dX5_takes_29 : decode cX5_takes 29 = .ok (.putfield 143, 3) := by decide +kernel
theorem dX5_takes_32 : decode cX5_takes 32 = .ok (.iload_n 2, 1) := by decide +kernel
theorem dX5_takes_33 : decode cX5_takes 33 = .ok (.ireturn, 1) := by decide +kernel
set_option maxRecDepth 20000 in
theorem ggX5_readsNumber_X5_here : GoodIn wsX5_readsNumber wsX5_here := goodIn_r _ [6, 1, 7, 8, 12, 13, 14, 15, 16, 17, 18, 19, 20, 21, 22, 23, 24, 25, 26, 27, 28] (by decide +kernel) (by decide +kernel)
set_option maxRecDepth 20000 in
theorem gX5_readsNumber_X5_here : GoodIn wsX5_readsNumber (wsV RX5 146 RX5 yX5_here wsX5_here) := goodIn_app (goodIn_of _ (by decide +kernel)) ggX5_readsNumber_X5_here
set_option maxRecDepth 20000 in
theorem ggX5_readsNumber_X5_in : GoodIn wsX5_readsNumber wsX5_in := goodIn_r _ [11] (by decide +kernel) (by decide +kernel)
set_option maxRecDepth 20000 in
theorem gX5_readsNumber_X5_in : GoodIn wsX5_readsNumber (va_wsS RX5 55 yX5_in wsX5_in) := goodIn_app (goodIn_of _ (by decide +kernel)) ggX5_readsNumber_X5_in
theorem dX5_readsNumber_0 : decode cX5_readsNumber 0 = .ok (.aload_n 0, 1) := by decide +kernel
theorem dX5_readsNumber_1 : decode cX5_readsNumber 1 = .ok (.getfield 143, 3) := by decide +kernel
theorem dX5_readsNumber_4 : decode cX5_readsNumber 4 = .ok (.istore_n 1, 1) := by decide +kernel
theorem dX5_readsNumber_5 : decode cX5_readsNumber 5 = .ok (.iconst 0, 1) := by decide +kernel
theorem dX5_readsNumber_6 : decode cX5_readsNumber 6 = .ok (.istore_n 2, 1) := by decide +kernel
theorem dX5_readsNumber_7 : decode cX5_readsNumber 7 = .ok (.iconst 1, 1) := by decide +kernel
theorem dX5_readsNumber_8 : decode cX5_readsNumber 8 = .ok (.istore_n 3, 1) := by decide +kernel
theorem dX5_readsNumber_9 : decode cX5_readsNumber 9 = .ok (.iload_n 3, 1) := by decide +kernel
theorem dX5_readsNumber_10 : decode cX5_readsNumber 10 = .ok (.ifCond .eq 63, 3) := by decide +kernel
theorem dX5_readsNumber_13 : decode cX5_readsNumber 13 = .ok (.aload_n 0, 1) := by decide +kernel
theorem dX5_readsNumber_14 : decode cX5_readsNumber 14 = .ok (.invokevirtual 146, 3) := by decide +kernel
theorem dX5_readsNumber_17 : decode cX5_readsNumber 17 = .ok (.bipush 48, 2) := by decide +kernel
theorem dX5_readsNumber_19 : decode cX5_readsNumber 19 = .ok (.bipush 57, 2) := by decide +kernel
theorem dX5_readsNumber_21 : decode cX5_readsNumber 21 = .ok (.invokestatic 55, 3) := by decide +kernel
theorem dX5_readsNumber_24 : decode cX5_readsNumber 24 = .ok (.ifCond .eq 49, 3) := by decide +kernel
theorem dX5_readsNumber_27 : decode cX5_readsNumber 27 = .ok (.bipush 10, 2) := by decide +kernel
theorem dX5_readsNumber_29 : decode cX5_readsNumber 29 = .ok (.iload_n 2, 1) := by decide +kernel
theorem dX5_readsNumber_30 : decode cX5_readsNumber 30 = .ok (.imul, 1) := by decide +kernel
theorem dX5_readsNumber_31 : decode cX5_readsNumber 31 = .ok (.aload_n 0, 1) := by decide +kernel
theorem dX5_readsNumber_32 : decode cX5_readsNumber 32 = .ok (.invokevirtual 146, 3) := by decide +kernel
theorem dX5_readsNumber_35 : decode cX5_readsNumber 35 = .ok (.iadd, 1) := by decide +kernel
theorem dX5_readsNumber_36 : decode cX5_readsNumber 36 = .ok (.bipush 48, 2) := by decide +kernel
theorem dX5_readsNumber_38 : decode cX5_readsNumber 38 = .ok (.isub, 1) := by decide +kernel
theorem dX5_readsNumber_39 : decode cX5_readsNumber 39 = .ok (.istore_n 2, 1) := by decide +kernel
theorem dX5_readsNumber_40 : decode cX5_readsNumber 40 = .ok (.aload_n 0, 1) := by decide +kernel
theorem dX5_readsNumber_41 : decode cX5_readsNumber 41 = .ok (.dup, 1) := by decide +kernel
theorem dX5_readsNumber_42 : decode cX5_readsNumber 42 = .ok (.getfield 143, 3) := by decide +kernel
theorem dX5_readsNumber_45 : decode cX5_readsNumber 45 = .ok (.iconst 1, 1) := by decide +kernel
theorem dX5_readsNumber_46 : decode cX5_readsNumber 46 = .ok (.iadd, 1) := by decide +kernel
theorem dX5_readsNumber_47 : decode cX5_readsNumber 47 = .ok (.putfield 143, 3) := by decide +kernel
theorem dX5_readsNumber_50 : decode cX5_readsNumber 50 = .ok (.iload_n 2, 1) := by decide +kernel
theorem dX5_readsNumber_51 : decode cX5_readsNumber 51 = .ok (.ifCond .le 17, 3) := by decide +kernel
theorem dX5_readsNumber_54 : decode cX5_readsNumber 54 = .ok (.aload_n 0, 1) := by decide +kernel
theorem dX5_readsNumber_55 : decode cX5_readsNumber 55 = .ok (.getfield 143, 3) := by decide +kernel
theorem dX5_readsNumber_58 : decode cX5_readsNumber 58 = .ok (.iload_n 1, 1) := by decide +kernel
theorem dX5_readsNumber_59 : decode cX5_readsNumber 59 = .ok (.iconst 1, 1) := by decide +kernel
theorem dX5_readsNumber_60 : decode cX5_readsNumber 60 = .ok (.iadd, 1) := by decide +kernel
theorem dX5_readsNumber_61 : decode cX5_readsNumber 61 = .ok (.if_icmp .ne 7, 3) := by decide +kernel
theorem dX5_readsNumber_64 : decode cX5_readsNumber 64 = .ok (.iconst 1, 1) := by decide +kernel
theorem dX5_readsNumber_65 : decode cX5_readsNumber 65 = .ok (.goto 4, 3) := by decide +kernel
theorem dX5_readsNumber_68 : decode cX5_readsNumber 68 = .ok (.iconst 0, 1) := by decide +kernel
theorem dX5_readsNumber_69 : decode cX5_readsNumber 69 = .ok (.istore_n 3, 1) := by decide +kernel
theorem dX5_readsNumber_70 : decode cX5_readsNumber 70 = .ok (.goto (-61), 3) := by decide +kernel
theorem dX5_readsNumber_73 : decode cX5_readsNumber 73 = .ok (.aload_n 0, 1) := by decide +kernel
theorem dX5_readsNumber_74 : decode cX5_readsNumber 74 = .ok (.getfield 143, 3) := by decide +kernel
theorem dX5_readsNumber_77 : decode cX5_readsNumber 77 = .ok (.iload_n 1, 1) := by decide +kernel
theorem dX5_readsNumber_78 : decode cX5_readsNumber 78 = .ok (.if_icmp .ne 7, 3) := by decide +kernel
theorem dX5_readsNumber_81 : decode cX5_readsNumber 81 = .ok (.iconst (-1), 1) := by decide +kernel
theorem dX5_readsNumber_82 : decode cX5_readsNumber 82 = .ok (.goto 4, 3) := by decide +kernel
theorem dX5_readsNumber_85 : decode cX5_readsNumber 85 = .ok (.iload_n 2, 1) := by decide +kernel
theorem dX5_readsNumber_86 : decode cX5_readsNumber 86 = .ok (.ireturn, 1) := by decide +kernel
set_option maxRecDepth 20000 in
theorem ggX5_readsCommand_X5_here : GoodIn wsX5_readsCommand wsX5_here := goodIn_r _ [9, 1, 10, 11, 23, 24, 25, 26, 27, 28, 29, 30, 31, 32, 33, 34, 35, 36, 37, 38, 39] (by decide +kernel) (by decide +kernel)
set_option maxRecDepth 20000 in
theorem gX5_readsCommand_X5_here : GoodIn wsX5_readsCommand (wsV RX5 146 RX5 yX5_here wsX5_here) := goodIn_app (goodIn_of _ (by decide +kernel)) ggX5_readsCommand_X5_here
set_option maxRecDepth 20000 in
theorem ggX5_readsCommand_X5_readsNumber : GoodIn wsX5_readsCommand wsX5_readsNumber := goodIn_r _ [15, 1, 5, 6, 7, 8, 9, 10, 11, 16, 17, 18, 23, 24, 25, 26, 27, 28, 29, 30, 31, 32, 33, 34, 35, 36, 37, 38, 39] (by decide +kernel) (by decide +kernel)
set_option maxRecDepth 20000 in
theorem gX5_readsCommand_X5_readsNumber : GoodIn wsX5_readsCommand (wsV RX5 149 RX5 yX5_readsNumber wsX5_readsNumber) := goodIn_app (goodIn_of _ (by decide +kernel)) ggX5_readsCommand_X5_readsNumber
set_option maxRecDepth 20000 in
theorem ggX5_readsCommand_X5_takes : GoodIn wsX5_readsCommand wsX5_takes := goodIn_r _ [22, 1, 5, 6, 7, 8, 9, 10, 11, 23, 24, 25, 26, 27, 28, 29, 30, 31, 32, 33, 34, 35, 36, 37, 38, 39] (by decide +kernel) (by decide +kernel)
set_option maxRecDepth 20000 in
theorem gX5_readsCommand_X5_takes : GoodIn wsX5_readsCommand (wsV RX5 155 RX5 yX5_takes wsX5_takes) := goodIn_app (goodIn_of _ (by decide +kernel)) ggX5_readsCommand_X5_takes
set_option maxRecDepth 20000 in
theorem ggX5_readsCommand_X5_in : GoodIn wsX5_readsCommand wsX5_in := goodIn_r _ [18] (by decide +kernel) (by decide +kernel)
set_option maxRecDepth 20000 in
theorem gX5_readsCommand_X5_in : GoodIn wsX5_readsCommand (va_wsS RX5 55 yX5_in wsX5_in) := goodIn_app (goodIn_of _ (by decide +kernel)) ggX5_readsCommand_X5_in
theorem dX5_readsCommand_0 : decode cX5_readsCommand 0 = .ok (.aload_n 0, 1) := by decide +kernel
theorem dX5_readsCommand_1 : decode cX5_readsCommand 1 = .ok (.invokevirtual 146, 3) := by decide +kernel
theorem dX5_readsCommand_4 : decode cX5_readsCommand 4 = .ok (.istore_n 1, 1) := by decide +kernel
theorem dX5_readsCommand_5 : decode cX5_readsCommand 5 = .ok (.iload_n 1, 1) := by decide +kernel
theorem dX5_readsCommand_6 : decode cX5_readsCommand 6 = .ok (.bipush 43, 2) := by decide +kernel
theorem dX5_readsCommand_8 : decode cX5_readsCommand 8 = .ok (.if_icmp .eq 29, 3) := by decide +kernel
theorem dX5_readsCommand_11 : decode cX5_readsCommand 11 = .ok (.iload_n 1, 1) := by decide +kernel
theorem dX5_readsCommand_12 : decode cX5_readsCommand 12 = .ok (.bipush 45, 2) := by decide +kernel
theorem dX5_readsCommand_14 : decode cX5_readsCommand 14 = .ok (.if_icmp .eq 23, 3) := by decide +kernel
theorem dX5_readsCommand_17 : decode cX5_readsCommand 17 = .ok (.iload_n 1, 1) := by decide +kernel
theorem dX5_readsCommand_18 : decode cX5_readsCommand 18 = .ok (.bipush 60, 2) := by decide +kernel
theorem dX5_readsCommand_20 : decode cX5_readsCommand 20 = .ok (.if_icmp .eq 17, 3) := by decide +kernel
theorem dX5_readsCommand_23 : decode cX5_readsCommand 23 = .ok (.iload_n 1, 1) := by decide +kernel
theorem dX5_readsCommand_24 : decode cX5_readsCommand 24 = .ok (.bipush 62, 2) := by decide +kernel
theorem dX5_readsCommand_26 : decode cX5_readsCommand 26 = .ok (.if_icmp .eq 11, 3) := by decide +kernel
theorem dX5_readsCommand_29 : decode cX5_readsCommand 29 = .ok (.iload_n 1, 1) := by decide +kernel
theorem dX5_readsCommand_30 : decode cX5_readsCommand 30 = .ok (.bipush 64, 2) := by decide +kernel
theorem dX5_readsCommand_32 : decode cX5_readsCommand 32 = .ok (.if_icmp .eq 5, 3) := by decide +kernel
theorem dX5_readsCommand_35 : decode cX5_readsCommand 35 = .ok (.iconst 0, 1) := by decide +kernel
theorem dX5_readsCommand_36 : decode cX5_readsCommand 36 = .ok (.ireturn, 1) := by decide +kernel
theorem dX5_readsCommand_37 : decode cX5_readsCommand 37 = .ok (.aload_n 0, 1) := by decide +kernel
theorem dX5_readsCommand_38 : decode cX5_readsCommand 38 = .ok (.dup, 1) := by decide +kernel
theorem dX5_readsCommand_39 : decode cX5_readsCommand 39 = .ok (.getfield 143, 3) := by decide +kernel
theorem dX5_readsCommand_42 : decode cX5_readsCommand 42 = .ok (.iconst 1, 1) := by decide +kernel
theorem dX5_readsCommand_43 : decode cX5_readsCommand 43 = .ok (.iadd, 1) := by decide +kernel
theorem dX5_readsCommand_44 : decode cX5_readsCommand 44 = .ok (.putfield 143, 3) := by decide +kernel
theorem dX5_readsCommand_47 : decode cX5_readsCommand 47 = .ok (.aload_n 0, 1) := by decide +kernel
theorem dX5_readsCommand_48 : decode cX5_readsCommand 48 = .ok (.aload_n 0, 1) := by decide +kernel
theorem dX5_readsCommand_49 : decode cX5_readsCommand 49 = .ok (.invokevirtual 149, 3) := by decide +kernel
theorem dX5_readsCommand_52 : decode cX5_readsCommand 52 = .ok (.putfield 152, 3) := by decide +kernel
theorem dX5_readsCommand_55 : decode cX5_readsCommand 55 = .ok (.aload_n 0, 1) := by decide +kernel
theorem dX5_readsCommand_56 : decode cX5_readsCommand 56 = .ok (.getfield 152, 3) := by decide +kernel
theorem dX5_readsCommand_59 : decode cX5_readsCommand 59 = .ok (.ifCond .ge 5, 3) := by decide +kernel
theorem dX5_readsCommand_62 : decode cX5_readsCommand 62 = .ok (.iconst 0, 1) := by decide +kernel
theorem dX5_readsCommand_63 : decode cX5_readsCommand 63 = .ok (.ireturn, 1) := by decide +kernel
theorem dX5_readsCommand_64 : decode cX5_readsCommand 64 = .ok (.iload_n 1, 1) := by decide +kernel
theorem dX5_readsCommand_65 : decode cX5_readsCommand 65 = .ok (.bipush 45, 2) := by decide +kernel
theorem dX5_readsCommand_67 : decode cX5_readsCommand 67 = .ok (.if_icmp .ne 31, 3) := by decide +kernel
theorem dX5_readsCommand_70 : decode cX5_readsCommand 70 = .ok (.aload_n 0, 1) := by decide +kernel
theorem dX5_readsCommand_71 : decode cX5_readsCommand 71 = .ok (.bipush 44, 2) := by decide +kernel
theorem dX5_readsCommand_73 : decode cX5_readsCommand 73 = .ok (.invokevirtual 155, 3) := by decide +kernel
theorem dX5_readsCommand_76 : decode cX5_readsCommand 76 = .ok (.ifCond .ne 5, 3) := by decide +kernel
theorem dX5_readsCommand_79 : decode cX5_readsCommand 79 = .ok (.iconst 0, 1) := by decide +kernel
theorem dX5_readsCommand_80 : decode cX5_readsCommand 80 = .ok (.ireturn, 1) := by decide +kernel
theorem dX5_readsCommand_81 : decode cX5_readsCommand 81 = .ok (.aload_n 0, 1) := by decide +kernel
theorem dX5_readsCommand_82 : decode cX5_readsCommand 82 = .ok (.aload_n 0, 1) := by decide +kernel
theorem dX5_readsCommand_83 : decode cX5_readsCommand 83 = .ok (.invokevirtual 149, 3) := by decide +kernel
theorem dX5_readsCommand_86 : decode cX5_readsCommand 86 = .ok (.putfield 158, 3) := by decide +kernel
theorem dX5_readsCommand_89 : decode cX5_readsCommand 89 = .ok (.aload_n 0, 1) := by decide +kernel
theorem dX5_readsCommand_90 : decode cX5_readsCommand 90 = .ok (.getfield 158, 3) := by decide +kernel
theorem dX5_readsCommand_93 : decode cX5_readsCommand 93 = .ok (.ifCond .ge 5, 3) := by decide +kernel
theorem dX5_readsCommand_96 : decode cX5_readsCommand 96 = .ok (.iconst 0, 1) := by decide +kernel
theorem dX5_readsCommand_97 : decode cX5_readsCommand 97 = .ok (.ireturn, 1) := by decide +kernel
theorem dX5_readsCommand_98 : decode cX5_readsCommand 98 = .ok (.iload_n 1, 1) := by decide +kernel
theorem dX5_readsCommand_99 : decode cX5_readsCommand 99 = .ok (.bipush 43, 2) := by decide +kernel
theorem dX5_readsCommand_101 : decode cX5_readsCommand 101 = .ok (.if_icmp .ne 85, 3) := by decide +kernel
theorem dX5_readsCommand_104 : decode cX5_readsCommand 104 = .ok (.aload_n 0, 1) := by decide +kernel
theorem dX5_readsCommand_105 : decode cX5_readsCommand 105 = .ok (.bipush 58, 2) := by decide +kernel
theorem dX5_readsCommand_107 : decode cX5_readsCommand 107 = .ok (.invokevirtual 155, 3) := by decide +kernel
theorem dX5_readsCommand_110 : decode cX5_readsCommand 110 = .ok (.ifCond .ne 5, 3) := by decide +kernel
theorem dX5_readsCommand_113 : decode cX5_readsCommand 113 = .ok (.iconst 0, 1) := by decide +kernel
theorem dX5_readsCommand_114 : decode cX5_readsCommand 114 = .ok (.ireturn, 1) := by decide +kernel
theorem dX5_readsCommand_115 : decode cX5_readsCommand 115 = .ok (.aload_n 0, 1) := by decide +kernel
theorem dX5_readsCommand_116 : decode cX5_readsCommand 116 = .ok (.aload_n 0, 1) := by decide +kernel
theorem dX5_readsCommand_117 : decode cX5_readsCommand 117 = .ok (.getfield 143, 3) := by decide +kernel
theorem dX5_readsCommand_120 : decode cX5_readsCommand 120 = .ok (.putfield 161, 3) := by decide +kernel
theorem dX5_readsCommand_123 : decode cX5_readsCommand 123 = .ok (.aload_n 0, 1) := by decide +kernel
theorem dX5_readsCommand_124 : decode cX5_readsCommand 124 = .ok (.invokevirtual 146, 3) := by decide +kernel
theorem dX5_readsCommand_127 : decode cX5_readsCommand 127 = .ok (.bipush 97, 2) := by decide +kernel
theorem dX5_readsCommand_129 : decode cX5_readsCommand 129 = .ok (.bipush 122, 2) := by decide +kernel
theorem dX5_readsCommand_131 : decode cX5_readsCommand 131 = .ok (.invokestatic 55, 3) := by decide +kernel
theorem dX5_readsCommand_134 : decode cX5_readsCommand 134 = .ok (.ifCond .eq 30, 3) := by decide +kernel
theorem dX5_readsCommand_137 : decode cX5_readsCommand 137 = .ok (.aload_n 0, 1) := by decide +kernel
theorem dX5_readsCommand_138 : decode cX5_readsCommand 138 = .ok (.getfield 143, 3) := by decide +kernel
theorem dX5_readsCommand_141 : decode cX5_readsCommand 141 = .ok (.aload_n 0, 1) := by decide +kernel
theorem dX5_readsCommand_142 : decode cX5_readsCommand 142 = .ok (.getfield 161, 3) := by decide +kernel
theorem dX5_readsCommand_145 : decode cX5_readsCommand 145 = .ok (.bipush 8, 2) := by decide +kernel
theorem dX5_readsCommand_147 : decode cX5_readsCommand 147 = .ok (.iadd, 1) := by decide +kernel
theorem dX5_readsCommand_148 : decode cX5_readsCommand 148 = .ok (.if_icmp .ge 16, 3) := by decide +kernel
theorem dX5_readsCommand_151 : decode cX5_readsCommand 151 = .ok (.aload_n 0, 1) := by decide +kernel
theorem dX5_readsCommand_152 : decode cX5_readsCommand 152 = .ok (.dup, 1) := by decide +kernel
theorem dX5_readsCommand_153 : decode cX5_readsCommand 153 = .ok (.getfield 143, 3) := by decide +kernel
theorem dX5_readsCommand_156 : decode cX5_readsCommand 156 = .ok (.iconst 1, 1) := by decide +kernel
theorem dX5_readsCommand_157 : decode cX5_readsCommand 157 = .ok (.iadd, 1) := by decide +kernel
theorem dX5_readsCommand_158 : decode cX5_readsCommand 158 = .ok (.putfield 143, 3) := by decide +kernel
theorem dX5_readsCommand_161 : decode cX5_readsCommand 161 = .ok (.goto (-38), 3) := by decide +kernel
theorem dX5_readsCommand_164 : decode cX5_readsCommand 164 = .ok (.aload_n 0, 1) := by decide +kernel
theorem dX5_readsCommand_165 : decode cX5_readsCommand 165 = .ok (.aload_n 0, 1) := by decide +kernel
theorem dX5_readsCommand_166 : decode cX5_readsCommand 166 = .ok (.getfield 143, 3) := by decide +kernel
theorem dX5_readsCommand_169 : decode cX5_readsCommand 169 = .ok (.aload_n 0, 1) := by decide +kernel
theorem dX5_readsCommand_170 : decode cX5_readsCommand 170 = .ok (.getfield 161, 3) := by decide +kernel
theorem dX5_readsCommand_173 : decode cX5_readsCommand 173 = .ok (.isub, 1) := by decide +kernel
theorem dX5_readsCommand_174 : decode cX5_readsCommand 174 = .ok (.putfield 158, 3) := by decide +kernel
theorem dX5_readsCommand_177 : decode cX5_readsCommand 177 = .ok (.aload_n 0, 1) := by decide +kernel
theorem dX5_readsCommand_178 : decode cX5_readsCommand 178 = .ok (.getfield 158, 3) := by decide +kernel
theorem dX5_readsCommand_181 : decode cX5_readsCommand 181 = .ok (.ifCond .ne 5, 3) := by decide +kernel
theorem dX5_readsCommand_184 : decode cX5_readsCommand 184 = .ok (.iconst 0, 1) := by decide +kernel
theorem dX5_readsCommand_185 : decode cX5_readsCommand 185 = .ok (.ireturn, 1) := by decide +kernel
theorem dX5_readsCommand_186 : decode cX5_readsCommand 186 = .ok (.aload_n 0, 1) := by decide +kernel
theorem dX5_readsCommand_187 : decode cX5_readsCommand 187 = .ok (.bipush 59, 2) := by decide +kernel
theorem dX5_readsCommand_189 : decode cX5_readsCommand 189 = .ok (.invokevirtual 155, 3) := by decide +kernel
theorem dX5_readsCommand_192 : decode cX5_readsCommand 192 = .ok (.ireturn, 1) := by decide +kernel
set_option maxRecDepth 20000 in
theorem ggX5_skips_X5_here : GoodIn wsX5_skips wsX5_here := goodIn_r _ [6, 1, 7, 8, 9, 10, 11, 12, 13, 14, 15, 16, 17, 18, 19, 20, 21, 22, 23, 24, 25] (by decide +kernel) (by decide +kernel)
set_option maxRecDepth 20000 in
theorem gX5_skips_X5_here : GoodIn wsX5_skips (wsV RX5 146 RX5 yX5_here wsX5_here) := goodIn_app (goodIn_of _ (by decide +kernel)) ggX5_skips_X5_here
theorem dX5_skips_0 : decode cX5_skips 0 = .ok (.aload_n 0, 1) := by decide +kernel
theorem dX5_skips_1 : decode cX5_skips 1 = .ok (.invokevirtual 146, 3) := by decide +kernel
theorem dX5_skips_4 : decode cX5_skips 4 = .ok (.bipush 32, 2) := by decide +kernel
theorem dX5_skips_6 : decode cX5_skips 6 = .ok (.if_icmp .ne 16, 3) := by decide +kernel
theorem dX5_skips_9 : decode cX5_skips 9 = .ok (.aload_n 0, 1) := by decide +kernel
theorem dX5_skips_10 : decode cX5_skips 10 = .ok (.dup, 1) := by decide +kernel
theorem dX5_skips_11 : decode cX5_skips 11 = .ok (.getfield 143, 3) := by decide +kernel
theorem dX5_skips_14 : decode cX5_skips 14 = .ok (.iconst 1, 1) := by decide +kernel
theorem dX5_skips_15 : decode cX5_skips 15 = .ok (.iadd, 1) := by decide +kernel
theorem dX5_skips_16 : decode cX5_skips 16 = .ok (.putfield 143, 3) := by decide +kernel
theorem dX5_skips_19 : decode cX5_skips 19 = .ok (.goto (-19), 3) := by decide +kernel
theorem dX5_skips_22 : decode cX5_skips 22 = .ok (.return_, 1) := by decide +kernel
set_option maxRecDepth 20000 in
theorem ggX5_errorOf_X5_skips : GoodIn wsX5_errorOf wsX5_skips := goodIn_r _ [7, 1, 8, 9, 10, 6, 11, 2, 12, 31, 32, 33, 34, 35, 36, 37, 38, 39, 40, 41, 42, 43, 44, 45, 46, 47] (by decide +kernel) (by decide +kernel)
set_option maxRecDepth 20000 in
theorem gX5_errorOf_X5_skips : GoodIn wsX5_errorOf (wsV RX5 164 RX5 yX5_skips wsX5_skips) := goodIn_app (goodIn_of _ (by decide +kernel)) ggX5_errorOf_X5_skips
set_option maxRecDepth 20000 in
theorem ggX5_errorOf_X5_readsCommand : GoodIn wsX5_errorOf wsX5_readsCommand := goodIn_r _ [16, 1, 17, 18, 19, 8, 9, 10, 6, 11, 2, 12, 20, 21, 22, 23, 24, 25, 26, 27, 28, 29, 30, 31, 32, 33, 34, 35, 36, 37, 38, 39, 40, 41, 42, 43, 44, 45, 46, 47] (by decide +kernel) (by decide +kernel)
set_option maxRecDepth 20000 in
theorem gX5_errorOf_X5_readsCommand : GoodIn wsX5_errorOf (wsV RX5 167 RX5 yX5_readsCommand wsX5_readsCommand) := goodIn_app (goodIn_of _ (by decide +kernel)) ggX5_errorOf_X5_readsCommand
theorem dX5_errorOf_0 : decode cX5_errorOf 0 = .ok (.aload_n 0, 1) := by decide +kernel
theorem dX5_errorOf_1 : decode cX5_errorOf 1 = .ok (.iconst 0, 1) := by decide +kernel
theorem dX5_errorOf_2 : decode cX5_errorOf 2 = .ok (.putfield 143, 3) := by decide +kernel
theorem dX5_errorOf_5 : decode cX5_errorOf 5 = .ok (.aload_n 0, 1) := by decide +kernel
theorem dX5_errorOf_6 : decode cX5_errorOf 6 = .ok (.invokevirtual 164, 3) := by decide +kernel
theorem dX5_errorOf_9 : decode cX5_errorOf 9 = .ok (.aload_n 0, 1) := by decide +kernel
theorem dX5_errorOf_10 : decode cX5_errorOf 10 = .ok (.getfield 143, 3) := by decide +kernel
theorem dX5_errorOf_13 : decode cX5_errorOf 13 = .ok (.aload_n 0, 1) := by decide +kernel
theorem dX5_errorOf_14 : decode cX5_errorOf 14 = .ok (.getfield 140, 3) := by decide +kernel
theorem dX5_errorOf_17 : decode cX5_errorOf 17 = .ok (.if_icmp .ge 22, 3) := by decide +kernel
theorem dX5_errorOf_20 : decode cX5_errorOf 20 = .ok (.aload_n 0, 1) := by decide +kernel
theorem dX5_errorOf_21 : decode cX5_errorOf 21 = .ok (.invokevirtual 167, 3) := by decide +kernel
theorem dX5_errorOf_24 : decode cX5_errorOf 24 = .ok (.ifCond .ne 8, 3) := by decide +kernel
theorem dX5_errorOf_27 : decode cX5_errorOf 27 = .ok (.aload_n 0, 1) := by decide +kernel
theorem dX5_errorOf_28 : decode cX5_errorOf 28 = .ok (.getfield 143, 3) := by decide +kernel
theorem dX5_errorOf_31 : decode cX5_errorOf 31 = .ok (.ireturn, 1) := by decide +kernel
theorem dX5_errorOf_32 : decode cX5_errorOf 32 = .ok (.aload_n 0, 1) := by decide +kernel
theorem dX5_errorOf_33 : decode cX5_errorOf 33 = .ok (.invokevirtual 164, 3) := by decide +kernel
theorem dX5_errorOf_36 : decode cX5_errorOf 36 = .ok (.goto (-27), 3) := by decide +kernel
theorem dX5_errorOf_39 : decode cX5_errorOf 39 = .ok (.bipush (-9), 2) := by decide +kernel
theorem dX5_errorOf_41 : decode cX5_errorOf 41 = .ok (.ireturn, 1) := by decide +kernel
set_option maxRecDepth 20000 in
theorem ggX5_does_X5_length : GoodIn wsX5_does wsX5_length := goodIn_r _ [10, 5, 11, 12, 13, 9, 14, 15, 16, 17, 18, 79, 80, 81, 82, 83, 84, 85, 86, 87, 88, 89, 90, 91, 92, 93, 94, 95] (by decide +kernel) (by decide +kernel)
set_option maxRecDepth 20000 in
theorem gX5_does_X5_length : GoodIn wsX5_does (wsV RX5 51 RX5 yX5_length wsX5_length) := goodIn_app (goodIn_of _ (by decide +kernel)) ggX5_does_X5_length
set_option maxRecDepth 20000 in
theorem ggX5_does_X5_in : GoodIn wsX5_does wsX5_in := goodIn_r _ [21] (by decide +kernel) (by decide +kernel)
set_option maxRecDepth 20000 in
theorem gX5_does_X5_in : GoodIn wsX5_does (va_wsS RX5 55 yX5_in wsX5_in) := goodIn_app (goodIn_of _ (by decide +kernel)) ggX5_does_X5_in
set_option maxRecDepth 20000 in
theorem ggX5_does_X5_hasRoom : GoodIn wsX5_does wsX5_hasRoom := goodIn_r _ [25, 5, 6, 7, 8, 9, 10, 11, 12, 13, 14, 15, 16, 17, 18, 79, 80, 81, 82, 83, 84, 85, 86, 87, 88, 89, 90, 91, 92, 93, 94, 95] (by decide +kernel) (by decide +kernel)
set_option maxRecDepth 20000 in
theorem gX5_does_X5_hasRoom : GoodIn wsX5_does (wsV RX5 85 RX5 yX5_hasRoom wsX5_hasRoom) := goodIn_app (goodIn_of _ (by decide +kernel)) ggX5_does_X5_hasRoom
set_option maxRecDepth 20000 in
theorem ggX5_does_X5_opens : GoodIn wsX5_does wsX5_opens := goodIn_r _ [29, 5, 30, 31, 32, 9, 33, 15, 16, 17, 18, 79, 80, 81, 82, 83, 84, 85, 86, 87, 88, 89, 90, 91, 92, 93, 94, 95] (by decide +kernel) (by decide +kernel)
set_option maxRecDepth 20000 in
theorem gX5_does_X5_opens : GoodIn wsX5_does (wsV RX5 88 RX5 yX5_opens wsX5_opens) := goodIn_app (goodIn_of _ (by decide +kernel)) ggX5_does_X5_opens
set_option maxRecDepth 20000 in
theorem ggX5_does_X5_lays : GoodIn wsX5_does wsX5_lays := goodIn_r _ [37, 5, 79, 80, 81, 82, 83, 84, 85, 86, 87, 88, 89, 90, 91, 92, 93, 94, 95] (by decide +kernel) (by decide +kernel)
set_option maxRecDepth 20000 in
theorem gX5_does_X5_lays : GoodIn wsX5_does (wsV RX5 91 RX5 yX5_lays wsX5_lays) := goodIn_app (goodIn_of _ (by decide +kernel)) ggX5_does_X5_lays
set_option maxRecDepth 20000 in
theorem ggX5_does_X5_erases : GoodIn wsX5_does wsX5_erases := goodIn_r _ [41, 5, 6, 7, 8, 9, 10, 11, 12, 13, 14, 15, 16, 17, 18, 19, 20, 21, 42, 43, 44, 45, 79, 80, 81, 82, 83, 84, 85, 86, 87, 88, 89, 90, 91, 92, 93, 94, 95] (by decide +kernel) (by decide +kernel)
set_option maxRecDepth 20000 in
theorem gX5_does_X5_erases : GoodIn wsX5_does (wsV RX5 98 RX5 yX5_erases wsX5_erases) := goodIn_app (goodIn_of _ (by decide +kernel)) ggX5_does_X5_erases
set_option maxRecDepth 20000 in
theorem ggX5_does_X5_isEdit : GoodIn wsX5_does wsX5_isEdit := goodIn_r _ [49, 5, 19, 20, 9, 21, 79, 80, 81, 82, 83, 84, 85, 86, 87, 88, 89, 90, 91, 92, 93, 94, 95] (by decide +kernel) (by decide +kernel)
set_option maxRecDepth 20000 in
theorem gX5_does_X5_isEdit : GoodIn wsX5_does (wsV RX5 107 RX5 yX5_isEdit wsX5_isEdit) := goodIn_app (goodIn_of _ (by decide +kernel)) ggX5_does_X5_isEdit
set_option maxRecDepth 20000 in
theorem ggX5_does_X5_isActive : GoodIn wsX5_does wsX5_isActive := goodIn_r _ [53, 5, 79, 80, 81, 82, 83, 84, 85, 86, 87, 88, 89, 90, 91, 92, 93, 94, 95] (by decide +kernel) (by decide +kernel)
set_option maxRecDepth 20000 in
theorem gX5_does_X5_isActive : GoodIn wsX5_does (wsV RX5 59 RX5 yX5_isActive wsX5_isActive) := goodIn_app (goodIn_of _ (by decide +kernel)) ggX5_does_X5_isActive
set_option maxRecDepth 20000 in
theorem ggX5_does_X5_findsRests : GoodIn wsX5_does wsX5_findsRests := goodIn_r _ [57, 5, 58, 79, 80, 81, 82, 83, 84, 85, 86, 87, 88, 89, 90, 91, 92, 93, 94, 95] (by decide +kernel) (by decide +kernel)
set_option maxRecDepth 20000 in
theorem gX5_does_X5_findsRests : GoodIn wsX5_does (wsV RX5 101 RX5 yX5_findsRests wsX5_findsRests) := goodIn_app (goodIn_of _ (by decide +kernel)) ggX5_does_X5_findsRests
set_option maxRecDepth 20000 in
theorem ggX5_does_X5_closureOf : GoodIn wsX5_does wsX5_closureOf := goodIn_r _ [62, 5, 63, 64, 65, 9, 66, 58, 79, 80, 81, 82, 83, 84, 85, 86, 87, 88, 89, 90, 91, 92, 93, 94, 95] (by decide +kernel) (by decide +kernel)
set_option maxRecDepth 20000 in
theorem gX5_does_X5_closureOf : GoodIn wsX5_does (wsV RX5 113 RX5 yX5_closureOf wsX5_closureOf) := goodIn_app (goodIn_of _ (by decide +kernel)) ggX5_does_X5_closureOf
set_option maxRecDepth 20000 in
theorem ggX5_does_X5_goes : GoodIn wsX5_does wsX5_goes := goodIn_r _ [70, 5, 11, 12, 13, 9, 14, 15, 16, 17, 18, 42, 43, 44, 45, 6, 7, 8, 10, 79, 80, 81, 82, 83, 84, 85, 86, 87, 88, 89, 90, 91, 92, 93, 94, 95] (by decide +kernel) (by decide +kernel)
set_option maxRecDepth 20000 in
theorem gX5_does_X5_goes : GoodIn wsX5_does (wsV RX5 131 RX5 yX5_goes wsX5_goes) := goodIn_app (goodIn_of _ (by decide +kernel)) ggX5_does_X5_goes
set_option maxRecDepth 20000 in
theorem ggX5_does_X5_openingOf : GoodIn wsX5_does wsX5_openingOf := goodIn_r _ [74, 58, 5, 79, 80, 81, 82, 83, 84, 85, 86, 87, 88, 89, 90, 91, 92, 93, 94, 95] (by decide +kernel) (by decide +kernel)
set_option maxRecDepth 20000 in
theorem gX5_does_X5_openingOf : GoodIn wsX5_does (wsV RX5 116 RX5 yX5_openingOf wsX5_openingOf) := goodIn_app (goodIn_of _ (by decide +kernel)) ggX5_does_X5_openingOf
set_option maxRecDepth 20000 in
theorem ggX5_does_X5_comes : GoodIn wsX5_does wsX5_comes := goodIn_r _ [78, 5, 11, 12, 13, 9, 14, 15, 16, 17, 18, 42, 43, 44, 45, 6, 7, 8, 10, 79, 80, 81, 82, 83, 84, 85, 86, 87, 88, 89, 90, 91, 92, 93, 94, 95] (by decide +kernel) (by decide +kernel)
set_option maxRecDepth 20000 in
theorem gX5_does_X5_comes : GoodIn wsX5_does (wsV RX5 137 RX5 yX5_comes wsX5_comes) := goodIn_app (goodIn_of _ (by decide +kernel)) ggX5_does_X5_comes
theorem dX5_does_0 : decode cX5_does 0 = .ok (.iload_n 1, 1) := by decide +kernel
theorem dX5_does_1 : decode cX5_does 1 = .ok (.bipush 43, 2) := by decide +kernel
theorem dX5_does_3 : decode cX5_does 3 = .ok (.if_icmp .ne 80, 3) := by decide +kernel
theorem dX5_does_6 : decode cX5_does 6 = .ok (.aload_n 0, 1) := by decide +kernel
theorem dX5_does_7 : decode cX5_does 7 = .ok (.getfield 152, 3) := by decide +kernel
theorem dX5_does_10 : decode cX5_does 10 = .ok (.iconst 0, 1) := by decide +kernel
theorem dX5_does_11 : decode cX5_does 11 = .ok (.aload_n 0, 1) := by decide +kernel
theorem dX5_does_12 : decode cX5_does 12 = .ok (.invokevirtual 51, 3) := by decide +kernel
theorem dX5_does_15 : decode cX5_does 15 = .ok (.invokestatic 55, 3) := by decide +kernel
theorem dX5_does_18 : decode cX5_does 18 = .ok (.ifCond .eq 14, 3) := by decide +kernel
theorem dX5_does_21 : decode cX5_does 21 = .ok (.aload_n 0, 1) := by decide +kernel
theorem dX5_does_22 : decode cX5_does 22 = .ok (.aload_n 0, 1) := by decide +kernel
theorem dX5_does_23 : decode cX5_does 23 = .ok (.getfield 158, 3) := by decide +kernel
theorem dX5_does_26 : decode cX5_does 26 = .ok (.invokevirtual 85, 3) := by decide +kernel
theorem dX5_does_29 : decode cX5_does 29 = .ok (.ifCond .ne 5, 3) := by decide +kernel
theorem dX5_does_32 : decode cX5_does 32 = .ok (.iconst 0, 1) := by decide +kernel
theorem dX5_does_33 : decode cX5_does 33 = .ok (.ireturn, 1) := by decide +kernel
theorem dX5_does_34 : decode cX5_does 34 = .ok (.aload_n 0, 1) := by decide +kernel
theorem dX5_does_35 : decode cX5_does 35 = .ok (.aload_n 0, 1) := by decide +kernel
theorem dX5_does_36 : decode cX5_does 36 = .ok (.getfield 152, 3) := by decide +kernel
theorem dX5_does_39 : decode cX5_does 39 = .ok (.aload_n 0, 1) := by decide +kernel
theorem dX5_does_40 : decode cX5_does 40 = .ok (.getfield 158, 3) := by decide +kernel
theorem dX5_does_43 : decode cX5_does 43 = .ok (.invokevirtual 88, 3) := by decide +kernel
theorem dX5_does_46 : decode cX5_does 46 = .ok (.istore_n 2, 1) := by decide +kernel
theorem dX5_does_47 : decode cX5_does 47 = .ok (.iconst 0, 1) := by decide +kernel
theorem dX5_does_48 : decode cX5_does 48 = .ok (.istore_n 3, 1) := by decide +kernel
theorem dX5_does_49 : decode cX5_does 49 = .ok (.iload_n 3, 1) := by decide +kernel
theorem dX5_does_50 : decode cX5_does 50 = .ok (.aload_n 0, 1) := by decide +kernel
theorem dX5_does_51 : decode cX5_does 51 = .ok (.getfield 158, 3) := by decide +kernel
theorem dX5_does_54 : decode cX5_does 54 = .ok (.if_icmp .ge 27, 3) := by decide +kernel
theorem dX5_does_57 : decode cX5_does 57 = .ok (.aload_n 0, 1) := by decide +kernel
theorem dX5_does_58 : decode cX5_does 58 = .ok (.iload_n 2, 1) := by decide +kernel
theorem dX5_does_59 : decode cX5_does 59 = .ok (.iload_n 3, 1) := by decide +kernel
theorem dX5_does_60 : decode cX5_does 60 = .ok (.iadd, 1) := by decide +kernel
theorem dX5_does_61 : decode cX5_does 61 = .ok (.aload_n 0, 1) := by decide +kernel
theorem dX5_does_62 : decode cX5_does 62 = .ok (.getfield 31, 3) := by decide +kernel
theorem dX5_does_65 : decode cX5_does 65 = .ok (.aload_n 0, 1) := by decide +kernel
theorem dX5_does_66 : decode cX5_does 66 = .ok (.getfield 161, 3) := by decide +kernel
theorem dX5_does_69 : decode cX5_does 69 = .ok (.iload_n 3, 1) := by decide +kernel
theorem dX5_does_70 : decode cX5_does 70 = .ok (.iadd, 1) := by decide +kernel
theorem dX5_does_71 : decode cX5_does 71 = .ok (.baload, 1) := by decide +kernel
theorem dX5_does_72 : decode cX5_does 72 = .ok (.invokevirtual 91, 3) := by decide +kernel
theorem dX5_does_75 : decode cX5_does 75 = .ok (.iinc 3 1, 3) := by decide +kernel
theorem dX5_does_78 : decode cX5_does 78 = .ok (.goto (-29), 3) := by decide +kernel
theorem dX5_does_81 : decode cX5_does 81 = .ok (.iconst 1, 1) := by decide +kernel
theorem dX5_does_82 : decode cX5_does 82 = .ok (.ireturn, 1) := by decide +kernel
theorem dX5_does_83 : decode cX5_does 83 = .ok (.iload_n 1, 1) := by decide +kernel
theorem dX5_does_84 : decode cX5_does 84 = .ok (.bipush 45, 2) := by decide +kernel
theorem dX5_does_86 : decode cX5_does 86 = .ok (.if_icmp .ne 24, 3) := by decide +kernel
theorem dX5_does_89 : decode cX5_does 89 = .ok (.aload_n 0, 1) := by decide +kernel
theorem dX5_does_90 : decode cX5_does 90 = .ok (.aload_n 0, 1) := by decide +kernel
theorem dX5_does_91 : decode cX5_does 91 = .ok (.getfield 152, 3) := by decide +kernel
theorem dX5_does_94 : decode cX5_does 94 = .ok (.aload_n 0, 1) := by decide +kernel
theorem dX5_does_95 : decode cX5_does 95 = .ok (.getfield 158, 3) := by decide +kernel
theorem dX5_does_98 : decode cX5_does 98 = .ok (.invokevirtual 98, 3) := by decide +kernel
theorem dX5_does_101 : decode cX5_does 101 = .ok (.ifCond .lt 7, 3) := by decide +kernel
theorem dX5_does_104 : decode cX5_does 104 = .ok (.iconst 1, 1) := by decide +kernel
theorem dX5_does_105 : decode cX5_does 105 = .ok (.goto 4, 3) := by decide +kernel
theorem dX5_does_108 : decode cX5_does 108 = .ok (.iconst 0, 1) := by decide +kernel
theorem dX5_does_109 : decode cX5_does 109 = .ok (.ireturn, 1) := by decide +kernel
theorem dX5_does_110 : decode cX5_does 110 = .ok (.iload_n 1, 1) := by decide +kernel
theorem dX5_does_111 : decode cX5_does 111 = .ok (.bipush 64, 2) := by decide +kernel
theorem dX5_does_113 : decode cX5_does 113 = .ok (.if_icmp .ne 41, 3) := by decide +kernel
theorem dX5_does_116 : decode cX5_does 116 = .ok (.aload_n 0, 1) := by decide +kernel
theorem dX5_does_117 : decode cX5_does 117 = .ok (.getfield 152, 3) := by decide +kernel
theorem dX5_does_120 : decode cX5_does 120 = .ok (.iconst 0, 1) := by decide +kernel
theorem dX5_does_121 : decode cX5_does 121 = .ok (.aload_n 0, 1) := by decide +kernel
theorem dX5_does_122 : decode cX5_does 122 = .ok (.invokevirtual 51, 3) := by decide +kernel
theorem dX5_does_125 : decode cX5_does 125 = .ok (.invokestatic 55, 3) := by decide +kernel
theorem dX5_does_128 : decode cX5_does 128 = .ok (.istore_n 2, 1) := by decide +kernel
theorem dX5_does_129 : decode cX5_does 129 = .ok (.aload_n 0, 1) := by decide +kernel
theorem dX5_does_130 : decode cX5_does 130 = .ok (.getfield 7, 3) := by decide +kernel
theorem dX5_does_133 : decode cX5_does 133 = .ok (.iconst 3, 1) := by decide +kernel
theorem dX5_does_134 : decode cX5_does 134 = .ok (.iload_n 2, 1) := by decide +kernel
theorem dX5_does_135 : decode cX5_does 135 = .ok (.ifCond .eq 10, 3) := by decide +kernel
theorem dX5_does_138 : decode cX5_does 138 = .ok (.aload_n 0, 1) := by decide +kernel
theorem dX5_does_139 : decode cX5_does 139 = .ok (.getfield 152, 3) := by decide +kernel
theorem dX5_does_142 : decode cX5_does 142 = .ok (.goto 9, 3) := by decide +kernel
theorem dX5_does_145 : decode cX5_does 145 = .ok (.aload_n 0, 1) := by decide +kernel
theorem dX5_does_146 : decode cX5_does 146 = .ok (.getfield 7, 3) := by decide +kernel
theorem dX5_does_149 : decode cX5_does 149 = .ok (.iconst 3, 1) := by decide +kernel
theorem dX5_does_150 : decode cX5_does 150 = .ok (.iaload, 1) := by decide +kernel
theorem dX5_does_151 : decode cX5_does 151 = .ok (.iastore, 1) := by decide +kernel
theorem dX5_does_152 : decode cX5_does 152 = .ok (.iload_n 2, 1) := by decide +kernel
theorem dX5_does_153 : decode cX5_does 153 = .ok (.ireturn, 1) := by decide +kernel
theorem dX5_does_154 : decode cX5_does 154 = .ok (.aload_n 0, 1) := by decide +kernel
theorem dX5_does_155 : decode cX5_does 155 = .ok (.aload_n 0, 1) := by decide +kernel
theorem dX5_does_156 : decode cX5_does 156 = .ok (.getfield 152, 3) := by decide +kernel
theorem dX5_does_159 : decode cX5_does 159 = .ok (.invokevirtual 107, 3) := by decide +kernel
theorem dX5_does_162 : decode cX5_does 162 = .ok (.ifCond .eq 25, 3) := by decide +kernel
theorem dX5_does_165 : decode cX5_does 165 = .ok (.aload_n 0, 1) := by decide +kernel
theorem dX5_does_166 : decode cX5_does 166 = .ok (.aload_n 0, 1) := by decide +kernel
theorem dX5_does_167 : decode cX5_does 167 = .ok (.getfield 152, 3) := by decide +kernel
theorem dX5_does_170 : decode cX5_does 170 = .ok (.invokevirtual 59, 3) := by decide +kernel
theorem dX5_does_173 : decode cX5_does 173 = .ok (.iload_n 1, 1) := by decide +kernel
theorem dX5_does_174 : decode cX5_does 174 = .ok (.bipush 60, 2) := by decide +kernel
theorem dX5_does_176 : decode cX5_does 176 = .ok (.if_icmp .ne 7, 3) := by decide +kernel
theorem dX5_does_179 : decode cX5_does 179 = .ok (.iconst 1, 1) := by decide +kernel
theorem dX5_does_180 : decode cX5_does 180 = .ok (.goto 4, 3) := by decide +kernel
theorem dX5_does_183 : decode cX5_does 183 = .ok (.iconst 0, 1) := by decide +kernel
theorem dX5_does_184 : decode cX5_does 184 = .ok (.if_icmp .eq 5, 3) := by decide +kernel
theorem dX5_does_187 : decode cX5_does 187 = .ok (.iconst 0, 1) := by decide +kernel
theorem dX5_does_188 : decode cX5_does 188 = .ok (.ireturn, 1) := by decide +kernel
theorem dX5_does_189 : decode cX5_does 189 = .ok (.aload_n 0, 1) := by decide +kernel
theorem dX5_does_190 : decode cX5_does 190 = .ok (.invokevirtual 101, 3) := by decide +kernel
theorem dX5_does_193 : decode cX5_does 193 = .ok (.iload_n 1, 1) := by decide +kernel
theorem dX5_does_194 : decode cX5_does 194 = .ok (.bipush 60, 2) := by decide +kernel
theorem dX5_does_196 : decode cX5_does 196 = .ok (.if_icmp .ne 18, 3) := by decide +kernel
theorem dX5_does_199 : decode cX5_does 199 = .ok (.aload_n 0, 1) := by decide +kernel
theorem dX5_does_200 : decode cX5_does 200 = .ok (.aload_n 0, 1) := by decide +kernel
theorem dX5_does_201 : decode cX5_does 201 = .ok (.aload_n 0, 1) := by decide +kernel
theorem dX5_does_202 : decode cX5_does 202 = .ok (.getfield 152, 3) := by decide +kernel
theorem dX5_does_205 : decode cX5_does 205 = .ok (.invokevirtual 113, 3) := by decide +kernel
theorem dX5_does_208 : decode cX5_does 208 = .ok (.invokevirtual 131, 3) := by decide +kernel
theorem dX5_does_211 : decode cX5_does 211 = .ok (.goto 15, 3) := by decide +kernel
theorem dX5_does_214 : decode cX5_does 214 = .ok (.aload_n 0, 1) := by decide +kernel
theorem dX5_does_215 : decode cX5_does 215 = .ok (.aload_n 0, 1) := by decide +kernel
theorem dX5_does_216 : decode cX5_does 216 = .ok (.aload_n 0, 1) := by decide +kernel
theorem dX5_does_217 : decode cX5_does 217 = .ok (.getfield 152, 3) := by decide +kernel
theorem dX5_does_220 : decode cX5_does 220 = .ok (.invokevirtual 116, 3) := by decide +kernel
theorem dX5_does_223 : decode cX5_does 223 = .ok (.invokevirtual 137, 3) := by decide +kernel
theorem dX5_does_226 : decode cX5_does 226 = .ok (.ifCond .lt 7, 3) := by decide +kernel
theorem dX5_does_229 : decode cX5_does 229 = .ok (.iconst 1, 1) := by decide +kernel
theorem dX5_does_230 : decode cX5_does 230 = .ok (.goto 4, 3) := by decide +kernel
theorem dX5_does_233 : decode cX5_does 233 = .ok (.iconst 0, 1) := by decide +kernel
theorem dX5_does_234 : decode cX5_does 234 = .ok (.ireturn, 1) := by decide +kernel
set_option maxRecDepth 20000 in
theorem ggX5_runScript_X5_errorOf : GoodIn wsX5_runScript wsX5_errorOf := goodIn_r _ [7, 1, 2, 8, 9, 10, 6, 11, 12, 13, 14, 15, 16, 17, 18, 19, 20, 21, 22, 23, 24, 25, 26, 27, 28, 29, 30, 31, 32, 33, 34, 109, 110, 111, 112, 113, 114, 115, 116, 117, 118, 119, 120, 121, 122, 123, 124, 125] (by decide +kernel) (by decide +kernel)
set_option maxRecDepth 20000 in
theorem gX5_runScript_X5_errorOf : GoodIn wsX5_runScript (wsV RX5 171 RX5 yX5_errorOf wsX5_errorOf) := goodIn_app (goodIn_of _ (by decide +kernel)) ggX5_runScript_X5_errorOf
set_option maxRecDepth 20000 in
theorem ggX5_runScript_X5_skips : GoodIn wsX5_runScript wsX5_skips := goodIn_r _ [11, 1, 12, 13, 14, 6, 15, 2, 16, 109, 110, 111, 112, 113, 114, 115, 116, 117, 118, 119, 120, 121, 122, 123, 124, 125] (by decide +kernel) (by decide +kernel)
set_option maxRecDepth 20000 in
theorem gX5_runScript_X5_skips : GoodIn wsX5_runScript (wsV RX5 164 RX5 yX5_skips wsX5_skips) := goodIn_app (goodIn_of _ (by decide +kernel)) ggX5_runScript_X5_skips
set_option maxRecDepth 20000 in
theorem ggX5_runScript_X5_here : GoodIn wsX5_runScript wsX5_here := goodIn_r _ [15, 1, 2, 16, 109, 110, 111, 112, 113, 114, 115, 116, 117, 118, 119, 120, 121, 122, 123, 124, 125] (by decide +kernel) (by decide +kernel)
set_option maxRecDepth 20000 in
theorem gX5_runScript_X5_here : GoodIn wsX5_runScript (wsV RX5 146 RX5 yX5_here wsX5_here) := goodIn_app (goodIn_of _ (by decide +kernel)) ggX5_runScript_X5_here
set_option maxRecDepth 20000 in
theorem ggX5_runScript_X5_readsCommand : GoodIn wsX5_runScript wsX5_readsCommand := goodIn_r _ [20, 1, 21, 22, 23, 12, 13, 14, 6, 15, 2, 16, 24, 25, 26, 27, 28, 29, 30, 31, 32, 33, 34, 109, 110, 111, 112, 113, 114, 115, 116, 117, 118, 119, 120, 121, 122, 123, 124, 125] (by decide +kernel) (by decide +kernel)
set_option maxRecDepth 20000 in
theorem gX5_runScript_X5_readsCommand : GoodIn wsX5_runScript (wsV RX5 167 RX5 yX5_readsCommand wsX5_readsCommand) := goodIn_app (goodIn_of _ (by decide +kernel)) ggX5_runScript_X5_readsCommand
set_option maxRecDepth 20000 in
theorem ggX5_runScript_X5_does : GoodIn wsX5_runScript wsX5_does := goodIn_r _ [38, 21, 22, 16, 23, 39, 40, 41, 42, 6, 43, 44, 45, 46, 47, 48, 49, 50, 51, 28, 29, 30, 52, 53, 54, 55, 56, 57, 58, 59, 60, 61, 62, 63, 64, 65, 66, 67, 68, 69, 70, 71, 72, 73, 74, 75, 76, 77, 78, 79, 80, 81, 82, 83, 84, 85, 86, 87, 88, 89, 90, 91, 92, 93, 94, 95, 96, 97, 98, 99, 100, 101, 102, 103, 104, 105, 106, 107, 108, 109, 110, 111, 112, 113, 114, 115, 116, 117, 118, 119, 120, 121, 122, 123, 124, 125] (by decide +kernel) (by decide +kernel)
set_option maxRecDepth 20000 in
theorem gX5_runScript_X5_does : GoodIn wsX5_runScript (wsV RX5 174 RX5 yX5_does wsX5_does) := goodIn_app (goodIn_of _ (by decide +kernel)) ggX5_runScript_X5_does
theorem dX5_runScript_0 : decode cX5_runScript 0 = .ok (.aload_n 0, 1) := by decide +kernel
theorem dX5_runScript_1 : decode cX5_runScript 1 = .ok (.invokevirtual 171, 3) := by decide +kernel
theorem dX5_runScript_4 : decode cX5_runScript 4 = .ok (.istore_n 1, 1) := by decide +kernel
theorem dX5_runScript_5 : decode cX5_runScript 5 = .ok (.iload_n 1, 1) := by decide +kernel
theorem dX5_runScript_6 : decode cX5_runScript 6 = .ok (.bipush (-9), 2) := by decide +kernel
theorem dX5_runScript_8 : decode cX5_runScript 8 = .ok (.if_icmp .eq 8, 3) := by decide +kernel
theorem dX5_runScript_11 : decode cX5_runScript 11 = .ok (.bipush (-10), 2) := by decide +kernel
theorem dX5_runScript_13 : decode cX5_runScript 13 = .ok (.iload_n 1, 1) := by decide +kernel
theorem dX5_runScript_14 : decode cX5_runScript 14 = .ok (.isub, 1) := by decide +kernel
theorem dX5_runScript_15 : decode cX5_runScript 15 = .ok (.ireturn, 1) := by decide +kernel
theorem dX5_runScript_16 : decode cX5_runScript 16 = .ok (.iconst 0, 1) := by decide +kernel
theorem dX5_runScript_17 : decode cX5_runScript 17 = .ok (.istore_n 2, 1) := by decide +kernel
theorem dX5_runScript_18 : decode cX5_runScript 18 = .ok (.aload_n 0, 1) := by decide +kernel
theorem dX5_runScript_19 : decode cX5_runScript 19 = .ok (.iconst 0, 1) := by decide +kernel
theorem dX5_runScript_20 : decode cX5_runScript 20 = .ok (.putfield 143, 3) := by decide +kernel
theorem dX5_runScript_23 : decode cX5_runScript 23 = .ok (.aload_n 0, 1) := by decide +kernel
theorem dX5_runScript_24 : decode cX5_runScript 24 = .ok (.invokevirtual 164, 3) := by decide +kernel
theorem dX5_runScript_27 : decode cX5_runScript 27 = .ok (.aload_n 0, 1) := by decide +kernel
theorem dX5_runScript_28 : decode cX5_runScript 28 = .ok (.getfield 143, 3) := by decide +kernel
theorem dX5_runScript_31 : decode cX5_runScript 31 = .ok (.aload_n 0, 1) := by decide +kernel
theorem dX5_runScript_32 : decode cX5_runScript 32 = .ok (.getfield 140, 3) := by decide +kernel
theorem dX5_runScript_35 : decode cX5_runScript 35 = .ok (.if_icmp .ge 42, 3) := by decide +kernel
theorem dX5_runScript_38 : decode cX5_runScript 38 = .ok (.aload_n 0, 1) := by decide +kernel
theorem dX5_runScript_39 : decode cX5_runScript 39 = .ok (.invokevirtual 146, 3) := by decide +kernel
theorem dX5_runScript_42 : decode cX5_runScript 42 = .ok (.istore_n 3, 1) := by decide +kernel
theorem dX5_runScript_43 : decode cX5_runScript 43 = .ok (.aload_n 0, 1) := by decide +kernel
theorem dX5_runScript_44 : decode cX5_runScript 44 = .ok (.invokevirtual 167, 3) := by decide +kernel
theorem dX5_runScript_47 : decode cX5_runScript 47 = .ok (.istore 4, 2) := by decide +kernel
theorem dX5_runScript_49 : decode cX5_runScript 49 = .ok (.iload_n 2, 1) := by decide +kernel
theorem dX5_runScript_50 : decode cX5_runScript 50 = .ok (.iload 4, 2) := by decide +kernel
theorem dX5_runScript_52 : decode cX5_runScript 52 = .ok (.ifCond .eq 15, 3) := by decide +kernel
theorem dX5_runScript_55 : decode cX5_runScript 55 = .ok (.aload_n 0, 1) := by decide +kernel
theorem dX5_runScript_56 : decode cX5_runScript 56 = .ok (.iload_n 3, 1) := by decide +kernel
theorem dX5_runScript_57 : decode cX5_runScript 57 = .ok (.invokevirtual 174, 3) := by decide +kernel
theorem dX5_runScript_60 : decode cX5_runScript 60 = .ok (.ifCond .eq 7, 3) := by decide +kernel
theorem dX5_runScript_63 : decode cX5_runScript 63 = .ok (.iconst 1, 1) := by decide +kernel
theorem dX5_runScript_64 : decode cX5_runScript 64 = .ok (.goto 4, 3) := by decide +kernel
theorem dX5_runScript_67 : decode cX5_runScript 67 = .ok (.iconst 0, 1) := by decide +kernel
theorem dX5_runScript_68 : decode cX5_runScript 68 = .ok (.iadd, 1) := by decide +kernel
theorem dX5_runScript_69 : decode cX5_runScript 69 = .ok (.istore_n 2, 1) := by decide +kernel
theorem dX5_runScript_70 : decode cX5_runScript 70 = .ok (.aload_n 0, 1) := by decide +kernel
theorem dX5_runScript_71 : decode cX5_runScript 71 = .ok (.invokevirtual 164, 3) := by decide +kernel
theorem dX5_runScript_74 : decode cX5_runScript 74 = .ok (.goto (-47), 3) := by decide +kernel
theorem dX5_runScript_77 : decode cX5_runScript 77 = .ok (.aload_n 0, 1) := by decide +kernel
theorem dX5_runScript_78 : decode cX5_runScript 78 = .ok (.iconst 0, 1) := by decide +kernel
theorem dX5_runScript_79 : decode cX5_runScript 79 = .ok (.putfield 140, 3) := by decide +kernel
theorem dX5_runScript_82 : decode cX5_runScript 82 = .ok (.iload_n 2, 1) := by decide +kernel
theorem dX5_runScript_83 : decode cX5_runScript 83 = .ok (.ireturn, 1) := by decide +kernel
set_option maxRecDepth 20000 in
theorem ggX5_isReached_X5_lengthBy : GoodIn wsX5_isReached wsX5_lengthBy := goodIn_r _ [6, 1, 7, 8, 9, 5, 10, 11, 12, 13, 14, 15, 16, 17, 18, 19, 20, 21, 22, 23, 24, 25, 26, 27] (by decide +kernel) (by decide +kernel)
set_option maxRecDepth 20000 in
theorem gX5_isReached_X5_lengthBy : GoodIn wsX5_isReached (wsV RX5 47 RX5 yX5_lengthBy wsX5_lengthBy) := goodIn_app (goodIn_of _ (by decide +kernel)) ggX5_isReached_X5_lengthBy
set_option maxRecDepth 20000 in
theorem ggX5_isReached_X5_isVisible : GoodIn wsX5_isReached wsX5_isVisible := goodIn_r _ [10, 1, 11, 12, 13, 14, 15, 16, 17, 18, 19, 20, 21, 22, 23, 24, 25, 26, 27] (by decide +kernel) (by decide +kernel)
set_option maxRecDepth 20000 in
theorem gX5_isReached_X5_isVisible : GoodIn wsX5_isReached (wsV RX5 43 RX5 yX5_isVisible wsX5_isVisible) := goodIn_app (goodIn_of _ (by decide +kernel)) ggX5_isReached_X5_isVisible
theorem dX5_isReached_0 : decode cX5_isReached 0 = .ok (.iload_n 1, 1) := by decide +kernel
theorem dX5_isReached_1 : decode cX5_isReached 1 = .ok (.ifCond .ne 18, 3) := by decide +kernel
theorem dX5_isReached_4 : decode cX5_isReached 4 = .ok (.aload_n 0, 1) := by decide +kernel
theorem dX5_isReached_5 : decode cX5_isReached 5 = .ok (.iload_n 3, 1) := by decide +kernel
theorem dX5_isReached_6 : decode cX5_isReached 6 = .ok (.invokevirtual 47, 3) := by decide +kernel
theorem dX5_isReached_9 : decode cX5_isReached 9 = .ok (.iload_n 2, 1) := by decide +kernel
theorem dX5_isReached_10 : decode cX5_isReached 10 = .ok (.if_icmp .ne 7, 3) := by decide +kernel
theorem dX5_isReached_13 : decode cX5_isReached 13 = .ok (.iconst 1, 1) := by decide +kernel
theorem dX5_isReached_14 : decode cX5_isReached 14 = .ok (.goto 4, 3) := by decide +kernel
theorem dX5_isReached_17 : decode cX5_isReached 17 = .ok (.iconst 0, 1) := by decide +kernel
theorem dX5_isReached_18 : decode cX5_isReached 18 = .ok (.ireturn, 1) := by decide +kernel
theorem dX5_isReached_19 : decode cX5_isReached 19 = .ok (.iload_n 1, 1) := by decide +kernel
theorem dX5_isReached_20 : decode cX5_isReached 20 = .ok (.iconst 3, 1) := by decide +kernel
theorem dX5_isReached_21 : decode cX5_isReached 21 = .ok (.if_icmp .ne 29, 3) := by decide +kernel
theorem dX5_isReached_24 : decode cX5_isReached 24 = .ok (.iload_n 3, 1) := by decide +kernel
theorem dX5_isReached_25 : decode cX5_isReached 25 = .ok (.iload_n 2, 1) := by decide +kernel
theorem dX5_isReached_26 : decode cX5_isReached 26 = .ok (.bipush 16, 2) := by decide +kernel
theorem dX5_isReached_28 : decode cX5_isReached 28 = .ok (.if_icmp .ge 11, 3) := by decide +kernel
theorem dX5_isReached_31 : decode cX5_isReached 31 = .ok (.iconst 1, 1) := by decide +kernel
theorem dX5_isReached_32 : decode cX5_isReached 32 = .ok (.iload_n 2, 1) := by decide +kernel
theorem dX5_isReached_33 : decode cX5_isReached 33 = .ok (.ishl, 1) := by decide +kernel
theorem dX5_isReached_34 : decode cX5_isReached 34 = .ok (.iconst 1, 1) := by decide +kernel
theorem dX5_isReached_35 : decode cX5_isReached 35 = .ok (.isub, 1) := by decide +kernel
theorem dX5_isReached_36 : decode cX5_isReached 36 = .ok (.goto 4, 3) := by decide +kernel
theorem dX5_isReached_39 : decode cX5_isReached 39 = .ok (.iconst (-1), 1) := by decide +kernel
theorem dX5_isReached_40 : decode cX5_isReached 40 = .ok (.iand, 1) := by decide +kernel
theorem dX5_isReached_41 : decode cX5_isReached 41 = .ok (.ifCond .ne 7, 3) := by decide +kernel
theorem dX5_isReached_44 : decode cX5_isReached 44 = .ok (.iconst 1, 1) := by decide +kernel
theorem dX5_isReached_45 : decode cX5_isReached 45 = .ok (.goto 4, 3) := by decide +kernel
theorem dX5_isReached_48 : decode cX5_isReached 48 = .ok (.iconst 0, 1) := by decide +kernel
theorem dX5_isReached_49 : decode cX5_isReached 49 = .ok (.ireturn, 1) := by decide +kernel
theorem dX5_isReached_50 : decode cX5_isReached 50 = .ok (.iconst 0, 1) := by decide +kernel
theorem dX5_isReached_51 : decode cX5_isReached 51 = .ok (.istore 4, 2) := by decide +kernel
theorem dX5_isReached_53 : decode cX5_isReached 53 = .ok (.iconst 0, 1) := by decide +kernel
theorem dX5_isReached_54 : decode cX5_isReached 54 = .ok (.istore 5, 2) := by decide +kernel
theorem dX5_isReached_56 : decode cX5_isReached 56 = .ok (.iconst 0, 1) := by decide +kernel
theorem dX5_isReached_57 : decode cX5_isReached 57 = .ok (.istore 6, 2) := by decide +kernel
theorem dX5_isReached_59 : decode cX5_isReached 59 = .ok (.iload 6, 2) := by decide +kernel
theorem dX5_isReached_61 : decode cX5_isReached 61 = .ok (.aload_n 0, 1) := by decide +kernel
theorem dX5_isReached_62 : decode cX5_isReached 62 = .ok (.getfield 7, 3) := by decide +kernel
theorem dX5_isReached_65 : decode cX5_isReached 65 = .ok (.iconst 0, 1) := by decide +kernel
theorem dX5_isReached_66 : decode cX5_isReached 66 = .ok (.iaload, 1) := by decide +kernel
theorem dX5_isReached_67 : decode cX5_isReached 67 = .ok (.if_icmp .ge 57, 3) := by decide +kernel
theorem dX5_isReached_70 : decode cX5_isReached 70 = .ok (.aload_n 0, 1) := by decide +kernel
theorem dX5_isReached_71 : decode cX5_isReached 71 = .ok (.iload 6, 2) := by decide +kernel
theorem dX5_isReached_73 : decode cX5_isReached 73 = .ok (.iload_n 3, 1) := by decide +kernel
theorem dX5_isReached_74 : decode cX5_isReached 74 = .ok (.invokevirtual 43, 3) := by decide +kernel
theorem dX5_isReached_77 : decode cX5_isReached 77 = .ok (.ifCond .eq 41, 3) := by decide +kernel
theorem dX5_isReached_80 : decode cX5_isReached 80 = .ok (.iload 4, 2) := by decide +kernel
theorem dX5_isReached_82 : decode cX5_isReached 82 = .ok (.ifCond .ne 26, 3) := by decide +kernel
theorem dX5_isReached_85 : decode cX5_isReached 85 = .ok (.aload_n 0, 1) := by decide +kernel
theorem dX5_isReached_86 : decode cX5_isReached 86 = .ok (.getfield 7, 3) := by decide +kernel
theorem dX5_isReached_89 : decode cX5_isReached 89 = .ok (.iconst 4, 1) := by decide +kernel
theorem dX5_isReached_90 : decode cX5_isReached 90 = .ok (.iload 6, 2) := by decide +kernel
theorem dX5_isReached_92 : decode cX5_isReached 92 = .ok (.iadd, 1) := by decide +kernel
theorem dX5_isReached_93 : decode cX5_isReached 93 = .ok (.iaload, 1) := by decide +kernel
theorem dX5_isReached_94 : decode cX5_isReached 94 = .ok (.iload_n 2, 1) := by decide +kernel
theorem dX5_isReached_95 : decode cX5_isReached 95 = .ok (.if_icmp .ne 17, 3) := by decide +kernel
theorem dX5_isReached_98 : decode cX5_isReached 98 = .ok (.iload_n 1, 1) := by decide +kernel
theorem dX5_isReached_99 : decode cX5_isReached 99 = .ok (.iconst 1, 1) := by decide +kernel
theorem dX5_isReached_100 : decode cX5_isReached 100 = .ok (.if_icmp .eq 8, 3) := by decide +kernel
theorem dX5_isReached_103 : decode cX5_isReached 103 = .ok (.iload 5, 2) := by decide +kernel
theorem dX5_isReached_105 : decode cX5_isReached 105 = .ok (.ifCond .ne 7, 3) := by decide +kernel
theorem dX5_isReached_108 : decode cX5_isReached 108 = .ok (.iconst 1, 1) := by decide +kernel
theorem dX5_isReached_109 : decode cX5_isReached 109 = .ok (.goto 4, 3) := by decide +kernel
theorem dX5_isReached_112 : decode cX5_isReached 112 = .ok (.iconst 0, 1) := by decide +kernel
theorem dX5_isReached_113 : decode cX5_isReached 113 = .ok (.istore 4, 2) := by decide +kernel
theorem dX5_isReached_115 : decode cX5_isReached 115 = .ok (.iinc 5 1, 3) := by decide +kernel
theorem dX5_isReached_118 : decode cX5_isReached 118 = .ok (.iinc 6 1, 3) := by decide +kernel
theorem dX5_isReached_121 : decode cX5_isReached 121 = .ok (.goto (-62), 3) := by decide +kernel
theorem dX5_isReached_124 : decode cX5_isReached 124 = .ok (.iload_n 1, 1) := by decide +kernel
theorem dX5_isReached_125 : decode cX5_isReached 125 = .ok (.iconst 1, 1) := by decide +kernel
theorem dX5_isReached_126 : decode cX5_isReached 126 = .ok (.if_icmp .ne 16, 3) := by decide +kernel
theorem dX5_isReached_129 : decode cX5_isReached 129 = .ok (.iload 4, 2) := by decide +kernel
theorem dX5_isReached_131 : decode cX5_isReached 131 = .ok (.ifCond .ne 7, 3) := by decide +kernel
theorem dX5_isReached_134 : decode cX5_isReached 134 = .ok (.iconst 1, 1) := by decide +kernel
theorem dX5_isReached_135 : decode cX5_isReached 135 = .ok (.goto 9, 3) := by decide +kernel
theorem dX5_isReached_138 : decode cX5_isReached 138 = .ok (.iconst 0, 1) := by decide +kernel
theorem dX5_isReached_139 : decode cX5_isReached 139 = .ok (.goto 5, 3) := by decide +kernel
theorem dX5_isReached_142 : decode cX5_isReached 142 = .ok (.iload 4, 2) := by decide +kernel
theorem dX5_isReached_144 : decode cX5_isReached 144 = .ok (.ireturn, 1) := by decide +kernel
set_option maxRecDepth 20000 in
theorem ggX5_bestFor_X5_findsRests : GoodIn wsX5_bestFor wsX5_findsRests := goodIn_r _ [8, 1, 9, 47, 48, 49, 50, 51, 52, 53, 54, 55, 56, 57, 58, 59, 60, 61, 62, 63] (by decide +kernel) (by decide +kernel)
set_option maxRecDepth 20000 in
theorem gX5_bestFor_X5_findsRests : GoodIn wsX5_bestFor (wsV RX5 101 RX5 yX5_findsRests wsX5_findsRests) := goodIn_app (goodIn_of _ (by decide +kernel)) ggX5_bestFor_X5_findsRests
set_option maxRecDepth 20000 in
theorem ggX5_bestFor_X5_isActive : GoodIn wsX5_bestFor wsX5_isActive := goodIn_r _ [13, 1, 47, 48, 49, 50, 51, 52, 53, 54, 55, 56, 57, 58, 59, 60, 61, 62, 63] (by decide +kernel) (by decide +kernel)
set_option maxRecDepth 20000 in
theorem gX5_bestFor_X5_isActive : GoodIn wsX5_bestFor (wsV RX5 59 RX5 yX5_isActive wsX5_isActive) := goodIn_app (goodIn_of _ (by decide +kernel)) ggX5_bestFor_X5_isActive
set_option maxRecDepth 20000 in
theorem ggX5_bestFor_X5_priceOf : GoodIn wsX5_bestFor wsX5_priceOf := goodIn_r _ [17, 1, 18, 19, 20, 21, 22, 7, 23, 24, 25, 26, 27, 28, 29, 30, 31, 32, 33, 34, 47, 48, 49, 50, 51, 52, 53, 54, 55, 56, 57, 58, 59, 60, 61, 62, 63] (by decide +kernel) (by decide +kernel)
set_option maxRecDepth 20000 in
theorem gX5_bestFor_X5_priceOf : GoodIn wsX5_bestFor (wsV RX5 76 RX5 yX5_priceOf wsX5_priceOf) := goodIn_app (goodIn_of _ (by decide +kernel)) ggX5_bestFor_X5_priceOf
set_option maxRecDepth 20000 in
theorem ggX5_bestFor_X5_canGo : GoodIn wsX5_bestFor wsX5_canGo := goodIn_r _ [38, 1, 9, 10, 11, 12, 7, 13, 47, 48, 49, 50, 51, 52, 53, 54, 55, 56, 57, 58, 59, 60, 61, 62, 63] (by decide +kernel) (by decide +kernel)
set_option maxRecDepth 20000 in
theorem gX5_bestFor_X5_canGo : GoodIn wsX5_bestFor (wsV RX5 122 RX5 yX5_canGo wsX5_canGo) := goodIn_app (goodIn_of _ (by decide +kernel)) ggX5_bestFor_X5_canGo
set_option maxRecDepth 20000 in
theorem ggX5_bestFor_X5_bits : GoodIn wsX5_bestFor wsX5_bits := goodIn_r _ [34] (by decide +kernel) (by decide +kernel)
set_option maxRecDepth 20000 in
theorem gX5_bestFor_X5_bits : GoodIn wsX5_bestFor (va_wsS RX5 73 yX5_bits wsX5_bits) := goodIn_app (goodIn_of _ (by decide +kernel)) ggX5_bestFor_X5_bits
set_option maxRecDepth 20000 in
theorem ggX5_bestFor_X5_isReached : GoodIn wsX5_bestFor wsX5_isReached := goodIn_r _ [42, 1, 43, 44, 45, 7, 46, 28, 29, 30, 31, 47, 48, 49, 50, 51, 52, 53, 54, 55, 56, 57, 58, 59, 60, 61, 62, 63] (by decide +kernel) (by decide +kernel)
set_option maxRecDepth 20000 in
theorem gX5_bestFor_X5_isReached : GoodIn wsX5_bestFor (wsV RX5 180 RX5 yX5_isReached wsX5_isReached) := goodIn_app (goodIn_of _ (by decide +kernel)) ggX5_bestFor_X5_isReached
theorem dX5_bestFor_0 : decode cX5_bestFor 0 = .ok (.aload_n 0, 1) := by decide +kernel
theorem dX5_bestFor_1 : decode cX5_bestFor 1 = .ok (.invokevirtual 101, 3) := by decide +kernel
theorem dX5_bestFor_4 : decode cX5_bestFor 4 = .ok (.iconst 0, 1) := by decide +kernel
theorem dX5_bestFor_5 : decode cX5_bestFor 5 = .ok (.istore_n 3, 1) := by decide +kernel
theorem dX5_bestFor_6 : decode cX5_bestFor 6 = .ok (.iload_n 3, 1) := by decide +kernel
theorem dX5_bestFor_7 : decode cX5_bestFor 7 = .ok (.aload_n 0, 1) := by decide +kernel
theorem dX5_bestFor_8 : decode cX5_bestFor 8 = .ok (.getfield 7, 3) := by decide +kernel
theorem dX5_bestFor_11 : decode cX5_bestFor 11 = .ok (.iconst 1, 1) := by decide +kernel
theorem dX5_bestFor_12 : decode cX5_bestFor 12 = .ok (.iaload, 1) := by decide +kernel
theorem dX5_bestFor_13 : decode cX5_bestFor 13 = .ok (.if_icmp .ge 32, 3) := by decide +kernel
theorem dX5_bestFor_16 : decode cX5_bestFor 16 = .ok (.aload_n 0, 1) := by decide +kernel
theorem dX5_bestFor_17 : decode cX5_bestFor 17 = .ok (.getfield 37, 3) := by decide +kernel
theorem dX5_bestFor_20 : decode cX5_bestFor 20 = .ok (.iload_n 3, 1) := by decide +kernel
theorem dX5_bestFor_21 : decode cX5_bestFor 21 = .ok (.aload_n 0, 1) := by decide +kernel
theorem dX5_bestFor_22 : decode cX5_bestFor 22 = .ok (.iload_n 3, 1) := by decide +kernel
theorem dX5_bestFor_23 : decode cX5_bestFor 23 = .ok (.invokevirtual 59, 3) := by decide +kernel
theorem dX5_bestFor_26 : decode cX5_bestFor 26 = .ok (.ifCond .eq 11, 3) := by decide +kernel
theorem dX5_bestFor_29 : decode cX5_bestFor 29 = .ok (.aload_n 0, 1) := by decide +kernel
theorem dX5_bestFor_30 : decode cX5_bestFor 30 = .ok (.iload_n 3, 1) := by decide +kernel
theorem dX5_bestFor_31 : decode cX5_bestFor 31 = .ok (.invokevirtual 76, 3) := by decide +kernel
theorem dX5_bestFor_34 : decode cX5_bestFor 34 = .ok (.goto 4, 3) := by decide +kernel
theorem dX5_bestFor_37 : decode cX5_bestFor 37 = .ok (.iconst 0, 1) := by decide +kernel
theorem dX5_bestFor_38 : decode cX5_bestFor 38 = .ok (.iastore, 1) := by decide +kernel
theorem dX5_bestFor_39 : decode cX5_bestFor 39 = .ok (.iinc 3 1, 3) := by decide +kernel
theorem dX5_bestFor_42 : decode cX5_bestFor 42 = .ok (.goto (-36), 3) := by decide +kernel
theorem dX5_bestFor_45 : decode cX5_bestFor 45 = .ok (.bipush (-9), 2) := by decide +kernel
theorem dX5_bestFor_47 : decode cX5_bestFor 47 = .ok (.istore_n 3, 1) := by decide +kernel
theorem dX5_bestFor_48 : decode cX5_bestFor 48 = .ok (.aload_n 0, 1) := by decide +kernel
theorem dX5_bestFor_49 : decode cX5_bestFor 49 = .ok (.bipush (-9), 2) := by decide +kernel
theorem dX5_bestFor_51 : decode cX5_bestFor 51 = .ok (.putfield 177, 3) := by decide +kernel
theorem dX5_bestFor_54 : decode cX5_bestFor 54 = .ok (.iconst 0, 1) := by decide +kernel
theorem dX5_bestFor_55 : decode cX5_bestFor 55 = .ok (.istore 4, 2) := by decide +kernel
theorem dX5_bestFor_57 : decode cX5_bestFor 57 = .ok (.iload 4, 2) := by decide +kernel
theorem dX5_bestFor_59 : decode cX5_bestFor 59 = .ok (.iconst 1, 1) := by decide +kernel
theorem dX5_bestFor_60 : decode cX5_bestFor 60 = .ok (.aload_n 0, 1) := by decide +kernel
theorem dX5_bestFor_61 : decode cX5_bestFor 61 = .ok (.getfield 7, 3) := by decide +kernel
theorem dX5_bestFor_64 : decode cX5_bestFor 64 = .ok (.iconst 1, 1) := by decide +kernel
theorem dX5_bestFor_65 : decode cX5_bestFor 65 = .ok (.iaload, 1) := by decide +kernel
theorem dX5_bestFor_66 : decode cX5_bestFor 66 = .ok (.ishl, 1) := by decide +kernel
theorem dX5_bestFor_67 : decode cX5_bestFor 67 = .ok (.if_icmp .ge 159, 3) := by decide +kernel
theorem dX5_bestFor_70 : decode cX5_bestFor 70 = .ok (.iload 4, 2) := by decide +kernel
theorem dX5_bestFor_72 : decode cX5_bestFor 72 = .ok (.aload_n 0, 1) := by decide +kernel
theorem dX5_bestFor_73 : decode cX5_bestFor 73 = .ok (.getfield 7, 3) := by decide +kernel
theorem dX5_bestFor_76 : decode cX5_bestFor 76 = .ok (.iconst 2, 1) := by decide +kernel
theorem dX5_bestFor_77 : decode cX5_bestFor 77 = .ok (.iaload, 1) := by decide +kernel
theorem dX5_bestFor_78 : decode cX5_bestFor 78 = .ok (.iconst (-1), 1) := by decide +kernel
theorem dX5_bestFor_79 : decode cX5_bestFor 79 = .ok (.ixor, 1) := by decide +kernel
theorem dX5_bestFor_80 : decode cX5_bestFor 80 = .ok (.iand, 1) := by decide +kernel
theorem dX5_bestFor_81 : decode cX5_bestFor 81 = .ok (.ifCond .ne 139, 3) := by decide +kernel
theorem dX5_bestFor_84 : decode cX5_bestFor 84 = .ok (.aload_n 0, 1) := by decide +kernel
theorem dX5_bestFor_85 : decode cX5_bestFor 85 = .ok (.iload 4, 2) := by decide +kernel
theorem dX5_bestFor_87 : decode cX5_bestFor 87 = .ok (.invokevirtual 122, 3) := by decide +kernel
theorem dX5_bestFor_90 : decode cX5_bestFor 90 = .ok (.ifCond .eq 130, 3) := by decide +kernel
theorem dX5_bestFor_93 : decode cX5_bestFor 93 = .ok (.iconst 0, 1) := by decide +kernel
theorem dX5_bestFor_94 : decode cX5_bestFor 94 = .ok (.istore 5, 2) := by decide +kernel
theorem dX5_bestFor_96 : decode cX5_bestFor 96 = .ok (.iconst 0, 1) := by decide +kernel
theorem dX5_bestFor_97 : decode cX5_bestFor 97 = .ok (.istore 6, 2) := by decide +kernel
theorem dX5_bestFor_99 : decode cX5_bestFor 99 = .ok (.iload 6, 2) := by decide +kernel
theorem dX5_bestFor_101 : decode cX5_bestFor 101 = .ok (.aload_n 0, 1) := by decide +kernel
theorem dX5_bestFor_102 : decode cX5_bestFor 102 = .ok (.getfield 7, 3) := by decide +kernel
theorem dX5_bestFor_105 : decode cX5_bestFor 105 = .ok (.iconst 1, 1) := by decide +kernel
theorem dX5_bestFor_106 : decode cX5_bestFor 106 = .ok (.iaload, 1) := by decide +kernel
theorem dX5_bestFor_107 : decode cX5_bestFor 107 = .ok (.if_icmp .ge 36, 3) := by decide +kernel
theorem dX5_bestFor_110 : decode cX5_bestFor 110 = .ok (.iload 5, 2) := by decide +kernel
theorem dX5_bestFor_112 : decode cX5_bestFor 112 = .ok (.iload 4, 2) := by decide +kernel
theorem dX5_bestFor_114 : decode cX5_bestFor 114 = .ok (.iload 6, 2) := by decide +kernel
theorem dX5_bestFor_116 : decode cX5_bestFor 116 = .ok (.ishr, 1) := by decide +kernel
theorem dX5_bestFor_117 : decode cX5_bestFor 117 = .ok (.iconst 1, 1) := by decide +kernel
theorem dX5_bestFor_118 : decode cX5_bestFor 118 = .ok (.iand, 1) := by decide +kernel
theorem dX5_bestFor_119 : decode cX5_bestFor 119 = .ok (.iconst 1, 1) := by decide +kernel
theorem dX5_bestFor_120 : decode cX5_bestFor 120 = .ok (.if_icmp .ne 13, 3) := by decide +kernel
theorem dX5_bestFor_123 : decode cX5_bestFor 123 = .ok (.aload_n 0, 1) := by decide +kernel
theorem dX5_bestFor_124 : decode cX5_bestFor 124 = .ok (.getfield 37, 3) := by decide +kernel
theorem dX5_bestFor_127 : decode cX5_bestFor 127 = .ok (.iload 6, 2) := by decide +kernel
theorem dX5_bestFor_129 : decode cX5_bestFor 129 = .ok (.iaload, 1) := by decide +kernel
theorem dX5_bestFor_130 : decode cX5_bestFor 130 = .ok (.goto 4, 3) := by decide +kernel
theorem dX5_bestFor_133 : decode cX5_bestFor 133 = .ok (.iconst 0, 1) := by decide +kernel
theorem dX5_bestFor_134 : decode cX5_bestFor 134 = .ok (.iadd, 1) := by decide +kernel
theorem dX5_bestFor_135 : decode cX5_bestFor 135 = .ok (.istore 5, 2) := by decide +kernel
theorem dX5_bestFor_137 : decode cX5_bestFor 137 = .ok (.iinc 6 1, 3) := by decide +kernel
theorem dX5_bestFor_140 : decode cX5_bestFor 140 = .ok (.goto (-41), 3) := by decide +kernel
theorem dX5_bestFor_143 : decode cX5_bestFor 143 = .ok (.iload_n 3, 1) := by decide +kernel
theorem dX5_bestFor_144 : decode cX5_bestFor 144 = .ok (.bipush (-9), 2) := by decide +kernel
theorem dX5_bestFor_146 : decode cX5_bestFor 146 = .ok (.if_icmp .eq 33, 3) := by decide +kernel
theorem dX5_bestFor_149 : decode cX5_bestFor 149 = .ok (.iload 5, 2) := by decide +kernel
theorem dX5_bestFor_151 : decode cX5_bestFor 151 = .ok (.aload_n 0, 1) := by decide +kernel
theorem dX5_bestFor_152 : decode cX5_bestFor 152 = .ok (.getfield 177, 3) := by decide +kernel
theorem dX5_bestFor_155 : decode cX5_bestFor 155 = .ok (.if_icmp .lt 24, 3) := by decide +kernel
theorem dX5_bestFor_158 : decode cX5_bestFor 158 = .ok (.iload 5, 2) := by decide +kernel
theorem dX5_bestFor_160 : decode cX5_bestFor 160 = .ok (.aload_n 0, 1) := by decide +kernel
theorem dX5_bestFor_161 : decode cX5_bestFor 161 = .ok (.getfield 177, 3) := by decide +kernel
theorem dX5_bestFor_164 : decode cX5_bestFor 164 = .ok (.if_icmp .ne 19, 3) := by decide +kernel
theorem dX5_bestFor_167 : decode cX5_bestFor 167 = .ok (.iload 4, 2) := by decide +kernel
theorem dX5_bestFor_169 : decode cX5_bestFor 169 = .ok (.invokestatic 73, 3) := by decide +kernel
theorem dX5_bestFor_172 : decode cX5_bestFor 172 = .ok (.iload_n 3, 1) := by decide +kernel
theorem dX5_bestFor_173 : decode cX5_bestFor 173 = .ok (.invokestatic 73, 3) := by decide +kernel
theorem dX5_bestFor_176 : decode cX5_bestFor 176 = .ok (.if_icmp .ge 7, 3) := by decide +kernel
theorem dX5_bestFor_179 : decode cX5_bestFor 179 = .ok (.iconst 1, 1) := by decide +kernel
theorem dX5_bestFor_180 : decode cX5_bestFor 180 = .ok (.goto 4, 3) := by decide +kernel
theorem dX5_bestFor_183 : decode cX5_bestFor 183 = .ok (.iconst 0, 1) := by decide +kernel
theorem dX5_bestFor_184 : decode cX5_bestFor 184 = .ok (.istore 6, 2) := by decide +kernel
theorem dX5_bestFor_186 : decode cX5_bestFor 186 = .ok (.iload 6, 2) := by decide +kernel
theorem dX5_bestFor_188 : decode cX5_bestFor 188 = .ok (.ifCond .eq 32, 3) := by decide +kernel
theorem dX5_bestFor_191 : decode cX5_bestFor 191 = .ok (.aload_n 0, 1) := by decide +kernel
theorem dX5_bestFor_192 : decode cX5_bestFor 192 = .ok (.iload_n 1, 1) := by decide +kernel
theorem dX5_bestFor_193 : decode cX5_bestFor 193 = .ok (.iload_n 2, 1) := by decide +kernel
theorem dX5_bestFor_194 : decode cX5_bestFor 194 = .ok (.aload_n 0, 1) := by decide +kernel
theorem dX5_bestFor_195 : decode cX5_bestFor 195 = .ok (.getfield 7, 3) := by decide +kernel
theorem dX5_bestFor_198 : decode cX5_bestFor 198 = .ok (.iconst 2, 1) := by decide +kernel
theorem dX5_bestFor_199 : decode cX5_bestFor 199 = .ok (.iaload, 1) := by decide +kernel
theorem dX5_bestFor_200 : decode cX5_bestFor 200 = .ok (.iload 4, 2) := by decide +kernel
theorem dX5_bestFor_202 : decode cX5_bestFor 202 = .ok (.iconst (-1), 1) := by decide +kernel
theorem dX5_bestFor_203 : decode cX5_bestFor 203 = .ok (.ixor, 1) := by decide +kernel
theorem dX5_bestFor_204 : decode cX5_bestFor 204 = .ok (.iand, 1) := by decide +kernel
theorem dX5_bestFor_205 : decode cX5_bestFor 205 = .ok (.invokevirtual 180, 3) := by decide +kernel
theorem dX5_bestFor_208 : decode cX5_bestFor 208 = .ok (.ifCond .eq 12, 3) := by decide +kernel
theorem dX5_bestFor_211 : decode cX5_bestFor 211 = .ok (.iload 4, 2) := by decide +kernel
theorem dX5_bestFor_213 : decode cX5_bestFor 213 = .ok (.istore_n 3, 1) := by decide +kernel
theorem dX5_bestFor_214 : decode cX5_bestFor 214 = .ok (.aload_n 0, 1) := by decide +kernel
theorem dX5_bestFor_215 : decode cX5_bestFor 215 = .ok (.iload 5, 2) := by decide +kernel
theorem dX5_bestFor_217 : decode cX5_bestFor 217 = .ok (.putfield 177, 3) := by decide +kernel
theorem dX5_bestFor_220 : decode cX5_bestFor 220 = .ok (.iinc 4 1, 3) := by decide +kernel
theorem dX5_bestFor_223 : decode cX5_bestFor 223 = .ok (.goto (-166), 3) := by decide +kernel
theorem dX5_bestFor_226 : decode cX5_bestFor 226 = .ok (.iload_n 3, 1) := by decide +kernel
theorem dX5_bestFor_227 : decode cX5_bestFor 227 = .ok (.ireturn, 1) := by decide +kernel
set_option maxRecDepth 20000 in
theorem ggX5_unasked_X5_in : GoodIn wsX5_unasked wsX5_in := goodIn_r _ [5] (by decide +kernel) (by decide +kernel)
set_option maxRecDepth 20000 in
theorem gX5_unasked_X5_in : GoodIn wsX5_unasked (va_wsS RX5 55 yX5_in wsX5_in) := goodIn_app (goodIn_of _ (by decide +kernel)) ggX5_unasked_X5_in
set_option maxRecDepth 20000 in
theorem ggX5_unasked_X5_bits : GoodIn wsX5_unasked wsX5_bits := goodIn_r _ [8] (by decide +kernel) (by decide +kernel)
set_option maxRecDepth 20000 in
theorem gX5_unasked_X5_bits : GoodIn wsX5_unasked (va_wsS RX5 73 yX5_bits wsX5_bits) := goodIn_app (goodIn_of _ (by decide +kernel)) ggX5_unasked_X5_bits
theorem dX5_unasked_0 : decode cX5_unasked 0 = .ok (.iload_n 1, 1) := by decide +kernel
theorem dX5_unasked_1 : decode cX5_unasked 1 = .ok (.iconst 0, 1) := by decide +kernel
theorem dX5_unasked_2 : decode cX5_unasked 2 = .ok (.iconst 3, 1) := by decide +kernel
theorem dX5_unasked_3 : decode cX5_unasked 3 = .ok (.invokestatic 55, 3) := by decide +kernel
theorem dX5_unasked_6 : decode cX5_unasked 6 = .ok (.ifCond .eq 13, 3) := by decide +kernel
theorem dX5_unasked_9 : decode cX5_unasked 9 = .ok (.iload_n 2, 1) := by decide +kernel
theorem dX5_unasked_10 : decode cX5_unasked 10 = .ok (.iconst 0, 1) := by decide +kernel
theorem dX5_unasked_11 : decode cX5_unasked 11 = .ok (.bipush 126, 2) := by decide +kernel
theorem dX5_unasked_13 : decode cX5_unasked 13 = .ok (.invokestatic 55, 3) := by decide +kernel
theorem dX5_unasked_16 : decode cX5_unasked 16 = .ok (.ifCond .ne 7, 3) := by decide +kernel
theorem dX5_unasked_19 : decode cX5_unasked 19 = .ok (.iconst (-1), 1) := by decide +kernel
theorem dX5_unasked_20 : decode cX5_unasked 20 = .ok (.goto 23, 3) := by decide +kernel
theorem dX5_unasked_23 : decode cX5_unasked 23 = .ok (.aload_n 0, 1) := by decide +kernel
theorem dX5_unasked_24 : decode cX5_unasked 24 = .ok (.getfield 7, 3) := by decide +kernel
theorem dX5_unasked_27 : decode cX5_unasked 27 = .ok (.iconst 2, 1) := by decide +kernel
theorem dX5_unasked_28 : decode cX5_unasked 28 = .ok (.iaload, 1) := by decide +kernel
theorem dX5_unasked_29 : decode cX5_unasked 29 = .ok (.invokestatic 73, 3) := by decide +kernel
theorem dX5_unasked_32 : decode cX5_unasked 32 = .ok (.bipush 12, 2) := by decide +kernel
theorem dX5_unasked_34 : decode cX5_unasked 34 = .ok (.if_icmp .le 8, 3) := by decide +kernel
theorem dX5_unasked_37 : decode cX5_unasked 37 = .ok (.bipush (-2), 2) := by decide +kernel
theorem dX5_unasked_39 : decode cX5_unasked 39 = .ok (.goto 4, 3) := by decide +kernel
theorem dX5_unasked_42 : decode cX5_unasked 42 = .ok (.iconst 0, 1) := by decide +kernel
theorem dX5_unasked_43 : decode cX5_unasked 43 = .ok (.ireturn, 1) := by decide +kernel
set_option maxRecDepth 20000 in
theorem ggX5_cheapest_X5_unasked : GoodIn wsX5_cheapest wsX5_unasked := goodIn_r _ [5, 6, 7, 8, 4, 9, 10, 11, 12, 58, 59, 60, 61, 62, 63, 64, 65, 66, 67, 68, 69, 70, 71, 72, 73, 74] (by decide +kernel) (by decide +kernel)
set_option maxRecDepth 20000 in
theorem gX5_cheapest_X5_unasked : GoodIn wsX5_cheapest (wsV RX5 183 RX5 yX5_unasked wsX5_unasked) := goodIn_app (goodIn_of _ (by decide +kernel)) ggX5_cheapest_X5_unasked
set_option maxRecDepth 20000 in
theorem ggX5_cheapest_X5_bestFor : GoodIn wsX5_cheapest wsX5_bestFor := goodIn_r _ [16, 6, 17, 18, 19, 20, 21, 4, 22, 23, 24, 25, 26, 27, 28, 29, 30, 31, 32, 33, 34, 35, 36, 37, 38, 39, 40, 41, 42, 43, 44, 45, 10, 11, 12, 46, 47, 48, 49, 50, 51, 52, 53, 54, 55, 56, 57, 58, 59, 60, 61, 62, 63, 64, 65, 66, 67, 68, 69, 70, 71, 72, 73, 74] (by decide +kernel) (by decide +kernel)
set_option maxRecDepth 20000 in
theorem gX5_cheapest_X5_bestFor : GoodIn wsX5_cheapest (wsV RX5 186 RX5 yX5_bestFor wsX5_bestFor) := goodIn_app (goodIn_of _ (by decide +kernel)) ggX5_cheapest_X5_bestFor
theorem dX5_cheapest_0 : decode cX5_cheapest 0 = .ok (.aload_n 0, 1) := by decide +kernel
theorem dX5_cheapest_1 : decode cX5_cheapest 1 = .ok (.iload_n 1, 1) := by decide +kernel
theorem dX5_cheapest_2 : decode cX5_cheapest 2 = .ok (.iload_n 2, 1) := by decide +kernel
theorem dX5_cheapest_3 : decode cX5_cheapest 3 = .ok (.invokevirtual 183, 3) := by decide +kernel
theorem dX5_cheapest_6 : decode cX5_cheapest 6 = .ok (.istore_n 3, 1) := by decide +kernel
theorem dX5_cheapest_7 : decode cX5_cheapest 7 = .ok (.iload_n 3, 1) := by decide +kernel
theorem dX5_cheapest_8 : decode cX5_cheapest 8 = .ok (.ifCond .ge 7, 3) := by decide +kernel
theorem dX5_cheapest_11 : decode cX5_cheapest 11 = .ok (.iload_n 3, 1) := by decide +kernel
theorem dX5_cheapest_12 : decode cX5_cheapest 12 = .ok (.goto 9, 3) := by decide +kernel
theorem dX5_cheapest_15 : decode cX5_cheapest 15 = .ok (.aload_n 0, 1) := by decide +kernel
theorem dX5_cheapest_16 : decode cX5_cheapest 16 = .ok (.iload_n 1, 1) := by decide +kernel
theorem dX5_cheapest_17 : decode cX5_cheapest 17 = .ok (.iload_n 2, 1) := by decide +kernel
theorem dX5_cheapest_18 : decode cX5_cheapest 18 = .ok (.invokevirtual 186, 3) := by decide +kernel
theorem dX5_cheapest_21 : decode cX5_cheapest 21 = .ok (.ireturn, 1) := by decide +kernel
set_option maxRecDepth 20000 in
theorem ggX5_cheapestPrice_X5_unasked : GoodIn wsX5_cheapestPrice wsX5_unasked := goodIn_r _ [6, 7, 8, 9, 5, 10, 11, 12, 13, 58, 59, 60, 61, 62, 63, 64, 65, 66, 67, 68, 69, 70, 71, 72, 73, 74] (by decide +kernel) (by decide +kernel)
set_option maxRecDepth 20000 in
theorem gX5_cheapestPrice_X5_unasked : GoodIn wsX5_cheapestPrice (wsV RX5 183 RX5 yX5_unasked wsX5_unasked) := goodIn_app (goodIn_of _ (by decide +kernel)) ggX5_cheapestPrice_X5_unasked
set_option maxRecDepth 20000 in
theorem ggX5_cheapestPrice_X5_bestFor : GoodIn wsX5_cheapestPrice wsX5_bestFor := goodIn_r _ [17, 7, 18, 1, 19, 20, 21, 5, 22, 23, 24, 25, 26, 27, 28, 29, 30, 31, 32, 33, 34, 35, 36, 37, 38, 39, 40, 41, 42, 43, 44, 45, 11, 12, 13, 46, 47, 48, 49, 50, 51, 52, 53, 54, 55, 56, 57, 58, 59, 60, 61, 62, 63, 64, 65, 66, 67, 68, 69, 70, 71, 72, 73, 74] (by decide +kernel) (by decide +kernel)
set_option maxRecDepth 20000 in
theorem gX5_cheapestPrice_X5_bestFor : GoodIn wsX5_cheapestPrice (wsV RX5 186 RX5 yX5_bestFor wsX5_bestFor) := goodIn_app (goodIn_of _ (by decide +kernel)) ggX5_cheapestPrice_X5_bestFor
theorem dX5_cheapestPrice_0 : decode cX5_cheapestPrice 0 = .ok (.aload_n 0, 1) := by decide +kernel
theorem dX5_cheapestPrice_1 : decode cX5_cheapestPrice 1 = .ok (.iload_n 1, 1) := by decide +kernel
theorem dX5_cheapestPrice_2 : decode cX5_cheapestPrice 2 = .ok (.iload_n 2, 1) := by decide +kernel
theorem dX5_cheapestPrice_3 : decode cX5_cheapestPrice 3 = .ok (.invokevirtual 183, 3) := by decide +kernel
theorem dX5_cheapestPrice_6 : decode cX5_cheapestPrice 6 = .ok (.istore_n 3, 1) := by decide +kernel
theorem dX5_cheapestPrice_7 : decode cX5_cheapestPrice 7 = .ok (.iload_n 3, 1) := by decide +kernel
theorem dX5_cheapestPrice_8 : decode cX5_cheapestPrice 8 = .ok (.ifCond .ge 5, 3) := by decide +kernel
theorem dX5_cheapestPrice_11 : decode cX5_cheapestPrice 11 = .ok (.iload_n 3, 1) := by decide +kernel
theorem dX5_cheapestPrice_12 : decode cX5_cheapestPrice 12 = .ok (.ireturn, 1) := by decide +kernel
theorem dX5_cheapestPrice_13 : decode cX5_cheapestPrice 13 = .ok (.aload_n 0, 1) := by decide +kernel
theorem dX5_cheapestPrice_14 : decode cX5_cheapestPrice 14 = .ok (.iload_n 1, 1) := by decide +kernel
theorem dX5_cheapestPrice_15 : decode cX5_cheapestPrice 15 = .ok (.iload_n 2, 1) := by decide +kernel
theorem dX5_cheapestPrice_16 : decode cX5_cheapestPrice 16 = .ok (.invokevirtual 186, 3) := by decide +kernel
theorem dX5_cheapestPrice_19 : decode cX5_cheapestPrice 19 = .ok (.bipush (-9), 2) := by decide +kernel
theorem dX5_cheapestPrice_21 : decode cX5_cheapestPrice 21 = .ok (.if_icmp .ne 8, 3) := by decide +kernel
theorem dX5_cheapestPrice_24 : decode cX5_cheapestPrice 24 = .ok (.bipush (-9), 2) := by decide +kernel
theorem dX5_cheapestPrice_26 : decode cX5_cheapestPrice 26 = .ok (.goto 7, 3) := by decide +kernel
theorem dX5_cheapestPrice_29 : decode cX5_cheapestPrice 29 = .ok (.aload_n 0, 1) := by decide +kernel
theorem dX5_cheapestPrice_30 : decode cX5_cheapestPrice 30 = .ok (.getfield 177, 3) := by decide +kernel
theorem dX5_cheapestPrice_33 : decode cX5_cheapestPrice 33 = .ok (.ireturn, 1) := by decide +kernel
set_option maxRecDepth 20000 in
theorem ggX5_clearing_X5_length : GoodIn wsX5_clearing wsX5_length := goodIn_r _ [6, 1, 7, 8, 9, 5, 10, 11, 12, 13, 14, 31, 32, 33, 34, 35, 36, 37, 38, 39, 40, 41, 42, 43, 44, 45, 46, 47] (by decide +kernel) (by decide +kernel)
set_option maxRecDepth 20000 in
theorem gX5_clearing_X5_length : GoodIn wsX5_clearing (wsV RX5 51 RX5 yX5_length wsX5_length) := goodIn_app (goodIn_of _ (by decide +kernel)) ggX5_clearing_X5_length
set_option maxRecDepth 20000 in
theorem ggX5_clearing_X5_in : GoodIn wsX5_clearing wsX5_in := goodIn_r _ [17] (by decide +kernel) (by decide +kernel)
set_option maxRecDepth 20000 in
theorem gX5_clearing_X5_in : GoodIn wsX5_clearing (va_wsS RX5 55 yX5_in wsX5_in) := goodIn_app (goodIn_of _ (by decide +kernel)) ggX5_clearing_X5_in
set_option maxRecDepth 20000 in
theorem ggX5_clearing_X5_findsRests : GoodIn wsX5_clearing wsX5_findsRests := goodIn_r _ [21, 1, 22, 31, 32, 33, 34, 35, 36, 37, 38, 39, 40, 41, 42, 43, 44, 45, 46, 47] (by decide +kernel) (by decide +kernel)
set_option maxRecDepth 20000 in
theorem gX5_clearing_X5_findsRests : GoodIn wsX5_clearing (wsV RX5 101 RX5 yX5_findsRests wsX5_findsRests) := goodIn_app (goodIn_of _ (by decide +kernel)) ggX5_clearing_X5_findsRests
set_option maxRecDepth 20000 in
theorem ggX5_clearing_X5_at : GoodIn wsX5_clearing wsX5_at := goodIn_r _ [26, 1, 11, 12, 13, 5, 14, 31, 32, 33, 34, 35, 36, 37, 38, 39, 40, 41, 42, 43, 44, 45, 46, 47] (by decide +kernel) (by decide +kernel)
set_option maxRecDepth 20000 in
theorem gX5_clearing_X5_at : GoodIn wsX5_clearing (wsV RX5 82 RX5 yX5_at wsX5_at) := goodIn_app (goodIn_of _ (by decide +kernel)) ggX5_clearing_X5_at
set_option maxRecDepth 20000 in
theorem ggX5_clearing_X5_isVisible : GoodIn wsX5_clearing wsX5_isVisible := goodIn_r _ [14, 1, 31, 32, 33, 34, 35, 36, 37, 38, 39, 40, 41, 42, 43, 44, 45, 46, 47] (by decide +kernel) (by decide +kernel)
set_option maxRecDepth 20000 in
theorem gX5_clearing_X5_isVisible : GoodIn wsX5_clearing (wsV RX5 43 RX5 yX5_isVisible wsX5_isVisible) := goodIn_app (goodIn_of _ (by decide +kernel)) ggX5_clearing_X5_isVisible
set_option maxRecDepth 20000 in
theorem ggX5_clearing_X5_above : GoodIn wsX5_clearing wsX5_above := goodIn_r _ [30, 1, 22, 31, 32, 33, 34, 35, 36, 37, 38, 39, 40, 41, 42, 43, 44, 45, 46, 47] (by decide +kernel) (by decide +kernel)
set_option maxRecDepth 20000 in
theorem gX5_clearing_X5_above : GoodIn wsX5_clearing (wsV RX5 63 RX5 yX5_above wsX5_above) := goodIn_app (goodIn_of _ (by decide +kernel)) ggX5_clearing_X5_above
theorem dX5_clearing_0 : decode cX5_clearing 0 = .ok (.aload_n 0, 1) := by decide +kernel
theorem dX5_clearing_1 : decode cX5_clearing 1 = .ok (.invokevirtual 51, 3) := by decide +kernel
theorem dX5_clearing_4 : decode cX5_clearing 4 = .ok (.istore_n 3, 1) := by decide +kernel
theorem dX5_clearing_5 : decode cX5_clearing 5 = .ok (.iload_n 1, 1) := by decide +kernel
theorem dX5_clearing_6 : decode cX5_clearing 6 = .ok (.iconst 0, 1) := by decide +kernel
theorem dX5_clearing_7 : decode cX5_clearing 7 = .ok (.iload_n 3, 1) := by decide +kernel
theorem dX5_clearing_8 : decode cX5_clearing 8 = .ok (.iconst 1, 1) := by decide +kernel
theorem dX5_clearing_9 : decode cX5_clearing 9 = .ok (.isub, 1) := by decide +kernel
theorem dX5_clearing_10 : decode cX5_clearing 10 = .ok (.invokestatic 55, 3) := by decide +kernel
theorem dX5_clearing_13 : decode cX5_clearing 13 = .ok (.ifCond .eq 14, 3) := by decide +kernel
theorem dX5_clearing_16 : decode cX5_clearing 16 = .ok (.iload_n 2, 1) := by decide +kernel
theorem dX5_clearing_17 : decode cX5_clearing 17 = .ok (.iload_n 1, 1) := by decide +kernel
theorem dX5_clearing_18 : decode cX5_clearing 18 = .ok (.iconst 1, 1) := by decide +kernel
theorem dX5_clearing_19 : decode cX5_clearing 19 = .ok (.iadd, 1) := by decide +kernel
theorem dX5_clearing_20 : decode cX5_clearing 20 = .ok (.iload_n 3, 1) := by decide +kernel
theorem dX5_clearing_21 : decode cX5_clearing 21 = .ok (.invokestatic 55, 3) := by decide +kernel
theorem dX5_clearing_24 : decode cX5_clearing 24 = .ok (.ifCond .ne 5, 3) := by decide +kernel
theorem dX5_clearing_27 : decode cX5_clearing 27 = .ok (.iconst (-1), 1) := by decide +kernel
theorem dX5_clearing_28 : decode cX5_clearing 28 = .ok (.ireturn, 1) := by decide +kernel
theorem dX5_clearing_29 : decode cX5_clearing 29 = .ok (.aload_n 0, 1) := by decide +kernel
theorem dX5_clearing_30 : decode cX5_clearing 30 = .ok (.invokevirtual 101, 3) := by decide +kernel
theorem dX5_clearing_33 : decode cX5_clearing 33 = .ok (.aload_n 0, 1) := by decide +kernel
theorem dX5_clearing_34 : decode cX5_clearing 34 = .ok (.iload_n 2, 1) := by decide +kernel
theorem dX5_clearing_35 : decode cX5_clearing 35 = .ok (.iconst 1, 1) := by decide +kernel
theorem dX5_clearing_36 : decode cX5_clearing 36 = .ok (.isub, 1) := by decide +kernel
theorem dX5_clearing_37 : decode cX5_clearing 37 = .ok (.invokevirtual 82, 3) := by decide +kernel
theorem dX5_clearing_40 : decode cX5_clearing 40 = .ok (.istore 4, 2) := by decide +kernel
theorem dX5_clearing_42 : decode cX5_clearing 42 = .ok (.iconst 0, 1) := by decide +kernel
theorem dX5_clearing_43 : decode cX5_clearing 43 = .ok (.istore 5, 2) := by decide +kernel
theorem dX5_clearing_45 : decode cX5_clearing 45 = .ok (.aload_n 0, 1) := by decide +kernel
theorem dX5_clearing_46 : decode cX5_clearing 46 = .ok (.iload_n 1, 1) := by decide +kernel
theorem dX5_clearing_47 : decode cX5_clearing 47 = .ok (.invokevirtual 82, 3) := by decide +kernel
theorem dX5_clearing_50 : decode cX5_clearing 50 = .ok (.istore 6, 2) := by decide +kernel
theorem dX5_clearing_52 : decode cX5_clearing 52 = .ok (.iload 6, 2) := by decide +kernel
theorem dX5_clearing_54 : decode cX5_clearing 54 = .ok (.iload 4, 2) := by decide +kernel
theorem dX5_clearing_56 : decode cX5_clearing 56 = .ok (.if_icmp .gt 96, 3) := by decide +kernel
theorem dX5_clearing_59 : decode cX5_clearing 59 = .ok (.aload_n 0, 1) := by decide +kernel
theorem dX5_clearing_60 : decode cX5_clearing 60 = .ok (.iload 6, 2) := by decide +kernel
theorem dX5_clearing_62 : decode cX5_clearing 62 = .ok (.aload_n 0, 1) := by decide +kernel
theorem dX5_clearing_63 : decode cX5_clearing 63 = .ok (.getfield 7, 3) := by decide +kernel
theorem dX5_clearing_66 : decode cX5_clearing 66 = .ok (.iconst 2, 1) := by decide +kernel
theorem dX5_clearing_67 : decode cX5_clearing 67 = .ok (.iaload, 1) := by decide +kernel
theorem dX5_clearing_68 : decode cX5_clearing 68 = .ok (.invokevirtual 43, 3) := by decide +kernel
theorem dX5_clearing_71 : decode cX5_clearing 71 = .ok (.ifCond .eq 22, 3) := by decide +kernel
theorem dX5_clearing_74 : decode cX5_clearing 74 = .ok (.aload_n 0, 1) := by decide +kernel
theorem dX5_clearing_75 : decode cX5_clearing 75 = .ok (.getfield 7, 3) := by decide +kernel
theorem dX5_clearing_78 : decode cX5_clearing 78 = .ok (.sipush 164, 3) := by decide +kernel
theorem dX5_clearing_81 : decode cX5_clearing 81 = .ok (.iload 6, 2) := by decide +kernel
theorem dX5_clearing_83 : decode cX5_clearing 83 = .ok (.iadd, 1) := by decide +kernel
theorem dX5_clearing_84 : decode cX5_clearing 84 = .ok (.iaload, 1) := by decide +kernel
theorem dX5_clearing_85 : decode cX5_clearing 85 = .ok (.iconst (-1), 1) := by decide +kernel
theorem dX5_clearing_86 : decode cX5_clearing 86 = .ok (.if_icmp .eq 7, 3) := by decide +kernel
theorem dX5_clearing_89 : decode cX5_clearing 89 = .ok (.iconst 1, 1) := by decide +kernel
theorem dX5_clearing_90 : decode cX5_clearing 90 = .ok (.goto 4, 3) := by decide +kernel
theorem dX5_clearing_93 : decode cX5_clearing 93 = .ok (.iconst 0, 1) := by decide +kernel
theorem dX5_clearing_94 : decode cX5_clearing 94 = .ok (.istore 7, 2) := by decide +kernel
theorem dX5_clearing_96 : decode cX5_clearing 96 = .ok (.iload 5, 2) := by decide +kernel
theorem dX5_clearing_98 : decode cX5_clearing 98 = .ok (.iload 7, 2) := by decide +kernel
theorem dX5_clearing_100 : decode cX5_clearing 100 = .ok (.ifCond .eq 19, 3) := by decide +kernel
theorem dX5_clearing_103 : decode cX5_clearing 103 = .ok (.iconst 1, 1) := by decide +kernel
theorem dX5_clearing_104 : decode cX5_clearing 104 = .ok (.aload_n 0, 1) := by decide +kernel
theorem dX5_clearing_105 : decode cX5_clearing 105 = .ok (.getfield 7, 3) := by decide +kernel
theorem dX5_clearing_108 : decode cX5_clearing 108 = .ok (.sipush 164, 3) := by decide +kernel
theorem dX5_clearing_111 : decode cX5_clearing 111 = .ok (.iload 6, 2) := by decide +kernel
theorem dX5_clearing_113 : decode cX5_clearing 113 = .ok (.iadd, 1) := by decide +kernel
theorem dX5_clearing_114 : decode cX5_clearing 114 = .ok (.iaload, 1) := by decide +kernel
theorem dX5_clearing_115 : decode cX5_clearing 115 = .ok (.ishl, 1) := by decide +kernel
theorem dX5_clearing_116 : decode cX5_clearing 116 = .ok (.goto 4, 3) := by decide +kernel
theorem dX5_clearing_119 : decode cX5_clearing 119 = .ok (.iconst 0, 1) := by decide +kernel
theorem dX5_clearing_120 : decode cX5_clearing 120 = .ok (.ior, 1) := by decide +kernel
theorem dX5_clearing_121 : decode cX5_clearing 121 = .ok (.istore 5, 2) := by decide +kernel
theorem dX5_clearing_123 : decode cX5_clearing 123 = .ok (.iload 5, 2) := by decide +kernel
theorem dX5_clearing_125 : decode cX5_clearing 125 = .ok (.aload_n 0, 1) := by decide +kernel
theorem dX5_clearing_126 : decode cX5_clearing 126 = .ok (.getfield 7, 3) := by decide +kernel
theorem dX5_clearing_129 : decode cX5_clearing 129 = .ok (.sipush 324, 3) := by decide +kernel
theorem dX5_clearing_132 : decode cX5_clearing 132 = .ok (.iload 6, 2) := by decide +kernel
theorem dX5_clearing_134 : decode cX5_clearing 134 = .ok (.iadd, 1) := by decide +kernel
theorem dX5_clearing_135 : decode cX5_clearing 135 = .ok (.iaload, 1) := by decide +kernel
theorem dX5_clearing_136 : decode cX5_clearing 136 = .ok (.aload_n 0, 1) := by decide +kernel
