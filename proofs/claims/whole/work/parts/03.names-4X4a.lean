set_option maxRecDepth 20000 in
theorem ggX4_init_X1_init : GoodIn wsX4_init wsX1_init := goodIn_r _ [25, 26, 2, 3, 27, 28, 29, 30, 31, 32, 55, 56] (by decide +kernel) (by decide +kernel)
set_option maxRecDepth 20000 in
theorem gX4_init_X1_init : GoodIn wsX4_init (wsX1_init) := ggX4_init_X1_init
set_option maxRecDepth 20000 in
theorem ggX4_init_X2_init : GoodIn wsX4_init wsX2_init := goodIn_r _ [34, 35, 2, 3, 36, 5, 6, 37, 38, 24, 25, 26, 27, 28, 29, 30, 31, 32, 55, 56, 64, 65, 66, 67, 68, 69, 70] (by decide +kernel) (by decide +kernel)
set_option maxRecDepth 20000 in
theorem gX4_init_X2_init_n20 : GoodIn wsX4_init (wsX2_init) := ggX4_init_X2_init
set_option maxRecDepth 20000 in
theorem ggX4_init_X0_init : GoodIn wsX4_init wsX0_init := goodIn_r _ [40, 41, 2, 3, 31, 42, 43, 44, 45, 46, 71, 72, 73, 74, 75, 76, 77, 78, 79, 80, 81] (by decide +kernel) (by decide +kernel)
set_option maxRecDepth 20000 in
theorem gX4_init_X0_init_n27 : GoodIn wsX4_init (wsX0_init) := ggX4_init_X0_init
set_option maxRecDepth 20000 in
theorem ggX4_init_X3_init : GoodIn wsX4_init wsX3_init := goodIn_r _ [48, 49, 2, 3, 31, 50, 51, 52, 53, 54, 82, 83, 84, 85, 86, 87, 88, 89, 90, 91, 92, 93] (by decide +kernel) (by decide +kernel)
set_option maxRecDepth 20000 in
theorem gX4_init_X3_init_n34 : GoodIn wsX4_init (wsX3_init) := ggX4_init_X3_init
theorem dX4_init_0 : decode cX4_init 0 = .ok (.aload_n 0, 1) := by decide +kernel
theorem dX4_init_1 : decode cX4_init 1 = .ok (.invokespecial 1, 3) := by decide +kernel
theorem dX4_init_4 : decode cX4_init 4 = .ok (.aload_n 0, 1) := by decide +kernel
theorem dX4_init_5 : decode cX4_init 5 = .ok (.new 7, 3) := by decide +kernel
theorem dX4_init_8 : decode cX4_init 8 = .ok (.dup, 1) := by decide +kernel
theorem dX4_init_9 : decode cX4_init 9 = .ok (.bipush 60, 2) := by decide +kernel
theorem dX4_init_11 : decode cX4_init 11 = .ok (.invokespecial 11, 3) := by decide +kernel
theorem dX4_init_14 : decode cX4_init 14 = .ok (.putfield 14, 3) := by decide +kernel
theorem dX4_init_17 : decode cX4_init 17 = .ok (.aload_n 0, 1) := by decide +kernel
theorem dX4_init_18 : decode cX4_init 18 = .ok (.new 18, 3) := by decide +kernel
theorem dX4_init_21 : decode cX4_init 21 = .ok (.dup, 1) := by decide +kernel
theorem dX4_init_22 : decode cX4_init 22 = .ok (.invokespecial 20, 3) := by decide +kernel
theorem dX4_init_25 : decode cX4_init 25 = .ok (.putfield 21, 3) := by decide +kernel
theorem dX4_init_28 : decode cX4_init 28 = .ok (.aload_n 0, 1) := by decide +kernel
theorem dX4_init_29 : decode cX4_init 29 = .ok (.new 25, 3) := by decide +kernel
theorem dX4_init_32 : decode cX4_init 32 = .ok (.dup, 1) := by decide +kernel
theorem dX4_init_33 : decode cX4_init 33 = .ok (.invokespecial 27, 3) := by decide +kernel
theorem dX4_init_36 : decode cX4_init 36 = .ok (.putfield 28, 3) := by decide +kernel
theorem dX4_init_39 : decode cX4_init 39 = .ok (.aload_n 0, 1) := by decide +kernel
theorem dX4_init_40 : decode cX4_init 40 = .ok (.new 32, 3) := by decide +kernel
theorem dX4_init_43 : decode cX4_init 43 = .ok (.dup, 1) := by decide +kernel
theorem dX4_init_44 : decode cX4_init 44 = .ok (.invokespecial 34, 3) := by decide +kernel
theorem dX4_init_47 : decode cX4_init 47 = .ok (.putfield 35, 3) := by decide +kernel
theorem dX4_init_50 : decode cX4_init 50 = .ok (.aload_n 0, 1) := by decide +kernel
theorem dX4_init_51 : decode cX4_init 51 = .ok (.iconst 2, 1) := by decide +kernel
theorem dX4_init_52 : decode cX4_init 52 = .ok (.anewarray 25, 3) := by decide +kernel
theorem dX4_init_55 : decode cX4_init 55 = .ok (.putfield 39, 3) := by decide +kernel
theorem dX4_init_58 : decode cX4_init 58 = .ok (.aload_n 0, 1) := by decide +kernel
theorem dX4_init_59 : decode cX4_init 59 = .ok (.iconst 1, 1) := by decide +kernel
theorem dX4_init_60 : decode cX4_init 60 = .ok (.putfield 43, 3) := by decide +kernel
theorem dX4_init_63 : decode cX4_init 63 = .ok (.aload_n 0, 1) := by decide +kernel
theorem dX4_init_64 : decode cX4_init 64 = .ok (.iconst 1, 1) := by decide +kernel
theorem dX4_init_65 : decode cX4_init 65 = .ok (.putfield 47, 3) := by decide +kernel
theorem dX4_init_68 : decode cX4_init 68 = .ok (.return_, 1) := by decide +kernel
set_option maxRecDepth 20000 in
theorem ggX4_appendCharacter_X1_add : GoodIn wsX4_appendCharacter wsX1_add := goodIn_r _ [6, 7, 8, 16, 17] (by decide +kernel) (by decide +kernel)
set_option maxRecDepth 20000 in
theorem gX4_appendCharacter_X1_add : GoodIn wsX4_appendCharacter (wsV RX4 50 RX1 yX1_add wsX1_add) := goodIn_app (goodIn_of _ (by decide +kernel)) ggX4_appendCharacter_X1_add
theorem dX4_appendCharacter_0 : decode cX4_appendCharacter 0 = .ok (.iload_n 1, 1) := by decide +kernel
theorem dX4_appendCharacter_1 : decode cX4_appendCharacter 1 = .ok (.bipush 32, 2) := by decide +kernel
theorem dX4_appendCharacter_3 : decode cX4_appendCharacter 3 = .ok (.if_icmp .lt 9, 3) := by decide +kernel
theorem dX4_appendCharacter_6 : decode cX4_appendCharacter 6 = .ok (.iload_n 1, 1) := by decide +kernel
theorem dX4_appendCharacter_7 : decode cX4_appendCharacter 7 = .ok (.bipush 126, 2) := by decide +kernel
theorem dX4_appendCharacter_9 : decode cX4_appendCharacter 9 = .ok (.if_icmp .le 5, 3) := by decide +kernel
theorem dX4_appendCharacter_12 : decode cX4_appendCharacter 12 = .ok (.iconst (-1), 1) := by decide +kernel
theorem dX4_appendCharacter_13 : decode cX4_appendCharacter 13 = .ok (.ireturn, 1) := by decide +kernel
theorem dX4_appendCharacter_14 : decode cX4_appendCharacter 14 = .ok (.aload_n 0, 1) := by decide +kernel
theorem dX4_appendCharacter_15 : decode cX4_appendCharacter 15 = .ok (.getfield 14, 3) := by decide +kernel
theorem dX4_appendCharacter_18 : decode cX4_appendCharacter 18 = .ok (.iload_n 1, 1) := by decide +kernel
theorem dX4_appendCharacter_19 : decode cX4_appendCharacter 19 = .ok (.invokevirtual 50, 3) := by decide +kernel
theorem dX4_appendCharacter_22 : decode cX4_appendCharacter 22 = .ok (.ifCond .eq 13, 3) := by decide +kernel
theorem dX4_appendCharacter_25 : decode cX4_appendCharacter 25 = .ok (.aload_n 0, 1) := by decide +kernel
theorem dX4_appendCharacter_26 : decode cX4_appendCharacter 26 = .ok (.getfield 14, 3) := by decide +kernel
theorem dX4_appendCharacter_29 : decode cX4_appendCharacter 29 = .ok (.getfield 54, 3) := by decide +kernel
theorem dX4_appendCharacter_32 : decode cX4_appendCharacter 32 = .ok (.goto 5, 3) := by decide +kernel
theorem dX4_appendCharacter_35 : decode cX4_appendCharacter 35 = .ok (.bipush (-3), 2) := by decide +kernel
theorem dX4_appendCharacter_37 : decode cX4_appendCharacter 37 = .ok (.ireturn, 1) := by decide +kernel
set_option maxRecDepth 20000 in
theorem ggX4_clearClip_X1_drop : GoodIn wsX4_clearClip wsX1_drop := goodIn_r _ [6, 7, 15, 16] (by decide +kernel) (by decide +kernel)
set_option maxRecDepth 20000 in
theorem gX4_clearClip_X1_drop : GoodIn wsX4_clearClip (wsV RX4 57 RX1 yX1_drop wsX1_drop) := goodIn_app (goodIn_of _ (by decide +kernel)) ggX4_clearClip_X1_drop
theorem dX4_clearClip_0 : decode cX4_clearClip 0 = .ok (.aload_n 0, 1) := by decide +kernel
theorem dX4_clearClip_1 : decode cX4_clearClip 1 = .ok (.getfield 14, 3) := by decide +kernel
theorem dX4_clearClip_4 : decode cX4_clearClip 4 = .ok (.invokevirtual 57, 3) := by decide +kernel
theorem dX4_clearClip_7 : decode cX4_clearClip 7 = .ok (.ireturn, 1) := by decide +kernel
set_option maxRecDepth 20000 in
theorem ggX4_begin_X0_startWith : GoodIn wsX4_begin wsX0_startWith := goodIn_r _ [7, 8, 9, 10, 11, 12, 13, 14, 15, 16, 17, 18, 19, 20, 21, 22, 23, 24, 25, 26, 6, 27, 28, 29, 30, 31, 32, 33, 34, 35, 36, 37, 38, 39, 40, 63, 64, 52, 53, 54, 55, 56, 57, 58, 59, 60, 61, 62] (by decide +kernel) (by decide +kernel)
set_option maxRecDepth 20000 in
theorem gX4_begin_X0_startWith : GoodIn wsX4_begin (wsV RX4 61 RX0 yX0_startWith wsX0_startWith) := goodIn_app (goodIn_of _ (by decide +kernel)) ggX4_begin_X0_startWith
set_option maxRecDepth 20000 in
theorem ggX4_begin_X1_drop : GoodIn wsX4_begin wsX1_drop := goodIn_r _ [44, 22, 63, 64] (by decide +kernel) (by decide +kernel)
set_option maxRecDepth 20000 in
theorem gX4_begin_X1_drop : GoodIn wsX4_begin (wsV RX4 57 RX1 yX1_drop wsX1_drop) := goodIn_app (goodIn_of _ (by decide +kernel)) ggX4_begin_X1_drop
theorem dX4_begin_0 : decode cX4_begin 0 = .ok (.aload_n 0, 1) := by decide +kernel
theorem dX4_begin_1 : decode cX4_begin 1 = .ok (.getfield 28, 3) := by decide +kernel
theorem dX4_begin_4 : decode cX4_begin 4 = .ok (.aload_n 0, 1) := by decide +kernel
theorem dX4_begin_5 : decode cX4_begin 5 = .ok (.getfield 14, 3) := by decide +kernel
theorem dX4_begin_8 : decode cX4_begin 8 = .ok (.invokevirtual 61, 3) := by decide +kernel
theorem dX4_begin_11 : decode cX4_begin 11 = .ok (.aload_n 0, 1) := by decide +kernel
theorem dX4_begin_12 : decode cX4_begin 12 = .ok (.getfield 14, 3) := by decide +kernel
theorem dX4_begin_15 : decode cX4_begin 15 = .ok (.invokevirtual 57, 3) := by decide +kernel
theorem dX4_begin_18 : decode cX4_begin 18 = .ok (.pop, 1) := by decide +kernel
theorem dX4_begin_19 : decode cX4_begin 19 = .ok (.aload_n 0, 1) := by decide +kernel
theorem dX4_begin_20 : decode cX4_begin 20 = .ok (.getfield 28, 3) := by decide +kernel
theorem dX4_begin_23 : decode cX4_begin 23 = .ok (.getfield 65, 3) := by decide +kernel
theorem dX4_begin_26 : decode cX4_begin 26 = .ok (.ireturn, 1) := by decide +kernel
set_option maxRecDepth 20000 in
theorem ggX4_insert_X0_addInsertion : GoodIn wsX4_insert wsX0_addInsertion := goodIn_r _ [7, 8, 9, 10, 11, 12, 13, 14, 15, 16, 6, 17, 18, 19, 20, 21, 22, 23, 24, 25, 26, 27, 28, 29, 30, 31, 32, 33, 34, 35, 36, 37, 38, 39, 40, 41, 42, 43, 44, 45, 46, 47, 48, 49, 50, 51, 52, 53, 54, 55, 56, 57, 58, 59, 60, 61, 62, 63, 64, 65, 66, 67, 68, 69, 70, 71, 72, 86, 87, 88, 89, 90, 91, 92, 93, 94, 95, 96, 84, 85] (by decide +kernel) (by decide +kernel)
set_option maxRecDepth 20000 in
theorem gX4_insert_X0_addInsertion : GoodIn wsX4_insert (wsV RX4 66 RX0 yX0_addInsertion wsX0_addInsertion) := goodIn_app (goodIn_of _ (by decide +kernel)) ggX4_insert_X0_addInsertion
set_option maxRecDepth 20000 in
theorem ggX4_insert_X1_drop : GoodIn wsX4_insert wsX1_drop := goodIn_r _ [76, 47, 84, 85] (by decide +kernel) (by decide +kernel)
set_option maxRecDepth 20000 in
theorem gX4_insert_X1_drop : GoodIn wsX4_insert (wsV RX4 57 RX1 yX1_drop wsX1_drop) := goodIn_app (goodIn_of _ (by decide +kernel)) ggX4_insert_X1_drop
theorem dX4_insert_0 : decode cX4_insert 0 = .ok (.aload_n 0, 1) := by decide +kernel
theorem dX4_insert_1 : decode cX4_insert 1 = .ok (.getfield 28, 3) := by decide +kernel
theorem dX4_insert_4 : decode cX4_insert 4 = .ok (.iload_n 1, 1) := by decide +kernel
theorem dX4_insert_5 : decode cX4_insert 5 = .ok (.aload_n 0, 1) := by decide +kernel
theorem dX4_insert_6 : decode cX4_insert 6 = .ok (.getfield 14, 3) := by decide +kernel
theorem dX4_insert_9 : decode cX4_insert 9 = .ok (.iconst 0, 1) := by decide +kernel
theorem dX4_insert_10 : decode cX4_insert 10 = .ok (.aload_n 0, 1) := by decide +kernel
theorem dX4_insert_11 : decode cX4_insert 11 = .ok (.getfield 14, 3) := by decide +kernel
theorem dX4_insert_14 : decode cX4_insert 14 = .ok (.getfield 54, 3) := by decide +kernel
theorem dX4_insert_17 : decode cX4_insert 17 = .ok (.invokevirtual 66, 3) := by decide +kernel
theorem dX4_insert_20 : decode cX4_insert 20 = .ok (.istore_n 2, 1) := by decide +kernel
theorem dX4_insert_21 : decode cX4_insert 21 = .ok (.iload_n 2, 1) := by decide +kernel
theorem dX4_insert_22 : decode cX4_insert 22 = .ok (.ifCond .lt 11, 3) := by decide +kernel
theorem dX4_insert_25 : decode cX4_insert 25 = .ok (.aload_n 0, 1) := by decide +kernel
theorem dX4_insert_26 : decode cX4_insert 26 = .ok (.getfield 14, 3) := by decide +kernel
theorem dX4_insert_29 : decode cX4_insert 29 = .ok (.invokevirtual 57, 3) := by decide +kernel
theorem dX4_insert_32 : decode cX4_insert 32 = .ok (.pop, 1) := by decide +kernel
theorem dX4_insert_33 : decode cX4_insert 33 = .ok (.iload_n 2, 1) := by decide +kernel
theorem dX4_insert_34 : decode cX4_insert 34 = .ok (.ireturn, 1) := by decide +kernel
set_option maxRecDepth 20000 in
theorem ggX4_erase_X0_addErasure : GoodIn wsX4_erase wsX0_addErasure := goodIn_r _ [6, 7, 8, 9, 10, 11, 12, 13, 14, 5, 15, 16, 17, 18, 19, 20, 21, 22, 23, 24, 25, 26, 27, 28, 29, 30, 31, 32, 33, 34, 35, 36, 37, 38, 39, 40, 41, 42, 43, 44, 45, 46, 47, 48, 49, 50, 51, 52, 53, 54, 55, 56, 57, 58, 59, 60, 61, 62, 63, 64, 65, 66, 67, 68, 76, 77, 78, 79, 80, 81, 82, 83, 84, 85, 86] (by decide +kernel) (by decide +kernel)
set_option maxRecDepth 20000 in
theorem gX4_erase_X0_addErasure : GoodIn wsX4_erase (wsV RX4 70 RX0 yX0_addErasure wsX0_addErasure) := goodIn_app (goodIn_of _ (by decide +kernel)) ggX4_erase_X0_addErasure
theorem dX4_erase_0 : decode cX4_erase 0 = .ok (.aload_n 0, 1) := by decide +kernel
theorem dX4_erase_1 : decode cX4_erase 1 = .ok (.getfield 28, 3) := by decide +kernel
theorem dX4_erase_4 : decode cX4_erase 4 = .ok (.iload_n 1, 1) := by decide +kernel
theorem dX4_erase_5 : decode cX4_erase 5 = .ok (.iload_n 2, 1) := by decide +kernel
theorem dX4_erase_6 : decode cX4_erase 6 = .ok (.invokevirtual 70, 3) := by decide +kernel
theorem dX4_erase_9 : decode cX4_erase 9 = .ok (.ireturn, 1) := by decide +kernel
theorem dX4_setCursor_0 : decode cX4_setCursor 0 = .ok (.iload_n 1, 1) := by decide +kernel
theorem dX4_setCursor_1 : decode cX4_setCursor 1 = .ok (.ifCond .lt 14, 3) := by decide +kernel
theorem dX4_setCursor_4 : decode cX4_setCursor 4 = .ok (.iload_n 1, 1) := by decide +kernel
theorem dX4_setCursor_5 : decode cX4_setCursor 5 = .ok (.aload_n 0, 1) := by decide +kernel
theorem dX4_setCursor_6 : decode cX4_setCursor 6 = .ok (.getfield 28, 3) := by decide +kernel
theorem dX4_setCursor_9 : decode cX4_setCursor 9 = .ok (.getfield 65, 3) := by decide +kernel
theorem dX4_setCursor_12 : decode cX4_setCursor 12 = .ok (.if_icmp .le 5, 3) := by decide +kernel
theorem dX4_setCursor_15 : decode cX4_setCursor 15 = .ok (.iconst (-1), 1) := by decide +kernel
theorem dX4_setCursor_16 : decode cX4_setCursor 16 = .ok (.ireturn, 1) := by decide +kernel
theorem dX4_setCursor_17 : decode cX4_setCursor 17 = .ok (.aload_n 0, 1) := by decide +kernel
theorem dX4_setCursor_18 : decode cX4_setCursor 18 = .ok (.getfield 28, 3) := by decide +kernel
theorem dX4_setCursor_21 : decode cX4_setCursor 21 = .ok (.getfield 74, 3) := by decide +kernel
theorem dX4_setCursor_24 : decode cX4_setCursor 24 = .ok (.istore_n 2, 1) := by decide +kernel
theorem dX4_setCursor_25 : decode cX4_setCursor 25 = .ok (.aload_n 0, 1) := by decide +kernel
theorem dX4_setCursor_26 : decode cX4_setCursor 26 = .ok (.getfield 28, 3) := by decide +kernel
theorem dX4_setCursor_29 : decode cX4_setCursor 29 = .ok (.iload_n 1, 1) := by decide +kernel
theorem dX4_setCursor_30 : decode cX4_setCursor 30 = .ok (.putfield 74, 3) := by decide +kernel
theorem dX4_setCursor_33 : decode cX4_setCursor 33 = .ok (.iload_n 2, 1) := by decide +kernel
theorem dX4_setCursor_34 : decode cX4_setCursor 34 = .ok (.ireturn, 1) := by decide +kernel
theorem dX4_setPrices_0 : decode cX4_setPrices 0 = .ok (.iload_n 1, 1) := by decide +kernel
theorem dX4_setPrices_1 : decode cX4_setPrices 1 = .ok (.ifCond .lt 19, 3) := by decide +kernel
theorem dX4_setPrices_4 : decode cX4_setPrices 4 = .ok (.iload_n 1, 1) := by decide +kernel
theorem dX4_setPrices_5 : decode cX4_setPrices 5 = .ok (.bipush 9, 2) := by decide +kernel
theorem dX4_setPrices_7 : decode cX4_setPrices 7 = .ok (.if_icmp .gt 13, 3) := by decide +kernel
theorem dX4_setPrices_10 : decode cX4_setPrices 10 = .ok (.iload_n 2, 1) := by decide +kernel
theorem dX4_setPrices_11 : decode cX4_setPrices 11 = .ok (.ifCond .lt 9, 3) := by decide +kernel
theorem dX4_setPrices_14 : decode cX4_setPrices 14 = .ok (.iload_n 2, 1) := by decide +kernel
theorem dX4_setPrices_15 : decode cX4_setPrices 15 = .ok (.bipush 9, 2) := by decide +kernel
theorem dX4_setPrices_17 : decode cX4_setPrices 17 = .ok (.if_icmp .le 5, 3) := by decide +kernel
theorem dX4_setPrices_20 : decode cX4_setPrices 20 = .ok (.iconst (-1), 1) := by decide +kernel
theorem dX4_setPrices_21 : decode cX4_setPrices 21 = .ok (.ireturn, 1) := by decide +kernel
theorem dX4_setPrices_22 : decode cX4_setPrices 22 = .ok (.iload_n 1, 1) := by decide +kernel
theorem dX4_setPrices_23 : decode cX4_setPrices 23 = .ok (.aload_n 0, 1) := by decide +kernel
theorem dX4_setPrices_24 : decode cX4_setPrices 24 = .ok (.getfield 43, 3) := by decide +kernel
theorem dX4_setPrices_27 : decode cX4_setPrices 27 = .ok (.if_icmp .ne 11, 3) := by decide +kernel
theorem dX4_setPrices_30 : decode cX4_setPrices 30 = .ok (.iload_n 2, 1) := by decide +kernel
theorem dX4_setPrices_31 : decode cX4_setPrices 31 = .ok (.aload_n 0, 1) := by decide +kernel
theorem dX4_setPrices_32 : decode cX4_setPrices 32 = .ok (.getfield 47, 3) := by decide +kernel
theorem dX4_setPrices_35 : decode cX4_setPrices 35 = .ok (.if_icmp .eq 7, 3) := by decide +kernel
theorem dX4_setPrices_38 : decode cX4_setPrices 38 = .ok (.iconst 1, 1) := by decide +kernel
theorem dX4_setPrices_39 : decode cX4_setPrices 39 = .ok (.goto 4, 3) := by decide +kernel
theorem dX4_setPrices_42 : decode cX4_setPrices 42 = .ok (.iconst 0, 1) := by decide +kernel
theorem dX4_setPrices_43 : decode cX4_setPrices 43 = .ok (.istore_n 3, 1) := by decide +kernel
theorem dX4_setPrices_44 : decode cX4_setPrices 44 = .ok (.aload_n 0, 1) := by decide +kernel
theorem dX4_setPrices_45 : decode cX4_setPrices 45 = .ok (.iload_n 1, 1) := by decide +kernel
theorem dX4_setPrices_46 : decode cX4_setPrices 46 = .ok (.putfield 43, 3) := by decide +kernel
theorem dX4_setPrices_49 : decode cX4_setPrices 49 = .ok (.aload_n 0, 1) := by decide +kernel
theorem dX4_setPrices_50 : decode cX4_setPrices 50 = .ok (.iload_n 2, 1) := by decide +kernel
theorem dX4_setPrices_51 : decode cX4_setPrices 51 = .ok (.putfield 47, 3) := by decide +kernel
theorem dX4_setPrices_54 : decode cX4_setPrices 54 = .ok (.iload_n 3, 1) := by decide +kernel
theorem dX4_setPrices_55 : decode cX4_setPrices 55 = .ok (.ireturn, 1) := by decide +kernel
set_option maxRecDepth 20000 in
theorem ggX4_character_X0_hasPlace : GoodIn wsX4_character wsX0_hasPlace := goodIn_r _ [6, 7, 22, 23, 24, 25, 26, 27, 28, 29, 30, 31, 32] (by decide +kernel) (by decide +kernel)
set_option maxRecDepth 20000 in
theorem gX4_character_X0_hasPlace : GoodIn wsX4_character (wsV RX4 77 RX0 yX0_hasPlace wsX0_hasPlace) := goodIn_app (goodIn_of _ (by decide +kernel)) ggX4_character_X0_hasPlace
set_option maxRecDepth 20000 in
theorem ggX4_character_X0_codeAt : GoodIn wsX4_character wsX0_codeAt := goodIn_r _ [11, 12, 13, 14, 3, 4, 5, 6, 7, 22, 23, 24, 25, 26, 27, 28, 29, 30, 31, 32] (by decide +kernel) (by decide +kernel)
set_option maxRecDepth 20000 in
theorem gX4_character_X0_codeAt : GoodIn wsX4_character (wsV RX4 80 RX0 yX0_codeAt wsX0_codeAt) := goodIn_app (goodIn_of _ (by decide +kernel)) ggX4_character_X0_codeAt
theorem dX4_character_0 : decode cX4_character 0 = .ok (.iload_n 1, 1) := by decide +kernel
theorem dX4_character_1 : decode cX4_character 1 = .ok (.ifCond .ge 5, 3) := by decide +kernel
theorem dX4_character_4 : decode cX4_character 4 = .ok (.iconst (-1), 1) := by decide +kernel
theorem dX4_character_5 : decode cX4_character 5 = .ok (.ireturn, 1) := by decide +kernel
theorem dX4_character_6 : decode cX4_character 6 = .ok (.aload_n 0, 1) := by decide +kernel
theorem dX4_character_7 : decode cX4_character 7 = .ok (.getfield 28, 3) := by decide +kernel
theorem dX4_character_10 : decode cX4_character 10 = .ok (.iload_n 1, 1) := by decide +kernel
theorem dX4_character_11 : decode cX4_character 11 = .ok (.invokevirtual 77, 3) := by decide +kernel
theorem dX4_character_14 : decode cX4_character 14 = .ok (.ifCond .eq 14, 3) := by decide +kernel
theorem dX4_character_17 : decode cX4_character 17 = .ok (.aload_n 0, 1) := by decide +kernel
theorem dX4_character_18 : decode cX4_character 18 = .ok (.getfield 28, 3) := by decide +kernel
theorem dX4_character_21 : decode cX4_character 21 = .ok (.iload_n 1, 1) := by decide +kernel
theorem dX4_character_22 : decode cX4_character 22 = .ok (.invokevirtual 80, 3) := by decide +kernel
theorem dX4_character_25 : decode cX4_character 25 = .ok (.goto 5, 3) := by decide +kernel
theorem dX4_character_28 : decode cX4_character 28 = .ok (.bipush (-9), 2) := by decide +kernel
theorem dX4_character_30 : decode cX4_character 30 = .ok (.ireturn, 1) := by decide +kernel
set_option maxRecDepth 20000 in
theorem ggX4_author_X0_hasPlace : GoodIn wsX4_author wsX0_hasPlace := goodIn_r _ [6, 7, 33, 34, 35, 36, 37, 38, 39, 40, 41, 42, 43] (by decide +kernel) (by decide +kernel)
set_option maxRecDepth 20000 in
theorem gX4_author_X0_hasPlace : GoodIn wsX4_author (wsV RX4 77 RX0 yX0_hasPlace wsX0_hasPlace) := goodIn_app (goodIn_of _ (by decide +kernel)) ggX4_author_X0_hasPlace
set_option maxRecDepth 20000 in
theorem ggX4_author_X0_ownerAt : GoodIn wsX4_author wsX0_ownerAt := goodIn_r _ [11, 12, 13, 14, 3, 4, 5, 6, 7, 33, 34, 35, 36, 37, 38, 39, 40, 41, 42, 43] (by decide +kernel) (by decide +kernel)
set_option maxRecDepth 20000 in
theorem gX4_author_X0_ownerAt : GoodIn wsX4_author (wsV RX4 84 RX0 yX0_ownerAt wsX0_ownerAt) := goodIn_app (goodIn_of _ (by decide +kernel)) ggX4_author_X0_ownerAt
set_option maxRecDepth 20000 in
theorem ggX4_author_X4_numberOf : GoodIn wsX4_author wsX4_numberOf := goodIn_r _ [18, 19, 20, 21, 22, 23, 24, 25] (by decide +kernel) (by decide +kernel)
set_option maxRecDepth 20000 in
theorem gX4_author_X4_numberOf : GoodIn wsX4_author (va_wsS RX4 87 yX4_numberOf wsX4_numberOf) := goodIn_app (goodIn_of _ (by decide +kernel)) ggX4_author_X4_numberOf
theorem dX4_author_0 : decode cX4_author 0 = .ok (.aload_n 0, 1) := by decide +kernel
theorem dX4_author_1 : decode cX4_author 1 = .ok (.getfield 28, 3) := by decide +kernel
theorem dX4_author_4 : decode cX4_author 4 = .ok (.iload_n 1, 1) := by decide +kernel
theorem dX4_author_5 : decode cX4_author 5 = .ok (.invokevirtual 77, 3) := by decide +kernel
theorem dX4_author_8 : decode cX4_author 8 = .ok (.ifCond .ne 5, 3) := by decide +kernel
theorem dX4_author_11 : decode cX4_author 11 = .ok (.iconst (-1), 1) := by decide +kernel
theorem dX4_author_12 : decode cX4_author 12 = .ok (.ireturn, 1) := by decide +kernel
theorem dX4_author_13 : decode cX4_author 13 = .ok (.aload_n 0, 1) := by decide +kernel
theorem dX4_author_14 : decode cX4_author 14 = .ok (.getfield 28, 3) := by decide +kernel
theorem dX4_author_17 : decode cX4_author 17 = .ok (.iload_n 1, 1) := by decide +kernel
theorem dX4_author_18 : decode cX4_author 18 = .ok (.invokevirtual 84, 3) := by decide +kernel
theorem dX4_author_21 : decode cX4_author 21 = .ok (.istore_n 2, 1) := by decide +kernel
theorem dX4_author_22 : decode cX4_author 22 = .ok (.iload_n 2, 1) := by decide +kernel
theorem dX4_author_23 : decode cX4_author 23 = .ok (.ifCond .ne 8, 3) := by decide +kernel
theorem dX4_author_26 : decode cX4_author 26 = .ok (.bipush (-9), 2) := by decide +kernel
theorem dX4_author_28 : decode cX4_author 28 = .ok (.goto 7, 3) := by decide +kernel
theorem dX4_author_31 : decode cX4_author 31 = .ok (.iload_n 2, 1) := by decide +kernel
theorem dX4_author_32 : decode cX4_author 32 = .ok (.invokestatic 87, 3) := by decide +kernel
theorem dX4_author_35 : decode cX4_author 35 = .ok (.ireturn, 1) := by decide +kernel
set_option maxRecDepth 20000 in
theorem ggX4_count_J6_bitCount_0f7a4 : GoodIn wsX4_count wsJ6_bitCount_0f7a4 := goodIn_r _ [6, 7, 8, 9] (by decide +kernel) (by decide +kernel)
set_option maxRecDepth 20000 in
theorem gX4_count_J6_bitCount_0f7a4 : GoodIn wsX4_count (va_wsS RX4 99 yJ6_bitCount_0f7a4 wsJ6_bitCount_0f7a4) := goodIn_app (goodIn_of _ (by decide +kernel)) ggX4_count_J6_bitCount_0f7a4
set_option maxRecDepth 20000 in
theorem ggX4_count_X0_commutingPairs : GoodIn wsX4_count wsX0_commutingPairs := goodIn_r _ [14, 15, 16, 17, 18, 13, 19, 20, 21, 22, 23, 24, 25, 26, 27, 28, 29, 30, 31, 39, 40, 41, 42, 43, 44, 45, 46, 47, 48, 49] (by decide +kernel) (by decide +kernel)
set_option maxRecDepth 20000 in
theorem gX4_count_X0_commutingPairs : GoodIn wsX4_count (wsV RX4 104 RX0 yX0_commutingPairs wsX0_commutingPairs) := goodIn_app (goodIn_of _ (by decide +kernel)) ggX4_count_X0_commutingPairs
theorem dX4_count_0 : decode cX4_count 0 = .ok (.iload_n 1, 1) := by decide +kernel
theorem dX4_count_1 : decode cX4_count 1 = .ok (.tableswitch 102 0 6 #[43, 51, 59, 67, 78, 86, 94], 43) := by decide +kernel
theorem dX4_count_44 : decode cX4_count 44 = .ok (.aload_n 0, 1) := by decide +kernel
theorem dX4_count_45 : decode cX4_count 45 = .ok (.getfield 28, 3) := by decide +kernel
theorem dX4_count_48 : decode cX4_count 48 = .ok (.getfield 65, 3) := by decide +kernel
theorem dX4_count_51 : decode cX4_count 51 = .ok (.ireturn, 1) := by decide +kernel
theorem dX4_count_52 : decode cX4_count 52 = .ok (.aload_n 0, 1) := by decide +kernel
theorem dX4_count_53 : decode cX4_count 53 = .ok (.getfield 28, 3) := by decide +kernel
theorem dX4_count_56 : decode cX4_count 56 = .ok (.getfield 90, 3) := by decide +kernel
theorem dX4_count_59 : decode cX4_count 59 = .ok (.ireturn, 1) := by decide +kernel
theorem dX4_count_60 : decode cX4_count 60 = .ok (.aload_n 0, 1) := by decide +kernel
theorem dX4_count_61 : decode cX4_count 61 = .ok (.getfield 28, 3) := by decide +kernel
theorem dX4_count_64 : decode cX4_count 64 = .ok (.getfield 93, 3) := by decide +kernel
theorem dX4_count_67 : decode cX4_count 67 = .ok (.ireturn, 1) := by decide +kernel
theorem dX4_count_68 : decode cX4_count 68 = .ok (.aload_n 0, 1) := by decide +kernel
theorem dX4_count_69 : decode cX4_count 69 = .ok (.getfield 28, 3) := by decide +kernel
theorem dX4_count_72 : decode cX4_count 72 = .ok (.getfield 96, 3) := by decide +kernel
theorem dX4_count_75 : decode cX4_count 75 = .ok (.invokestatic 99, 3) := by decide +kernel
theorem dX4_count_78 : decode cX4_count 78 = .ok (.ireturn, 1) := by decide +kernel
theorem dX4_count_79 : decode cX4_count 79 = .ok (.aload_n 0, 1) := by decide +kernel
theorem dX4_count_80 : decode cX4_count 80 = .ok (.getfield 28, 3) := by decide +kernel
theorem dX4_count_83 : decode cX4_count 83 = .ok (.getfield 74, 3) := by decide +kernel
theorem dX4_count_86 : decode cX4_count 86 = .ok (.ireturn, 1) := by decide +kernel
theorem dX4_count_87 : decode cX4_count 87 = .ok (.aload_n 0, 1) := by decide +kernel
theorem dX4_count_88 : decode cX4_count 88 = .ok (.getfield 14, 3) := by decide +kernel
theorem dX4_count_91 : decode cX4_count 91 = .ok (.getfield 54, 3) := by decide +kernel
theorem dX4_count_94 : decode cX4_count 94 = .ok (.ireturn, 1) := by decide +kernel
theorem dX4_count_95 : decode cX4_count 95 = .ok (.aload_n 0, 1) := by decide +kernel
theorem dX4_count_96 : decode cX4_count 96 = .ok (.getfield 28, 3) := by decide +kernel
theorem dX4_count_99 : decode cX4_count 99 = .ok (.invokevirtual 104, 3) := by decide +kernel
theorem dX4_count_102 : decode cX4_count 102 = .ok (.ireturn, 1) := by decide +kernel
theorem dX4_count_103 : decode cX4_count 103 = .ok (.iconst (-1), 1) := by decide +kernel
theorem dX4_count_104 : decode cX4_count 104 = .ok (.ireturn, 1) := by decide +kernel
set_option maxRecDepth 20000 in
theorem ggX4_edit_X0_hasEdit : GoodIn wsX4_edit wsX0_hasEdit := goodIn_r _ [8, 9, 75, 76, 77, 78, 79, 80, 81, 82, 83, 84, 85] (by decide +kernel) (by decide +kernel)
set_option maxRecDepth 20000 in
theorem gX4_edit_X0_hasEdit : GoodIn wsX4_edit (wsV RX4 107 RX0 yX0_hasEdit wsX0_hasEdit) := goodIn_app (goodIn_of _ (by decide +kernel)) ggX4_edit_X0_hasEdit
set_option maxRecDepth 20000 in
theorem ggX4_edit_X4_has : GoodIn wsX4_edit wsX4_has := goodIn_r _ [13] (by decide +kernel) (by decide +kernel)
set_option maxRecDepth 20000 in
theorem gX4_edit_X4_has : GoodIn wsX4_edit (va_wsS RX4 113 yX4_has wsX4_has) := goodIn_app (goodIn_of _ (by decide +kernel)) ggX4_edit_X4_has
set_option maxRecDepth 20000 in
theorem ggX4_edit_X0_sizeOf : GoodIn wsX4_edit wsX0_sizeOf := goodIn_r _ [17, 18, 19, 20, 21, 7, 22, 23, 24, 11, 12, 13, 75, 76, 77, 78, 79, 80, 81, 82, 83, 84, 85] (by decide +kernel) (by decide +kernel)
set_option maxRecDepth 20000 in
theorem gX4_edit_X0_sizeOf : GoodIn wsX4_edit (wsV RX4 117 RX0 yX0_sizeOf wsX0_sizeOf) := goodIn_app (goodIn_of _ (by decide +kernel)) ggX4_edit_X0_sizeOf
set_option maxRecDepth 20000 in
theorem ggX4_edit_X0_placeOf : GoodIn wsX4_edit wsX0_placeOf := goodIn_r _ [28, 18, 29, 19, 20, 21, 7, 22, 23, 24, 11, 12, 13, 30, 31, 32, 33, 34, 35, 36, 37, 75, 76, 77, 78, 79, 80, 81, 82, 83, 84, 85] (by decide +kernel) (by decide +kernel)
set_option maxRecDepth 20000 in
theorem gX4_edit_X0_placeOf : GoodIn wsX4_edit (wsV RX4 120 RX0 yX0_placeOf wsX0_placeOf) := goodIn_app (goodIn_of _ (by decide +kernel)) ggX4_edit_X0_placeOf
set_option maxRecDepth 20000 in
theorem ggX4_edit_X0_priceOf : GoodIn wsX4_edit wsX0_priceOf := goodIn_r _ [41, 29, 42, 43, 44, 45, 46, 47, 48, 49, 50, 51, 52, 53, 54, 26, 27, 7, 28, 18, 19, 20, 21, 22, 23, 24, 11, 12, 13, 30, 31, 32, 33, 34, 35, 36, 37, 75, 76, 77, 78, 79, 80, 81, 82, 83, 84, 85] (by decide +kernel) (by decide +kernel)
set_option maxRecDepth 20000 in
theorem gX4_edit_X0_priceOf : GoodIn wsX4_edit (wsV RX4 123 RX0 yX0_priceOf wsX0_priceOf) := goodIn_app (goodIn_of _ (by decide +kernel)) ggX4_edit_X0_priceOf
set_option maxRecDepth 20000 in
theorem ggX4_edit_X0_basesOf : GoodIn wsX4_edit wsX0_basesOf := goodIn_r _ [58, 59, 60, 5, 6, 7, 8, 9, 75, 76, 77, 78, 79, 80, 81, 82, 83, 84, 85] (by decide +kernel) (by decide +kernel)
set_option maxRecDepth 20000 in
theorem gX4_edit_X0_basesOf : GoodIn wsX4_edit (wsV RX4 127 RX0 yX0_basesOf wsX0_basesOf) := goodIn_app (goodIn_of _ (by decide +kernel)) ggX4_edit_X0_basesOf
set_option maxRecDepth 20000 in
theorem ggX4_edit_X4_single : GoodIn wsX4_edit wsX4_single := goodIn_r _ [63] (by decide +kernel) (by decide +kernel)
set_option maxRecDepth 20000 in
theorem gX4_edit_X4_single : GoodIn wsX4_edit (va_wsS RX4 130 yX4_single wsX4_single) := goodIn_app (goodIn_of _ (by decide +kernel)) ggX4_edit_X4_single
set_option maxRecDepth 20000 in
theorem ggX4_edit_X0_dependentsOf : GoodIn wsX4_edit wsX0_dependentsOf := goodIn_r _ [67, 9, 59, 62, 12, 63, 75, 76, 77, 78, 79, 80, 81, 82, 83, 84, 85] (by decide +kernel) (by decide +kernel)
set_option maxRecDepth 20000 in
theorem gX4_edit_X0_dependentsOf : GoodIn wsX4_edit (wsV RX4 133 RX0 yX0_dependentsOf wsX0_dependentsOf) := goodIn_app (goodIn_of _ (by decide +kernel)) ggX4_edit_X0_dependentsOf
theorem dX4_edit_0 : decode cX4_edit 0 = .ok (.aload_n 0, 1) := by decide +kernel
theorem dX4_edit_1 : decode cX4_edit 1 = .ok (.getfield 28, 3) := by decide +kernel
theorem dX4_edit_4 : decode cX4_edit 4 = .ok (.iload_n 1, 1) := by decide +kernel
theorem dX4_edit_5 : decode cX4_edit 5 = .ok (.invokevirtual 107, 3) := by decide +kernel
theorem dX4_edit_8 : decode cX4_edit 8 = .ok (.ifCond .ne 5, 3) := by decide +kernel
theorem dX4_edit_11 : decode cX4_edit 11 = .ok (.iconst (-1), 1) := by decide +kernel
theorem dX4_edit_12 : decode cX4_edit 12 = .ok (.ireturn, 1) := by decide +kernel
theorem dX4_edit_13 : decode cX4_edit 13 = .ok (.iload_n 2, 1) := by decide +kernel
theorem dX4_edit_14 : decode cX4_edit 14 = .ok (.tableswitch 157 0 6 #[42, 62, 82, 91, 100, 136, 145], 42) := by decide +kernel
theorem dX4_edit_56 : decode cX4_edit 56 = .ok (.aload_n 0, 1) := by decide +kernel
theorem dX4_edit_57 : decode cX4_edit 57 = .ok (.getfield 28, 3) := by decide +kernel
theorem dX4_edit_60 : decode cX4_edit 60 = .ok (.getfield 110, 3) := by decide +kernel
theorem dX4_edit_63 : decode cX4_edit 63 = .ok (.iload_n 1, 1) := by decide +kernel
theorem dX4_edit_64 : decode cX4_edit 64 = .ok (.invokestatic 113, 3) := by decide +kernel
theorem dX4_edit_67 : decode cX4_edit 67 = .ok (.ifCond .eq 7, 3) := by decide +kernel
theorem dX4_edit_70 : decode cX4_edit 70 = .ok (.iconst 1, 1) := by decide +kernel
theorem dX4_edit_71 : decode cX4_edit 71 = .ok (.goto 4, 3) := by decide +kernel
theorem dX4_edit_74 : decode cX4_edit 74 = .ok (.iconst 0, 1) := by decide +kernel
theorem dX4_edit_75 : decode cX4_edit 75 = .ok (.ireturn, 1) := by decide +kernel
theorem dX4_edit_76 : decode cX4_edit 76 = .ok (.aload_n 0, 1) := by decide +kernel
theorem dX4_edit_77 : decode cX4_edit 77 = .ok (.getfield 28, 3) := by decide +kernel
theorem dX4_edit_80 : decode cX4_edit 80 = .ok (.getfield 96, 3) := by decide +kernel
theorem dX4_edit_83 : decode cX4_edit 83 = .ok (.iload_n 1, 1) := by decide +kernel
theorem dX4_edit_84 : decode cX4_edit 84 = .ok (.invokestatic 113, 3) := by decide +kernel
theorem dX4_edit_87 : decode cX4_edit 87 = .ok (.ifCond .eq 7, 3) := by decide +kernel
theorem dX4_edit_90 : decode cX4_edit 90 = .ok (.iconst 1, 1) := by decide +kernel
theorem dX4_edit_91 : decode cX4_edit 91 = .ok (.goto 4, 3) := by decide +kernel
theorem dX4_edit_94 : decode cX4_edit 94 = .ok (.iconst 0, 1) := by decide +kernel
theorem dX4_edit_95 : decode cX4_edit 95 = .ok (.ireturn, 1) := by decide +kernel
theorem dX4_edit_96 : decode cX4_edit 96 = .ok (.aload_n 0, 1) := by decide +kernel
theorem dX4_edit_97 : decode cX4_edit 97 = .ok (.getfield 28, 3) := by decide +kernel
theorem dX4_edit_100 : decode cX4_edit 100 = .ok (.iload_n 1, 1) := by decide +kernel
theorem dX4_edit_101 : decode cX4_edit 101 = .ok (.invokevirtual 117, 3) := by decide +kernel
theorem dX4_edit_104 : decode cX4_edit 104 = .ok (.ireturn, 1) := by decide +kernel
theorem dX4_edit_105 : decode cX4_edit 105 = .ok (.aload_n 0, 1) := by decide +kernel
theorem dX4_edit_106 : decode cX4_edit 106 = .ok (.getfield 28, 3) := by decide +kernel
theorem dX4_edit_109 : decode cX4_edit 109 = .ok (.iload_n 1, 1) := by decide +kernel
theorem dX4_edit_110 : decode cX4_edit 110 = .ok (.invokevirtual 120, 3) := by decide +kernel
theorem dX4_edit_113 : decode cX4_edit 113 = .ok (.ireturn, 1) := by decide +kernel
theorem dX4_edit_114 : decode cX4_edit 114 = .ok (.aload_n 0, 1) := by decide +kernel
theorem dX4_edit_115 : decode cX4_edit 115 = .ok (.getfield 28, 3) := by decide +kernel
theorem dX4_edit_118 : decode cX4_edit 118 = .ok (.getfield 96, 3) := by decide +kernel
theorem dX4_edit_121 : decode cX4_edit 121 = .ok (.iload_n 1, 1) := by decide +kernel
theorem dX4_edit_122 : decode cX4_edit 122 = .ok (.invokestatic 113, 3) := by decide +kernel
theorem dX4_edit_125 : decode cX4_edit 125 = .ok (.ifCond .eq 22, 3) := by decide +kernel
theorem dX4_edit_128 : decode cX4_edit 128 = .ok (.aload_n 0, 1) := by decide +kernel
theorem dX4_edit_129 : decode cX4_edit 129 = .ok (.getfield 28, 3) := by decide +kernel
theorem dX4_edit_132 : decode cX4_edit 132 = .ok (.iload_n 1, 1) := by decide +kernel
theorem dX4_edit_133 : decode cX4_edit 133 = .ok (.aload_n 0, 1) := by decide +kernel
theorem dX4_edit_134 : decode cX4_edit 134 = .ok (.getfield 43, 3) := by decide +kernel
theorem dX4_edit_137 : decode cX4_edit 137 = .ok (.aload_n 0, 1) := by decide +kernel
theorem dX4_edit_138 : decode cX4_edit 138 = .ok (.getfield 47, 3) := by decide +kernel
theorem dX4_edit_141 : decode cX4_edit 141 = .ok (.invokevirtual 123, 3) := by decide +kernel
theorem dX4_edit_144 : decode cX4_edit 144 = .ok (.goto 5, 3) := by decide +kernel
theorem dX4_edit_147 : decode cX4_edit 147 = .ok (.bipush (-9), 2) := by decide +kernel
theorem dX4_edit_149 : decode cX4_edit 149 = .ok (.ireturn, 1) := by decide +kernel
theorem dX4_edit_150 : decode cX4_edit 150 = .ok (.aload_n 0, 1) := by decide +kernel
theorem dX4_edit_151 : decode cX4_edit 151 = .ok (.getfield 28, 3) := by decide +kernel
theorem dX4_edit_154 : decode cX4_edit 154 = .ok (.iload_n 1, 1) := by decide +kernel
theorem dX4_edit_155 : decode cX4_edit 155 = .ok (.invokevirtual 127, 3) := by decide +kernel
theorem dX4_edit_158 : decode cX4_edit 158 = .ok (.ireturn, 1) := by decide +kernel
theorem dX4_edit_159 : decode cX4_edit 159 = .ok (.aload_n 0, 1) := by decide +kernel
theorem dX4_edit_160 : decode cX4_edit 160 = .ok (.getfield 28, 3) := by decide +kernel
theorem dX4_edit_163 : decode cX4_edit 163 = .ok (.iload_n 1, 1) := by decide +kernel
theorem dX4_edit_164 : decode cX4_edit 164 = .ok (.invokestatic 130, 3) := by decide +kernel
theorem dX4_edit_167 : decode cX4_edit 167 = .ok (.invokevirtual 133, 3) := by decide +kernel
theorem dX4_edit_170 : decode cX4_edit 170 = .ok (.ireturn, 1) := by decide +kernel
theorem dX4_edit_171 : decode cX4_edit 171 = .ok (.iconst (-1), 1) := by decide +kernel
theorem dX4_edit_172 : decode cX4_edit 172 = .ok (.ireturn, 1) := by decide +kernel
set_option maxRecDepth 20000 in
theorem ggX4_commute_X0_hasEdit : GoodIn wsX4_commute wsX0_hasEdit := goodIn_r _ [6, 7, 28, 29, 30, 31, 32, 33, 34, 35, 36, 37, 38] (by decide +kernel) (by decide +kernel)
set_option maxRecDepth 20000 in
theorem gX4_commute_X0_hasEdit : GoodIn wsX4_commute (wsV RX4 107 RX0 yX0_hasEdit wsX0_hasEdit) := goodIn_app (goodIn_of _ (by decide +kernel)) ggX4_commute_X0_hasEdit
set_option maxRecDepth 20000 in
theorem ggX4_commute_X0_areFree : GoodIn wsX4_commute wsX0_areFree := goodIn_r _ [11, 12, 13, 14, 5, 15, 16, 17, 3, 4, 6, 7, 18, 19, 20, 28, 29, 30, 31, 32, 33, 34, 35, 36, 37, 38] (by decide +kernel) (by decide +kernel)
set_option maxRecDepth 20000 in
theorem gX4_commute_X0_areFree : GoodIn wsX4_commute (wsV RX4 136 RX0 yX0_areFree wsX0_areFree) := goodIn_app (goodIn_of _ (by decide +kernel)) ggX4_commute_X0_areFree
theorem dX4_commute_0 : decode cX4_commute 0 = .ok (.aload_n 0, 1) := by decide +kernel
theorem dX4_commute_1 : decode cX4_commute 1 = .ok (.getfield 28, 3) := by decide +kernel
theorem dX4_commute_4 : decode cX4_commute 4 = .ok (.iload_n 1, 1) := by decide +kernel
theorem dX4_commute_5 : decode cX4_commute 5 = .ok (.invokevirtual 107, 3) := by decide +kernel
theorem dX4_commute_8 : decode cX4_commute 8 = .ok (.ifCond .eq 19, 3) := by decide +kernel
theorem dX4_commute_11 : decode cX4_commute 11 = .ok (.aload_n 0, 1) := by decide +kernel
theorem dX4_commute_12 : decode cX4_commute 12 = .ok (.getfield 28, 3) := by decide +kernel
theorem dX4_commute_15 : decode cX4_commute 15 = .ok (.iload_n 2, 1) := by decide +kernel
theorem dX4_commute_16 : decode cX4_commute 16 = .ok (.invokevirtual 107, 3) := by decide +kernel
theorem dX4_commute_19 : decode cX4_commute 19 = .ok (.ifCond .eq 8, 3) := by decide +kernel
theorem dX4_commute_22 : decode cX4_commute 22 = .ok (.iload_n 1, 1) := by decide +kernel
theorem dX4_commute_23 : decode cX4_commute 23 = .ok (.iload_n 2, 1) := by decide +kernel
theorem dX4_commute_24 : decode cX4_commute 24 = .ok (.if_icmp .ne 5, 3) := by decide +kernel
theorem dX4_commute_27 : decode cX4_commute 27 = .ok (.iconst (-1), 1) := by decide +kernel
theorem dX4_commute_28 : decode cX4_commute 28 = .ok (.ireturn, 1) := by decide +kernel
theorem dX4_commute_29 : decode cX4_commute 29 = .ok (.aload_n 0, 1) := by decide +kernel
theorem dX4_commute_30 : decode cX4_commute 30 = .ok (.getfield 28, 3) := by decide +kernel
theorem dX4_commute_33 : decode cX4_commute 33 = .ok (.iload_n 1, 1) := by decide +kernel
theorem dX4_commute_34 : decode cX4_commute 34 = .ok (.iload_n 2, 1) := by decide +kernel
theorem dX4_commute_35 : decode cX4_commute 35 = .ok (.invokevirtual 136, 3) := by decide +kernel
theorem dX4_commute_38 : decode cX4_commute 38 = .ok (.ifCond .eq 7, 3) := by decide +kernel
theorem dX4_commute_41 : decode cX4_commute 41 = .ok (.iconst 1, 1) := by decide +kernel
theorem dX4_commute_42 : decode cX4_commute 42 = .ok (.goto 4, 3) := by decide +kernel
theorem dX4_commute_45 : decode cX4_commute 45 = .ok (.iconst 0, 1) := by decide +kernel
theorem dX4_commute_46 : decode cX4_commute 46 = .ok (.ireturn, 1) := by decide +kernel
set_option maxRecDepth 20000 in
theorem ggX4_closure_X0_hasEdit : GoodIn wsX4_closure wsX0_hasEdit := goodIn_r _ [6, 7, 32, 33, 34, 35, 36, 37, 38, 39, 40, 41, 42] (by decide +kernel) (by decide +kernel)
set_option maxRecDepth 20000 in
theorem gX4_closure_X0_hasEdit : GoodIn wsX4_closure (wsV RX4 107 RX0 yX0_hasEdit wsX0_hasEdit) := goodIn_app (goodIn_of _ (by decide +kernel)) ggX4_closure_X0_hasEdit
set_option maxRecDepth 20000 in
theorem ggX4_closure_X4_has : GoodIn wsX4_closure wsX4_has := goodIn_r _ [11] (by decide +kernel) (by decide +kernel)
set_option maxRecDepth 20000 in
theorem gX4_closure_X4_has : GoodIn wsX4_closure (va_wsS RX4 113 yX4_has wsX4_has) := goodIn_app (goodIn_of _ (by decide +kernel)) ggX4_closure_X4_has
set_option maxRecDepth 20000 in
theorem ggX4_closure_X4_single : GoodIn wsX4_closure wsX4_single := goodIn_r _ [14] (by decide +kernel) (by decide +kernel)
set_option maxRecDepth 20000 in
theorem gX4_closure_X4_single : GoodIn wsX4_closure (va_wsS RX4 130 yX4_single wsX4_single) := goodIn_app (goodIn_of _ (by decide +kernel)) ggX4_closure_X4_single
set_option maxRecDepth 20000 in
theorem ggX4_closure_X0_withActiveDependents : GoodIn wsX4_closure wsX0_withActiveDependents := goodIn_r _ [18, 19, 20, 21, 22, 5, 23, 7, 24, 13, 10, 14, 32, 33, 34, 35, 36, 37, 38, 39, 40, 41, 42] (by decide +kernel) (by decide +kernel)
set_option maxRecDepth 20000 in
theorem gX4_closure_X0_withActiveDependents : GoodIn wsX4_closure (wsV RX4 139 RX0 yX0_withActiveDependents wsX0_withActiveDependents) := goodIn_app (goodIn_of _ (by decide +kernel)) ggX4_closure_X0_withActiveDependents
theorem dX4_closure_0 : decode cX4_closure 0 = .ok (.aload_n 0, 1) := by decide +kernel
theorem dX4_closure_1 : decode cX4_closure 1 = .ok (.getfield 28, 3) := by decide +kernel
theorem dX4_closure_4 : decode cX4_closure 4 = .ok (.iload_n 1, 1) := by decide +kernel
theorem dX4_closure_5 : decode cX4_closure 5 = .ok (.invokevirtual 107, 3) := by decide +kernel
theorem dX4_closure_8 : decode cX4_closure 8 = .ok (.ifCond .ne 5, 3) := by decide +kernel
theorem dX4_closure_11 : decode cX4_closure 11 = .ok (.iconst (-1), 1) := by decide +kernel
theorem dX4_closure_12 : decode cX4_closure 12 = .ok (.ireturn, 1) := by decide +kernel
theorem dX4_closure_13 : decode cX4_closure 13 = .ok (.aload_n 0, 1) := by decide +kernel
theorem dX4_closure_14 : decode cX4_closure 14 = .ok (.getfield 28, 3) := by decide +kernel
theorem dX4_closure_17 : decode cX4_closure 17 = .ok (.getfield 96, 3) := by decide +kernel
theorem dX4_closure_20 : decode cX4_closure 20 = .ok (.iload_n 1, 1) := by decide +kernel
theorem dX4_closure_21 : decode cX4_closure 21 = .ok (.invokestatic 113, 3) := by decide +kernel
theorem dX4_closure_24 : decode cX4_closure 24 = .ok (.ifCond .ne 6, 3) := by decide +kernel
theorem dX4_closure_27 : decode cX4_closure 27 = .ok (.bipush (-2), 2) := by decide +kernel
theorem dX4_closure_29 : decode cX4_closure 29 = .ok (.ireturn, 1) := by decide +kernel
theorem dX4_closure_30 : decode cX4_closure 30 = .ok (.aload_n 0, 1) := by decide +kernel
theorem dX4_closure_31 : decode cX4_closure 31 = .ok (.getfield 28, 3) := by decide +kernel
theorem dX4_closure_34 : decode cX4_closure 34 = .ok (.iload_n 1, 1) := by decide +kernel
theorem dX4_closure_35 : decode cX4_closure 35 = .ok (.invokestatic 130, 3) := by decide +kernel
theorem dX4_closure_38 : decode cX4_closure 38 = .ok (.invokevirtual 139, 3) := by decide +kernel
theorem dX4_closure_41 : decode cX4_closure 41 = .ok (.ireturn, 1) := by decide +kernel
set_option maxRecDepth 20000 in
theorem ggX4_price_X4_refusalToTakeBack : GoodIn wsX4_price wsX4_refusalToTakeBack := goodIn_r _ [8, 1, 9, 10, 11, 12, 13, 14, 15, 16, 17, 18, 19, 20, 21, 22, 23, 24, 25, 7, 26, 68, 69, 70, 71, 72, 73, 74, 75, 76, 77, 78, 79, 80, 81, 82, 83, 84, 85] (by decide +kernel) (by decide +kernel)
set_option maxRecDepth 20000 in
theorem gX4_price_X4_refusalToTakeBack : GoodIn wsX4_price (wsV RX4 142 RX4 yX4_refusalToTakeBack wsX4_refusalToTakeBack) := goodIn_app (goodIn_of _ (by decide +kernel)) ggX4_price_X4_refusalToTakeBack
set_option maxRecDepth 20000 in
theorem ggX4_price_X0_priceOfSet : GoodIn wsX4_price wsX0_priceOfSet := goodIn_r _ [30, 14, 31, 7, 32, 33, 34, 35, 12, 36, 19, 37, 38, 39, 40, 41, 42, 43, 44, 45, 46, 47, 48, 49, 50, 51, 52, 53, 54, 55, 56, 57, 58, 59, 60, 61, 62, 63, 64, 65, 66, 67, 75, 76, 77, 78, 79, 80, 81, 82, 83, 84, 85] (by decide +kernel) (by decide +kernel)
set_option maxRecDepth 20000 in
theorem gX4_price_X0_priceOfSet : GoodIn wsX4_price (wsV RX4 145 RX0 yX0_priceOfSet wsX0_priceOfSet) := goodIn_app (goodIn_of _ (by decide +kernel)) ggX4_price_X0_priceOfSet
theorem dX4_price_0 : decode cX4_price 0 = .ok (.aload_n 0, 1) := by decide +kernel
theorem dX4_price_1 : decode cX4_price 1 = .ok (.iload_n 1, 1) := by decide +kernel
theorem dX4_price_2 : decode cX4_price 2 = .ok (.invokevirtual 142, 3) := by decide +kernel
theorem dX4_price_5 : decode cX4_price 5 = .ok (.istore_n 2, 1) := by decide +kernel
theorem dX4_price_6 : decode cX4_price 6 = .ok (.iload_n 2, 1) := by decide +kernel
theorem dX4_price_7 : decode cX4_price 7 = .ok (.ifCond .ge 7, 3) := by decide +kernel
theorem dX4_price_10 : decode cX4_price 10 = .ok (.iload_n 2, 1) := by decide +kernel
theorem dX4_price_11 : decode cX4_price 11 = .ok (.goto 19, 3) := by decide +kernel
theorem dX4_price_14 : decode cX4_price 14 = .ok (.aload_n 0, 1) := by decide +kernel
theorem dX4_price_15 : decode cX4_price 15 = .ok (.getfield 28, 3) := by decide +kernel
theorem dX4_price_18 : decode cX4_price 18 = .ok (.iload_n 1, 1) := by decide +kernel
theorem dX4_price_19 : decode cX4_price 19 = .ok (.aload_n 0, 1) := by decide +kernel
theorem dX4_price_20 : decode cX4_price 20 = .ok (.getfield 43, 3) := by decide +kernel
theorem dX4_price_23 : decode cX4_price 23 = .ok (.aload_n 0, 1) := by decide +kernel
theorem dX4_price_24 : decode cX4_price 24 = .ok (.getfield 47, 3) := by decide +kernel
theorem dX4_price_27 : decode cX4_price 27 = .ok (.invokevirtual 145, 3) := by decide +kernel
theorem dX4_price_30 : decode cX4_price 30 = .ok (.ireturn, 1) := by decide +kernel
set_option maxRecDepth 20000 in
theorem ggX4_takeBack_X4_refusalToTakeBack : GoodIn wsX4_takeBack wsX4_refusalToTakeBack := goodIn_r _ [6, 1, 7, 8, 9, 10, 11, 12, 13, 14, 15, 16, 17, 18, 19, 20, 21, 22, 23, 5, 24, 51, 52, 53, 54, 55, 56, 57, 58, 59, 60, 61, 62, 63, 64, 65, 66, 67, 68] (by decide +kernel) (by decide +kernel)
set_option maxRecDepth 20000 in
theorem gX4_takeBack_X4_refusalToTakeBack : GoodIn wsX4_takeBack (wsV RX4 142 RX4 yX4_refusalToTakeBack wsX4_refusalToTakeBack) := goodIn_app (goodIn_of _ (by decide +kernel)) ggX4_takeBack_X4_refusalToTakeBack
set_option maxRecDepth 20000 in
theorem ggX4_takeBack_X0_switchTo : GoodIn wsX4_takeBack wsX0_switchTo := goodIn_r _ [28, 29, 17, 30, 31, 32, 33, 10, 34, 35, 36, 37, 38, 39, 40, 41, 42, 43, 44, 45, 46, 47, 48, 49, 50, 58, 59, 60, 61, 62, 63, 64, 65, 66, 67, 68] (by decide +kernel) (by decide +kernel)
set_option maxRecDepth 20000 in
theorem gX4_takeBack_X0_switchTo : GoodIn wsX4_takeBack (wsV RX4 148 RX0 yX0_switchTo wsX0_switchTo) := goodIn_app (goodIn_of _ (by decide +kernel)) ggX4_takeBack_X0_switchTo
theorem dX4_takeBack_0 : decode cX4_takeBack 0 = .ok (.iload_n 1, 1) := by decide +kernel
theorem dX4_takeBack_1 : decode cX4_takeBack 1 = .ok (.ifCond .ne 5, 3) := by decide +kernel
theorem dX4_takeBack_4 : decode cX4_takeBack 4 = .ok (.iconst (-1), 1) := by decide +kernel
theorem dX4_takeBack_5 : decode cX4_takeBack 5 = .ok (.ireturn, 1) := by decide +kernel
theorem dX4_takeBack_6 : decode cX4_takeBack 6 = .ok (.aload_n 0, 1) := by decide +kernel
theorem dX4_takeBack_7 : decode cX4_takeBack 7 = .ok (.iload_n 1, 1) := by decide +kernel
theorem dX4_takeBack_8 : decode cX4_takeBack 8 = .ok (.invokevirtual 142, 3) := by decide +kernel
theorem dX4_takeBack_11 : decode cX4_takeBack 11 = .ok (.istore_n 2, 1) := by decide +kernel
theorem dX4_takeBack_12 : decode cX4_takeBack 12 = .ok (.iload_n 2, 1) := by decide +kernel
theorem dX4_takeBack_13 : decode cX4_takeBack 13 = .ok (.ifCond .ge 7, 3) := by decide +kernel
theorem dX4_takeBack_16 : decode cX4_takeBack 16 = .ok (.iload_n 2, 1) := by decide +kernel
theorem dX4_takeBack_17 : decode cX4_takeBack 17 = .ok (.goto 21, 3) := by decide +kernel
theorem dX4_takeBack_20 : decode cX4_takeBack 20 = .ok (.aload_n 0, 1) := by decide +kernel
theorem dX4_takeBack_21 : decode cX4_takeBack 21 = .ok (.getfield 28, 3) := by decide +kernel
theorem dX4_takeBack_24 : decode cX4_takeBack 24 = .ok (.aload_n 0, 1) := by decide +kernel
theorem dX4_takeBack_25 : decode cX4_takeBack 25 = .ok (.getfield 28, 3) := by decide +kernel
theorem dX4_takeBack_28 : decode cX4_takeBack 28 = .ok (.getfield 96, 3) := by decide +kernel
theorem dX4_takeBack_31 : decode cX4_takeBack 31 = .ok (.iload_n 1, 1) := by decide +kernel
theorem dX4_takeBack_32 : decode cX4_takeBack 32 = .ok (.iconst (-1), 1) := by decide +kernel
theorem dX4_takeBack_33 : decode cX4_takeBack 33 = .ok (.ixor, 1) := by decide +kernel
theorem dX4_takeBack_34 : decode cX4_takeBack 34 = .ok (.iand, 1) := by decide +kernel
theorem dX4_takeBack_35 : decode cX4_takeBack 35 = .ok (.invokevirtual 148, 3) := by decide +kernel
theorem dX4_takeBack_38 : decode cX4_takeBack 38 = .ok (.ireturn, 1) := by decide +kernel
set_option maxRecDepth 20000 in
theorem ggX4_bringBack_X0_hasEdits : GoodIn wsX4_bringBack wsX0_hasEdits := goodIn_r _ [6, 7, 50, 51, 52, 53, 54, 55, 56, 57, 58, 59, 60] (by decide +kernel) (by decide +kernel)
set_option maxRecDepth 20000 in
theorem gX4_bringBack_X0_hasEdits : GoodIn wsX4_bringBack (wsV RX4 151 RX0 yX0_hasEdits wsX0_hasEdits) := goodIn_app (goodIn_of _ (by decide +kernel)) ggX4_bringBack_X0_hasEdits
set_option maxRecDepth 20000 in
theorem ggX4_bringBack_X0_canBringBack : GoodIn wsX4_bringBack wsX0_canBringBack := goodIn_r _ [11, 7, 12, 13, 14, 15, 16, 50, 51, 52, 53, 54, 55, 56, 57, 58, 59, 60] (by decide +kernel) (by decide +kernel)
set_option maxRecDepth 20000 in
theorem gX4_bringBack_X0_canBringBack : GoodIn wsX4_bringBack (wsV RX4 154 RX0 yX0_canBringBack wsX0_canBringBack) := goodIn_app (goodIn_of _ (by decide +kernel)) ggX4_bringBack_X0_canBringBack
set_option maxRecDepth 20000 in
theorem ggX4_bringBack_X0_switchTo : GoodIn wsX4_bringBack wsX0_switchTo := goodIn_r _ [20, 21, 13, 22, 23, 24, 25, 5, 26, 27, 28, 29, 30, 31, 32, 33, 34, 35, 36, 37, 38, 39, 40, 41, 42, 50, 51, 52, 53, 54, 55, 56, 57, 58, 59, 60] (by decide +kernel) (by decide +kernel)
set_option maxRecDepth 20000 in
theorem gX4_bringBack_X0_switchTo : GoodIn wsX4_bringBack (wsV RX4 148 RX0 yX0_switchTo wsX0_switchTo) := goodIn_app (goodIn_of _ (by decide +kernel)) ggX4_bringBack_X0_switchTo
theorem dX4_bringBack_0 : decode cX4_bringBack 0 = .ok (.iload_n 1, 1) := by decide +kernel
theorem dX4_bringBack_1 : decode cX4_bringBack 1 = .ok (.ifCond .eq 14, 3) := by decide +kernel
theorem dX4_bringBack_4 : decode cX4_bringBack 4 = .ok (.aload_n 0, 1) := by decide +kernel
theorem dX4_bringBack_5 : decode cX4_bringBack 5 = .ok (.getfield 28, 3) := by decide +kernel
theorem dX4_bringBack_8 : decode cX4_bringBack 8 = .ok (.iload_n 1, 1) := by decide +kernel
theorem dX4_bringBack_9 : decode cX4_bringBack 9 = .ok (.invokevirtual 151, 3) := by decide +kernel
theorem dX4_bringBack_12 : decode cX4_bringBack 12 = .ok (.ifCond .ne 5, 3) := by decide +kernel
theorem dX4_bringBack_15 : decode cX4_bringBack 15 = .ok (.iconst (-1), 1) := by decide +kernel
theorem dX4_bringBack_16 : decode cX4_bringBack 16 = .ok (.ireturn, 1) := by decide +kernel
theorem dX4_bringBack_17 : decode cX4_bringBack 17 = .ok (.aload_n 0, 1) := by decide +kernel
theorem dX4_bringBack_18 : decode cX4_bringBack 18 = .ok (.getfield 28, 3) := by decide +kernel
theorem dX4_bringBack_21 : decode cX4_bringBack 21 = .ok (.iload_n 1, 1) := by decide +kernel
theorem dX4_bringBack_22 : decode cX4_bringBack 22 = .ok (.invokevirtual 154, 3) := by decide +kernel
theorem dX4_bringBack_25 : decode cX4_bringBack 25 = .ok (.ifCond .ne 6, 3) := by decide +kernel
theorem dX4_bringBack_28 : decode cX4_bringBack 28 = .ok (.bipush (-2), 2) := by decide +kernel
theorem dX4_bringBack_30 : decode cX4_bringBack 30 = .ok (.ireturn, 1) := by decide +kernel
theorem dX4_bringBack_31 : decode cX4_bringBack 31 = .ok (.aload_n 0, 1) := by decide +kernel
theorem dX4_bringBack_32 : decode cX4_bringBack 32 = .ok (.getfield 28, 3) := by decide +kernel
theorem dX4_bringBack_35 : decode cX4_bringBack 35 = .ok (.aload_n 0, 1) := by decide +kernel
theorem dX4_bringBack_36 : decode cX4_bringBack 36 = .ok (.getfield 28, 3) := by decide +kernel
theorem dX4_bringBack_39 : decode cX4_bringBack 39 = .ok (.getfield 96, 3) := by decide +kernel
theorem dX4_bringBack_42 : decode cX4_bringBack 42 = .ok (.iload_n 1, 1) := by decide +kernel
theorem dX4_bringBack_43 : decode cX4_bringBack 43 = .ok (.ior, 1) := by decide +kernel
theorem dX4_bringBack_44 : decode cX4_bringBack 44 = .ok (.invokevirtual 148, 3) := by decide +kernel
theorem dX4_bringBack_47 : decode cX4_bringBack 47 = .ok (.ireturn, 1) := by decide +kernel
set_option maxRecDepth 20000 in
theorem ggX4_carried_X0_hasPlace : GoodIn wsX4_carried wsX0_hasPlace := goodIn_r _ [6, 7, 54, 55, 56, 57, 58, 59, 60, 61, 62, 63, 64] (by decide +kernel) (by decide +kernel)
set_option maxRecDepth 20000 in
theorem gX4_carried_X0_hasPlace : GoodIn wsX4_carried (wsV RX4 77 RX0 yX0_hasPlace wsX0_hasPlace) := goodIn_app (goodIn_of _ (by decide +kernel)) ggX4_carried_X0_hasPlace
set_option maxRecDepth 20000 in
theorem ggX4_carried_X4_refusalToTakeBack : GoodIn wsX4_carried wsX4_refusalToTakeBack := goodIn_r _ [12, 1, 13, 14, 15, 5, 16, 17, 18, 19, 20, 21, 22, 23, 24, 25, 26, 27, 28, 11, 29, 47, 48, 49, 50, 51, 52, 53, 54, 55, 56, 57, 58, 59, 60, 61, 62, 63, 64] (by decide +kernel) (by decide +kernel)
set_option maxRecDepth 20000 in
theorem gX4_carried_X4_refusalToTakeBack : GoodIn wsX4_carried (wsV RX4 142 RX4 yX4_refusalToTakeBack wsX4_refusalToTakeBack) := goodIn_app (goodIn_of _ (by decide +kernel)) ggX4_carried_X4_refusalToTakeBack
set_option maxRecDepth 20000 in
theorem ggX4_carried_X0_placeAfter : GoodIn wsX4_carried wsX0_placeAfter := goodIn_r _ [33, 34, 35, 3, 4, 5, 6, 7, 36, 37, 38, 39, 40, 41, 42, 43, 44, 45, 46, 54, 55, 56, 57, 58, 59, 60, 61, 62, 63, 64] (by decide +kernel) (by decide +kernel)
set_option maxRecDepth 20000 in
theorem gX4_carried_X0_placeAfter : GoodIn wsX4_carried (wsV RX4 157 RX0 yX0_placeAfter wsX0_placeAfter) := goodIn_app (goodIn_of _ (by decide +kernel)) ggX4_carried_X0_placeAfter
theorem dX4_carried_0 : decode cX4_carried 0 = .ok (.aload_n 0, 1) := by decide +kernel
theorem dX4_carried_1 : decode cX4_carried 1 = .ok (.getfield 28, 3) := by decide +kernel
theorem dX4_carried_4 : decode cX4_carried 4 = .ok (.iload_n 2, 1) := by decide +kernel
theorem dX4_carried_5 : decode cX4_carried 5 = .ok (.invokevirtual 77, 3) := by decide +kernel
theorem dX4_carried_8 : decode cX4_carried 8 = .ok (.ifCond .ne 5, 3) := by decide +kernel
theorem dX4_carried_11 : decode cX4_carried 11 = .ok (.iconst (-1), 1) := by decide +kernel
theorem dX4_carried_12 : decode cX4_carried 12 = .ok (.ireturn, 1) := by decide +kernel
theorem dX4_carried_13 : decode cX4_carried 13 = .ok (.aload_n 0, 1) := by decide +kernel
theorem dX4_carried_14 : decode cX4_carried 14 = .ok (.iload_n 1, 1) := by decide +kernel
theorem dX4_carried_15 : decode cX4_carried 15 = .ok (.invokevirtual 142, 3) := by decide +kernel
theorem dX4_carried_18 : decode cX4_carried 18 = .ok (.istore_n 3, 1) := by decide +kernel
theorem dX4_carried_19 : decode cX4_carried 19 = .ok (.iload_n 3, 1) := by decide +kernel
theorem dX4_carried_20 : decode cX4_carried 20 = .ok (.ifCond .ge 7, 3) := by decide +kernel
theorem dX4_carried_23 : decode cX4_carried 23 = .ok (.iload_n 3, 1) := by decide +kernel
theorem dX4_carried_24 : decode cX4_carried 24 = .ok (.goto 22, 3) := by decide +kernel
theorem dX4_carried_27 : decode cX4_carried 27 = .ok (.aload_n 0, 1) := by decide +kernel
theorem dX4_carried_28 : decode cX4_carried 28 = .ok (.getfield 28, 3) := by decide +kernel
theorem dX4_carried_31 : decode cX4_carried 31 = .ok (.iload_n 2, 1) := by decide +kernel
theorem dX4_carried_32 : decode cX4_carried 32 = .ok (.aload_n 0, 1) := by decide +kernel
theorem dX4_carried_33 : decode cX4_carried 33 = .ok (.getfield 28, 3) := by decide +kernel
theorem dX4_carried_36 : decode cX4_carried 36 = .ok (.getfield 96, 3) := by decide +kernel
theorem dX4_carried_39 : decode cX4_carried 39 = .ok (.iload_n 1, 1) := by decide +kernel
theorem dX4_carried_40 : decode cX4_carried 40 = .ok (.iconst (-1), 1) := by decide +kernel
theorem dX4_carried_41 : decode cX4_carried 41 = .ok (.ixor, 1) := by decide +kernel
theorem dX4_carried_42 : decode cX4_carried 42 = .ok (.iand, 1) := by decide +kernel
theorem dX4_carried_43 : decode cX4_carried 43 = .ok (.invokevirtual 157, 3) := by decide +kernel
theorem dX4_carried_46 : decode cX4_carried 46 = .ok (.ireturn, 1) := by decide +kernel
set_option maxRecDepth 20000 in
theorem ggX4_loose_X0_looseEdits : GoodIn wsX4_loose wsX0_looseEdits := goodIn_r _ [6, 7, 8, 9, 10, 11, 12, 13, 5, 14, 15, 16, 17, 18, 19, 20, 28, 29, 30, 31, 32, 33, 34, 35, 36, 37, 38] (by decide +kernel) (by decide +kernel)
set_option maxRecDepth 20000 in
theorem gX4_loose_X0_looseEdits : GoodIn wsX4_loose (wsV RX4 160 RX0 yX0_looseEdits wsX0_looseEdits) := goodIn_app (goodIn_of _ (by decide +kernel)) ggX4_loose_X0_looseEdits
theorem dX4_loose_0 : decode cX4_loose 0 = .ok (.aload_n 0, 1) := by decide +kernel
theorem dX4_loose_1 : decode cX4_loose 1 = .ok (.getfield 28, 3) := by decide +kernel
theorem dX4_loose_4 : decode cX4_loose 4 = .ok (.invokevirtual 160, 3) := by decide +kernel
theorem dX4_loose_7 : decode cX4_loose 7 = .ok (.ireturn, 1) := by decide +kernel
set_option maxRecDepth 20000 in
theorem ggX4_opening_X0_hasEdit : GoodIn wsX4_opening wsX0_hasEdit := goodIn_r _ [6, 7, 28, 29, 30, 31, 32, 33, 34, 35, 36, 37, 38] (by decide +kernel) (by decide +kernel)
set_option maxRecDepth 20000 in
theorem gX4_opening_X0_hasEdit : GoodIn wsX4_opening (wsV RX4 107 RX0 yX0_hasEdit wsX0_hasEdit) := goodIn_app (goodIn_of _ (by decide +kernel)) ggX4_opening_X0_hasEdit
set_option maxRecDepth 20000 in
theorem ggX4_opening_X4_has : GoodIn wsX4_opening wsX4_has := goodIn_r _ [11] (by decide +kernel) (by decide +kernel)
set_option maxRecDepth 20000 in
theorem gX4_opening_X4_has : GoodIn wsX4_opening (va_wsS RX4 113 yX4_has wsX4_has) := goodIn_app (goodIn_of _ (by decide +kernel)) ggX4_opening_X4_has
set_option maxRecDepth 20000 in
theorem ggX4_opening_X4_single : GoodIn wsX4_opening wsX4_single := goodIn_r _ [14] (by decide +kernel) (by decide +kernel)
set_option maxRecDepth 20000 in
theorem gX4_opening_X4_single : GoodIn wsX4_opening (va_wsS RX4 130 yX4_single wsX4_single) := goodIn_app (goodIn_of _ (by decide +kernel)) ggX4_opening_X4_single
set_option maxRecDepth 20000 in
theorem ggX4_opening_X0_basesOf : GoodIn wsX4_opening wsX0_basesOf := goodIn_r _ [18, 19, 20, 3, 4, 5, 6, 7, 28, 29, 30, 31, 32, 33, 34, 35, 36, 37, 38] (by decide +kernel) (by decide +kernel)
set_option maxRecDepth 20000 in
theorem gX4_opening_X0_basesOf : GoodIn wsX4_opening (wsV RX4 127 RX0 yX0_basesOf wsX0_basesOf) := goodIn_app (goodIn_of _ (by decide +kernel)) ggX4_opening_X0_basesOf
theorem dX4_opening_0 : decode cX4_opening 0 = .ok (.aload_n 0, 1) := by decide +kernel
theorem dX4_opening_1 : decode cX4_opening 1 = .ok (.getfield 28, 3) := by decide +kernel
theorem dX4_opening_4 : decode cX4_opening 4 = .ok (.iload_n 1, 1) := by decide +kernel
theorem dX4_opening_5 : decode cX4_opening 5 = .ok (.invokevirtual 107, 3) := by decide +kernel
theorem dX4_opening_8 : decode cX4_opening 8 = .ok (.ifCond .ne 5, 3) := by decide +kernel
theorem dX4_opening_11 : decode cX4_opening 11 = .ok (.iconst (-1), 1) := by decide +kernel
theorem dX4_opening_12 : decode cX4_opening 12 = .ok (.ireturn, 1) := by decide +kernel
theorem dX4_opening_13 : decode cX4_opening 13 = .ok (.aload_n 0, 1) := by decide +kernel
theorem dX4_opening_14 : decode cX4_opening 14 = .ok (.getfield 28, 3) := by decide +kernel
theorem dX4_opening_17 : decode cX4_opening 17 = .ok (.getfield 96, 3) := by decide +kernel
theorem dX4_opening_20 : decode cX4_opening 20 = .ok (.iload_n 1, 1) := by decide +kernel
theorem dX4_opening_21 : decode cX4_opening 21 = .ok (.invokestatic 113, 3) := by decide +kernel
theorem dX4_opening_24 : decode cX4_opening 24 = .ok (.ifCond .eq 6, 3) := by decide +kernel
theorem dX4_opening_27 : decode cX4_opening 27 = .ok (.bipush (-2), 2) := by decide +kernel
theorem dX4_opening_29 : decode cX4_opening 29 = .ok (.ireturn, 1) := by decide +kernel
theorem dX4_opening_30 : decode cX4_opening 30 = .ok (.iload_n 1, 1) := by decide +kernel
theorem dX4_opening_31 : decode cX4_opening 31 = .ok (.invokestatic 130, 3) := by decide +kernel
theorem dX4_opening_34 : decode cX4_opening 34 = .ok (.aload_n 0, 1) := by decide +kernel
theorem dX4_opening_35 : decode cX4_opening 35 = .ok (.getfield 28, 3) := by decide +kernel
theorem dX4_opening_38 : decode cX4_opening 38 = .ok (.iload_n 1, 1) := by decide +kernel
theorem dX4_opening_39 : decode cX4_opening 39 = .ok (.invokevirtual 127, 3) := by decide +kernel
theorem dX4_opening_42 : decode cX4_opening 42 = .ok (.ior, 1) := by decide +kernel
theorem dX4_opening_43 : decode cX4_opening 43 = .ok (.aload_n 0, 1) := by decide +kernel
theorem dX4_opening_44 : decode cX4_opening 44 = .ok (.getfield 28, 3) := by decide +kernel
theorem dX4_opening_47 : decode cX4_opening 47 = .ok (.getfield 96, 3) := by decide +kernel
theorem dX4_opening_50 : decode cX4_opening 50 = .ok (.iconst (-1), 1) := by decide +kernel
theorem dX4_opening_51 : decode cX4_opening 51 = .ok (.ixor, 1) := by decide +kernel
theorem dX4_opening_52 : decode cX4_opening 52 = .ok (.iand, 1) := by decide +kernel
theorem dX4_opening_53 : decode cX4_opening 53 = .ok (.ireturn, 1) := by decide +kernel
set_option maxRecDepth 20000 in
theorem ggX4_run_X0_hasEdit : GoodIn wsX4_run wsX0_hasEdit := goodIn_r _ [6, 7, 43, 44, 45, 46, 47, 48, 49, 50, 51, 52, 53] (by decide +kernel) (by decide +kernel)
set_option maxRecDepth 20000 in
theorem gX4_run_X0_hasEdit : GoodIn wsX4_run (wsV RX4 107 RX0 yX0_hasEdit wsX0_hasEdit) := goodIn_app (goodIn_of _ (by decide +kernel)) ggX4_run_X0_hasEdit
set_option maxRecDepth 20000 in
theorem ggX4_run_X4_single : GoodIn wsX4_run wsX4_single := goodIn_r _ [11] (by decide +kernel) (by decide +kernel)
set_option maxRecDepth 20000 in
theorem gX4_run_X4_single : GoodIn wsX4_run (va_wsS RX4 130 yX4_single wsX4_single) := goodIn_app (goodIn_of _ (by decide +kernel)) ggX4_run_X4_single
set_option maxRecDepth 20000 in
theorem ggX4_run_X0_longestStretch : GoodIn wsX4_run wsX0_longestStretch := goodIn_r _ [15, 16, 17, 18, 19, 20, 21, 22, 23, 5, 24, 25, 26, 27, 28, 29, 30, 31, 32, 33, 34, 43, 44, 45, 46, 47, 48, 49, 50, 51, 52, 53] (by decide +kernel) (by decide +kernel)
set_option maxRecDepth 20000 in
theorem gX4_run_X0_longestStretch : GoodIn wsX4_run (wsV RX4 163 RX0 yX0_longestStretch wsX0_longestStretch) := goodIn_app (goodIn_of _ (by decide +kernel)) ggX4_run_X0_longestStretch
set_option maxRecDepth 20000 in
theorem ggX4_run_X0_stretchFrom : GoodIn wsX4_run wsX0_stretchFrom := goodIn_r _ [24, 16, 25, 26, 27, 5, 28, 29, 30, 31, 32, 33, 34, 43, 44, 45, 46, 47, 48, 49, 50, 51, 52, 53] (by decide +kernel) (by decide +kernel)
set_option maxRecDepth 20000 in
theorem gX4_run_X0_stretchFrom : GoodIn wsX4_run (wsV RX4 166 RX0 yX0_stretchFrom wsX0_stretchFrom) := goodIn_app (goodIn_of _ (by decide +kernel)) ggX4_run_X0_stretchFrom
theorem dX4_run_0 : decode cX4_run 0 = .ok (.iload_n 1, 1) := by decide +kernel
theorem dX4_run_1 : decode cX4_run 1 = .ok (.iconst (-1), 1) := by decide +kernel
theorem dX4_run_2 : decode cX4_run 2 = .ok (.if_icmp .eq 14, 3) := by decide +kernel
theorem dX4_run_5 : decode cX4_run 5 = .ok (.aload_n 0, 1) := by decide +kernel
theorem dX4_run_6 : decode cX4_run 6 = .ok (.getfield 28, 3) := by decide +kernel
theorem dX4_run_9 : decode cX4_run 9 = .ok (.iload_n 1, 1) := by decide +kernel
theorem dX4_run_10 : decode cX4_run 10 = .ok (.invokevirtual 107, 3) := by decide +kernel
theorem dX4_run_13 : decode cX4_run 13 = .ok (.ifCond .eq 12, 3) := by decide +kernel
theorem dX4_run_16 : decode cX4_run 16 = .ok (.iload_n 2, 1) := by decide +kernel
theorem dX4_run_17 : decode cX4_run 17 = .ok (.ifCond .lt 8, 3) := by decide +kernel
theorem dX4_run_20 : decode cX4_run 20 = .ok (.iload_n 2, 1) := by decide +kernel
theorem dX4_run_21 : decode cX4_run 21 = .ok (.iconst 1, 1) := by decide +kernel
theorem dX4_run_22 : decode cX4_run 22 = .ok (.if_icmp .le 5, 3) := by decide +kernel
theorem dX4_run_25 : decode cX4_run 25 = .ok (.iconst (-1), 1) := by decide +kernel
theorem dX4_run_26 : decode cX4_run 26 = .ok (.ireturn, 1) := by decide +kernel
theorem dX4_run_27 : decode cX4_run 27 = .ok (.iload_n 1, 1) := by decide +kernel
theorem dX4_run_28 : decode cX4_run 28 = .ok (.iconst (-1), 1) := by decide +kernel
theorem dX4_run_29 : decode cX4_run 29 = .ok (.if_icmp .ne 7, 3) := by decide +kernel
theorem dX4_run_32 : decode cX4_run 32 = .ok (.iconst 0, 1) := by decide +kernel
theorem dX4_run_33 : decode cX4_run 33 = .ok (.goto 7, 3) := by decide +kernel
theorem dX4_run_36 : decode cX4_run 36 = .ok (.iload_n 1, 1) := by decide +kernel
theorem dX4_run_37 : decode cX4_run 37 = .ok (.invokestatic 130, 3) := by decide +kernel
theorem dX4_run_40 : decode cX4_run 40 = .ok (.istore_n 3, 1) := by decide +kernel
theorem dX4_run_41 : decode cX4_run 41 = .ok (.aload_n 0, 1) := by decide +kernel
theorem dX4_run_42 : decode cX4_run 42 = .ok (.getfield 28, 3) := by decide +kernel
theorem dX4_run_45 : decode cX4_run 45 = .ok (.iload_n 3, 1) := by decide +kernel
theorem dX4_run_46 : decode cX4_run 46 = .ok (.invokevirtual 163, 3) := by decide +kernel
theorem dX4_run_49 : decode cX4_run 49 = .ok (.istore 4, 2) := by decide +kernel
theorem dX4_run_51 : decode cX4_run 51 = .ok (.aload_n 0, 1) := by decide +kernel
theorem dX4_run_52 : decode cX4_run 52 = .ok (.getfield 28, 3) := by decide +kernel
theorem dX4_run_55 : decode cX4_run 55 = .ok (.iload 4, 2) := by decide +kernel
theorem dX4_run_57 : decode cX4_run 57 = .ok (.iload_n 3, 1) := by decide +kernel
theorem dX4_run_58 : decode cX4_run 58 = .ok (.invokevirtual 166, 3) := by decide +kernel
theorem dX4_run_61 : decode cX4_run 61 = .ok (.istore 5, 2) := by decide +kernel
theorem dX4_run_63 : decode cX4_run 63 = .ok (.iload_n 2, 1) := by decide +kernel
theorem dX4_run_64 : decode cX4_run 64 = .ok (.ifCond .ne 6, 3) := by decide +kernel
theorem dX4_run_67 : decode cX4_run 67 = .ok (.iload 5, 2) := by decide +kernel
theorem dX4_run_69 : decode cX4_run 69 = .ok (.ireturn, 1) := by decide +kernel
theorem dX4_run_70 : decode cX4_run 70 = .ok (.iload 5, 2) := by decide +kernel
theorem dX4_run_72 : decode cX4_run 72 = .ok (.ifCond .ne 8, 3) := by decide +kernel
theorem dX4_run_75 : decode cX4_run 75 = .ok (.bipush (-9), 2) := by decide +kernel
theorem dX4_run_77 : decode cX4_run 77 = .ok (.goto 5, 3) := by decide +kernel
theorem dX4_run_80 : decode cX4_run 80 = .ok (.iload 4, 2) := by decide +kernel
theorem dX4_run_82 : decode cX4_run 82 = .ok (.ireturn, 1) := by decide +kernel
set_option maxRecDepth 20000 in
theorem ggX4_appendScript_X1_add : GoodIn wsX4_appendScript wsX1_add := goodIn_r _ [6, 7, 8, 23, 24] (by decide +kernel) (by decide +kernel)
set_option maxRecDepth 20000 in
theorem gX4_appendScript_X1_add : GoodIn wsX4_appendScript (wsV RX4 50 RX1 yX1_add wsX1_add) := goodIn_app (goodIn_of _ (by decide +kernel)) ggX4_appendScript_X1_add
theorem dX4_appendScript_0 : decode cX4_appendScript 0 = .ok (.iload_n 1, 1) := by decide +kernel
theorem dX4_appendScript_1 : decode cX4_appendScript 1 = .ok (.ifCond .lt 10, 3) := by decide +kernel
theorem dX4_appendScript_4 : decode cX4_appendScript 4 = .ok (.iload_n 1, 1) := by decide +kernel
theorem dX4_appendScript_5 : decode cX4_appendScript 5 = .ok (.sipush 255, 3) := by decide +kernel
theorem dX4_appendScript_8 : decode cX4_appendScript 8 = .ok (.if_icmp .le 5, 3) := by decide +kernel
theorem dX4_appendScript_11 : decode cX4_appendScript 11 = .ok (.iconst (-1), 1) := by decide +kernel
theorem dX4_appendScript_12 : decode cX4_appendScript 12 = .ok (.ireturn, 1) := by decide +kernel
theorem dX4_appendScript_13 : decode cX4_appendScript 13 = .ok (.aload_n 0, 1) := by decide +kernel
theorem dX4_appendScript_14 : decode cX4_appendScript 14 = .ok (.getfield 21, 3) := by decide +kernel
theorem dX4_appendScript_17 : decode cX4_appendScript 17 = .ok (.getfield 169, 3) := by decide +kernel
theorem dX4_appendScript_20 : decode cX4_appendScript 20 = .ok (.iload_n 1, 1) := by decide +kernel
theorem dX4_appendScript_21 : decode cX4_appendScript 21 = .ok (.invokevirtual 50, 3) := by decide +kernel
theorem dX4_appendScript_24 : decode cX4_appendScript 24 = .ok (.ifCond .eq 16, 3) := by decide +kernel
theorem dX4_appendScript_27 : decode cX4_appendScript 27 = .ok (.aload_n 0, 1) := by decide +kernel
theorem dX4_appendScript_28 : decode cX4_appendScript 28 = .ok (.getfield 21, 3) := by decide +kernel
theorem dX4_appendScript_31 : decode cX4_appendScript 31 = .ok (.getfield 169, 3) := by decide +kernel
theorem dX4_appendScript_34 : decode cX4_appendScript 34 = .ok (.getfield 54, 3) := by decide +kernel
theorem dX4_appendScript_37 : decode cX4_appendScript 37 = .ok (.goto 5, 3) := by decide +kernel
theorem dX4_appendScript_40 : decode cX4_appendScript 40 = .ok (.bipush (-3), 2) := by decide +kernel
theorem dX4_appendScript_42 : decode cX4_appendScript 42 = .ok (.ireturn, 1) := by decide +kernel
set_option maxRecDepth 20000 in
theorem ggX4_clearScript_X1_drop : GoodIn wsX4_clearScript wsX1_drop := goodIn_r _ [6, 7, 22, 23] (by decide +kernel) (by decide +kernel)
set_option maxRecDepth 20000 in
theorem gX4_clearScript_X1_drop : GoodIn wsX4_clearScript (wsV RX4 57 RX1 yX1_drop wsX1_drop) := goodIn_app (goodIn_of _ (by decide +kernel)) ggX4_clearScript_X1_drop
theorem dX4_clearScript_0 : decode cX4_clearScript 0 = .ok (.aload_n 0, 1) := by decide +kernel
theorem dX4_clearScript_1 : decode cX4_clearScript 1 = .ok (.getfield 21, 3) := by decide +kernel
theorem dX4_clearScript_4 : decode cX4_clearScript 4 = .ok (.getfield 169, 3) := by decide +kernel
theorem dX4_clearScript_7 : decode cX4_clearScript 7 = .ok (.invokevirtual 57, 3) := by decide +kernel
theorem dX4_clearScript_10 : decode cX4_clearScript 10 = .ok (.ireturn, 1) := by decide +kernel
set_option maxRecDepth 20000 in
theorem ggX4_runScript_X2_firstError : GoodIn wsX4_runScript wsX2_firstError := goodIn_r _ [6, 7, 8, 9, 10, 5, 11, 12, 13, 14, 15, 16, 17, 18, 19, 20, 21, 22, 23, 24, 25, 26, 27, 28, 29, 30, 31, 32, 33, 34, 35, 36, 37, 38, 39, 40, 41, 42, 43, 44, 45, 46, 47, 48, 49, 50, 51, 52, 53, 54, 55, 56, 57, 58, 220, 221, 222, 223, 224, 225, 226, 227, 228] (by decide +kernel) (by decide +kernel)
set_option maxRecDepth 20000 in
theorem gX4_runScript_X2_firstError : GoodIn wsX4_runScript (wsV RX4 172 RX2 yX2_firstError wsX2_firstError) := goodIn_app (goodIn_of _ (by decide +kernel)) ggX4_runScript_X2_firstError
set_option maxRecDepth 20000 in
theorem ggX4_runScript_X2_rewind : GoodIn wsX4_runScript wsX2_rewind := goodIn_r _ [11, 7, 220, 221, 222, 223, 224, 225, 226] (by decide +kernel) (by decide +kernel)
set_option maxRecDepth 20000 in
theorem gX4_runScript_X2_rewind : GoodIn wsX4_runScript (wsV RX4 175 RX2 yX2_rewind wsX2_rewind) := goodIn_app (goodIn_of _ (by decide +kernel)) ggX4_runScript_X2_rewind
set_option maxRecDepth 20000 in
theorem ggX4_runScript_X2_next : GoodIn wsX4_runScript wsX2_next := goodIn_r _ [15, 7, 16, 17, 18, 19, 20, 21, 22, 23, 24, 25, 26, 5, 27, 28, 29, 30, 31, 32, 33, 34, 35, 36, 37, 38, 39, 40, 41, 42, 43, 44, 45, 46, 47, 48, 49, 50, 51, 52, 53, 54, 55, 56, 57, 58, 220, 221, 222, 223, 224, 225, 226, 227, 228] (by decide +kernel) (by decide +kernel)
set_option maxRecDepth 20000 in
theorem gX4_runScript_X2_next : GoodIn wsX4_runScript (wsV RX4 178 RX2 yX2_next wsX2_next) := goodIn_app (goodIn_of _ (by decide +kernel)) ggX4_runScript_X2_next
set_option maxRecDepth 20000 in
theorem ggX4_runScript_X4_carryOutCommand : GoodIn wsX4_runScript wsX4_carryOutCommand := goodIn_r _ [65, 1, 66, 67, 68, 69, 70, 71, 72, 73, 74, 75, 76, 77, 78, 79, 80, 81, 82, 64, 83, 84, 85, 86, 87, 88, 89, 90, 91, 92, 93, 94, 95, 96, 97, 98, 99, 100, 101, 102, 103, 104, 105, 18, 19, 20, 21, 22, 23, 106, 107, 108, 109, 110, 111, 112, 113, 114, 115, 116, 117, 118, 119, 120, 121, 122, 123, 124, 125, 126, 127, 128, 129, 130, 131, 132, 133, 134, 135, 136, 137, 138, 139, 140, 141, 142, 143, 144, 145, 146, 147, 148, 149, 150, 151, 152, 153, 154, 155, 156, 157, 158, 159, 160, 161, 162, 163, 164, 165, 166, 167, 168, 169, 170, 171, 172, 173, 174, 175, 176, 177, 178, 179, 180, 181, 182, 183, 184, 185, 186, 187, 188, 189, 190, 191, 192, 193, 194, 195, 196, 197, 198, 199, 200, 201, 202, 203, 204, 205, 206, 207, 208, 213, 214, 215, 216, 217, 218, 219, 220, 221, 222, 223, 224, 225, 226, 229, 230, 231, 232, 233, 234, 235, 236, 237, 238, 239, 227, 228] (by decide +kernel) (by decide +kernel)
set_option maxRecDepth 20000 in
theorem gX4_runScript_X4_carryOutCommand : GoodIn wsX4_runScript (wsV RX4 181 RX4 yX4_carryOutCommand wsX4_carryOutCommand) := goodIn_app (goodIn_of _ (by decide +kernel)) ggX4_runScript_X4_carryOutCommand
set_option maxRecDepth 20000 in
theorem ggX4_runScript_X1_drop : GoodIn wsX4_runScript wsX1_drop := goodIn_r _ [212, 22, 227, 228] (by decide +kernel) (by decide +kernel)
set_option maxRecDepth 20000 in
theorem gX4_runScript_X1_drop : GoodIn wsX4_runScript (wsV RX4 57 RX1 yX1_drop wsX1_drop) := goodIn_app (goodIn_of _ (by decide +kernel)) ggX4_runScript_X1_drop
theorem dX4_runScript_0 : decode cX4_runScript 0 = .ok (.aload_n 0, 1) := by decide +kernel
theorem dX4_runScript_1 : decode cX4_runScript 1 = .ok (.getfield 21, 3) := by decide +kernel
theorem dX4_runScript_4 : decode cX4_runScript 4 = .ok (.invokevirtual 172, 3) := by decide +kernel
theorem dX4_runScript_7 : decode cX4_runScript 7 = .ok (.istore_n 1, 1) := by decide +kernel
theorem dX4_runScript_8 : decode cX4_runScript 8 = .ok (.iload_n 1, 1) := by decide +kernel
theorem dX4_runScript_9 : decode cX4_runScript 9 = .ok (.ifCond .lt 8, 3) := by decide +kernel
theorem dX4_runScript_12 : decode cX4_runScript 12 = .ok (.bipush (-10), 2) := by decide +kernel
theorem dX4_runScript_14 : decode cX4_runScript 14 = .ok (.iload_n 1, 1) := by decide +kernel
theorem dX4_runScript_15 : decode cX4_runScript 15 = .ok (.isub, 1) := by decide +kernel
theorem dX4_runScript_16 : decode cX4_runScript 16 = .ok (.ireturn, 1) := by decide +kernel
theorem dX4_runScript_17 : decode cX4_runScript 17 = .ok (.iconst 0, 1) := by decide +kernel
theorem dX4_runScript_18 : decode cX4_runScript 18 = .ok (.istore_n 2, 1) := by decide +kernel
theorem dX4_runScript_19 : decode cX4_runScript 19 = .ok (.aload_n 0, 1) := by decide +kernel
theorem dX4_runScript_20 : decode cX4_runScript 20 = .ok (.getfield 21, 3) := by decide +kernel
theorem dX4_runScript_23 : decode cX4_runScript 23 = .ok (.invokevirtual 175, 3) := by decide +kernel
theorem dX4_runScript_26 : decode cX4_runScript 26 = .ok (.iconst 0, 1) := by decide +kernel
theorem dX4_runScript_27 : decode cX4_runScript 27 = .ok (.istore_n 3, 1) := by decide +kernel
theorem dX4_runScript_28 : decode cX4_runScript 28 = .ok (.iload_n 3, 1) := by decide +kernel
theorem dX4_runScript_29 : decode cX4_runScript 29 = .ok (.bipush 80, 2) := by decide +kernel
theorem dX4_runScript_31 : decode cX4_runScript 31 = .ok (.if_icmp .ge 30, 3) := by decide +kernel
theorem dX4_runScript_34 : decode cX4_runScript 34 = .ok (.aload_n 0, 1) := by decide +kernel
theorem dX4_runScript_35 : decode cX4_runScript 35 = .ok (.getfield 21, 3) := by decide +kernel
theorem dX4_runScript_38 : decode cX4_runScript 38 = .ok (.invokevirtual 178, 3) := by decide +kernel
theorem dX4_runScript_41 : decode cX4_runScript 41 = .ok (.iconst 1, 1) := by decide +kernel
theorem dX4_runScript_42 : decode cX4_runScript 42 = .ok (.if_icmp .ne 19, 3) := by decide +kernel
theorem dX4_runScript_45 : decode cX4_runScript 45 = .ok (.aload_n 0, 1) := by decide +kernel
theorem dX4_runScript_46 : decode cX4_runScript 46 = .ok (.invokevirtual 181, 3) := by decide +kernel
theorem dX4_runScript_49 : decode cX4_runScript 49 = .ok (.ifCond .lt 6, 3) := by decide +kernel
theorem dX4_runScript_52 : decode cX4_runScript 52 = .ok (.iinc 2 1, 3) := by decide +kernel
theorem dX4_runScript_55 : decode cX4_runScript 55 = .ok (.iinc 3 1, 3) := by decide +kernel
theorem dX4_runScript_58 : decode cX4_runScript 58 = .ok (.goto (-30), 3) := by decide +kernel
theorem dX4_runScript_61 : decode cX4_runScript 61 = .ok (.aload_n 0, 1) := by decide +kernel
theorem dX4_runScript_62 : decode cX4_runScript 62 = .ok (.getfield 21, 3) := by decide +kernel
theorem dX4_runScript_65 : decode cX4_runScript 65 = .ok (.getfield 169, 3) := by decide +kernel
theorem dX4_runScript_68 : decode cX4_runScript 68 = .ok (.invokevirtual 57, 3) := by decide +kernel
theorem dX4_runScript_71 : decode cX4_runScript 71 = .ok (.pop, 1) := by decide +kernel
theorem dX4_runScript_72 : decode cX4_runScript 72 = .ok (.iload_n 2, 1) := by decide +kernel
theorem dX4_runScript_73 : decode cX4_runScript 73 = .ok (.ireturn, 1) := by decide +kernel
set_option maxRecDepth 20000 in
theorem ggX4_cheapest_X4_seekCheapest : GoodIn wsX4_cheapest wsX4_seekCheapest := goodIn_r _ [6, 7, 1, 8, 9, 10, 11, 12, 13, 14, 15, 16, 17, 18, 19, 20, 21, 22, 23, 24, 25, 26, 27, 28, 29, 30, 31, 32, 5, 33, 34, 35, 36, 37, 38, 39, 40, 41, 42, 43, 44, 45, 46, 47, 48, 49, 50, 51, 52, 53, 54, 55, 56, 57, 58, 59, 60, 61, 62, 63, 64, 65, 66, 67, 68, 69, 70, 71, 72, 73, 74, 75, 76, 77, 78, 79, 80, 81, 82, 83, 84, 85, 86, 87, 88, 89, 90, 91, 92, 93, 94, 95, 96, 97, 98, 99, 100, 101, 102, 103, 104, 105, 106, 107, 108, 109, 110, 111, 112, 113, 114, 115, 116, 117, 118, 119, 120, 121, 122, 123, 124, 125, 126, 127, 128, 129, 130, 131, 132, 145, 146, 147, 148, 149, 150, 151, 152, 153, 154, 155, 133, 134, 135, 136, 137, 138, 139, 140, 141, 142, 143, 144] (by decide +kernel) (by decide +kernel)
set_option maxRecDepth 20000 in
theorem gX4_cheapest_X4_seekCheapest : GoodIn wsX4_cheapest (wsV RX4 184 RX4 yX4_seekCheapest wsX4_seekCheapest) := goodIn_app (goodIn_of _ (by decide +kernel)) ggX4_cheapest_X4_seekCheapest
theorem dX4_cheapest_0 : decode cX4_cheapest 0 = .ok (.aload_n 0, 1) := by decide +kernel
theorem dX4_cheapest_1 : decode cX4_cheapest 1 = .ok (.iload_n 1, 1) := by decide +kernel
theorem dX4_cheapest_2 : decode cX4_cheapest 2 = .ok (.iload_n 2, 1) := by decide +kernel
theorem dX4_cheapest_3 : decode cX4_cheapest 3 = .ok (.invokevirtual 184, 3) := by decide +kernel
theorem dX4_cheapest_6 : decode cX4_cheapest 6 = .ok (.istore_n 3, 1) := by decide +kernel
theorem dX4_cheapest_7 : decode cX4_cheapest 7 = .ok (.iload_n 3, 1) := by decide +kernel
theorem dX4_cheapest_8 : decode cX4_cheapest 8 = .ok (.ifCond .ge 7, 3) := by decide +kernel
theorem dX4_cheapest_11 : decode cX4_cheapest 11 = .ok (.iload_n 3, 1) := by decide +kernel
theorem dX4_cheapest_12 : decode cX4_cheapest 12 = .ok (.goto 10, 3) := by decide +kernel
theorem dX4_cheapest_15 : decode cX4_cheapest 15 = .ok (.aload_n 0, 1) := by decide +kernel
theorem dX4_cheapest_16 : decode cX4_cheapest 16 = .ok (.getfield 35, 3) := by decide +kernel
theorem dX4_cheapest_19 : decode cX4_cheapest 19 = .ok (.getfield 187, 3) := by decide +kernel
theorem dX4_cheapest_22 : decode cX4_cheapest 22 = .ok (.ireturn, 1) := by decide +kernel
set_option maxRecDepth 20000 in
theorem ggX4_cheapestPrice_X4_seekCheapest : GoodIn wsX4_cheapestPrice wsX4_seekCheapest := goodIn_r _ [6, 7, 1, 8, 9, 10, 11, 12, 13, 14, 15, 16, 17, 18, 19, 20, 21, 22, 23, 24, 25, 26, 27, 28, 29, 30, 31, 32, 5, 33, 34, 35, 36, 37, 38, 39, 40, 41, 42, 43, 44, 45, 46, 47, 48, 49, 50, 51, 52, 53, 54, 55, 56, 57, 58, 59, 60, 61, 62, 63, 64, 65, 66, 67, 68, 69, 70, 71, 72, 73, 74, 75, 76, 77, 78, 79, 80, 81, 82, 83, 84, 85, 86, 87, 88, 89, 90, 91, 92, 93, 94, 95, 96, 97, 98, 99, 100, 101, 102, 103, 104, 105, 106, 107, 108, 109, 110, 111, 112, 113, 114, 115, 116, 117, 118, 119, 120, 121, 122, 123, 124, 125, 126, 127, 128, 129, 130, 131, 132, 145, 146, 147, 148, 149, 150, 151, 152, 153, 154, 155, 133, 134, 135, 136, 137, 138, 139, 140, 141, 142, 143, 144] (by decide +kernel) (by decide +kernel)
set_option maxRecDepth 20000 in
theorem gX4_cheapestPrice_X4_seekCheapest : GoodIn wsX4_cheapestPrice (wsV RX4 184 RX4 yX4_seekCheapest wsX4_seekCheapest) := goodIn_app (goodIn_of _ (by decide +kernel)) ggX4_cheapestPrice_X4_seekCheapest
theorem dX4_cheapestPrice_0 : decode cX4_cheapestPrice 0 = .ok (.aload_n 0, 1) := by decide +kernel
theorem dX4_cheapestPrice_1 : decode cX4_cheapestPrice 1 = .ok (.iload_n 1, 1) := by decide +kernel
theorem dX4_cheapestPrice_2 : decode cX4_cheapestPrice 2 = .ok (.iload_n 2, 1) := by decide +kernel
theorem dX4_cheapestPrice_3 : decode cX4_cheapestPrice 3 = .ok (.invokevirtual 184, 3) := by decide +kernel
theorem dX4_cheapestPrice_6 : decode cX4_cheapestPrice 6 = .ok (.istore_n 3, 1) := by decide +kernel
theorem dX4_cheapestPrice_7 : decode cX4_cheapestPrice 7 = .ok (.iload_n 3, 1) := by decide +kernel
theorem dX4_cheapestPrice_8 : decode cX4_cheapestPrice 8 = .ok (.ifCond .ge 7, 3) := by decide +kernel
theorem dX4_cheapestPrice_11 : decode cX4_cheapestPrice 11 = .ok (.iload_n 3, 1) := by decide +kernel
theorem dX4_cheapestPrice_12 : decode cX4_cheapestPrice 12 = .ok (.goto 10, 3) := by decide +kernel
theorem dX4_cheapestPrice_15 : decode cX4_cheapestPrice 15 = .ok (.aload_n 0, 1) := by decide +kernel
theorem dX4_cheapestPrice_16 : decode cX4_cheapestPrice 16 = .ok (.getfield 35, 3) := by decide +kernel
theorem dX4_cheapestPrice_19 : decode cX4_cheapestPrice 19 = .ok (.getfield 190, 3) := by decide +kernel
theorem dX4_cheapestPrice_22 : decode cX4_cheapestPrice 22 = .ok (.ireturn, 1) := by decide +kernel
set_option maxRecDepth 20000 in
theorem ggX4_clearing_X0_hasStretch : GoodIn wsX4_clearing wsX0_hasStretch := goodIn_r _ [6, 7, 41, 42, 43, 44, 45, 46, 47, 48, 49, 50, 51] (by decide +kernel) (by decide +kernel)
set_option maxRecDepth 20000 in
theorem gX4_clearing_X0_hasStretch : GoodIn wsX4_clearing (wsV RX4 193 RX0 yX0_hasStretch wsX0_hasStretch) := goodIn_app (goodIn_of _ (by decide +kernel)) ggX4_clearing_X0_hasStretch
set_option maxRecDepth 20000 in
theorem ggX4_clearing_X0_editsWithin : GoodIn wsX4_clearing wsX0_editsWithin := goodIn_r _ [11, 12, 13, 14, 15, 16, 3, 4, 5, 6, 7, 17, 18, 19, 20, 41, 42, 43, 44, 45, 46, 47, 48, 49, 50, 51] (by decide +kernel) (by decide +kernel)
set_option maxRecDepth 20000 in
theorem gX4_clearing_X0_editsWithin : GoodIn wsX4_clearing (wsV RX4 196 RX0 yX0_editsWithin wsX0_editsWithin) := goodIn_app (goodIn_of _ (by decide +kernel)) ggX4_clearing_X0_editsWithin
set_option maxRecDepth 20000 in
theorem ggX4_clearing_X0_withActiveDependents : GoodIn wsX4_clearing wsX0_withActiveDependents := goodIn_r _ [24, 14, 25, 26, 27, 5, 28, 29, 30, 31, 32, 33, 41, 42, 43, 44, 45, 46, 47, 48, 49, 50, 51] (by decide +kernel) (by decide +kernel)
set_option maxRecDepth 20000 in
theorem gX4_clearing_X0_withActiveDependents : GoodIn wsX4_clearing (wsV RX4 139 RX0 yX0_withActiveDependents wsX0_withActiveDependents) := goodIn_app (goodIn_of _ (by decide +kernel)) ggX4_clearing_X0_withActiveDependents
theorem dX4_clearing_0 : decode cX4_clearing 0 = .ok (.aload_n 0, 1) := by decide +kernel
theorem dX4_clearing_1 : decode cX4_clearing 1 = .ok (.getfield 28, 3) := by decide +kernel
theorem dX4_clearing_4 : decode cX4_clearing 4 = .ok (.iload_n 1, 1) := by decide +kernel
theorem dX4_clearing_5 : decode cX4_clearing 5 = .ok (.iload_n 2, 1) := by decide +kernel
theorem dX4_clearing_6 : decode cX4_clearing 6 = .ok (.invokevirtual 193, 3) := by decide +kernel
theorem dX4_clearing_9 : decode cX4_clearing 9 = .ok (.ifCond .ne 5, 3) := by decide +kernel
theorem dX4_clearing_12 : decode cX4_clearing 12 = .ok (.iconst (-1), 1) := by decide +kernel
theorem dX4_clearing_13 : decode cX4_clearing 13 = .ok (.ireturn, 1) := by decide +kernel
theorem dX4_clearing_14 : decode cX4_clearing 14 = .ok (.aload_n 0, 1) := by decide +kernel
theorem dX4_clearing_15 : decode cX4_clearing 15 = .ok (.getfield 28, 3) := by decide +kernel
theorem dX4_clearing_18 : decode cX4_clearing 18 = .ok (.aload_n 0, 1) := by decide +kernel
theorem dX4_clearing_19 : decode cX4_clearing 19 = .ok (.getfield 28, 3) := by decide +kernel
theorem dX4_clearing_22 : decode cX4_clearing 22 = .ok (.iload_n 1, 1) := by decide +kernel
theorem dX4_clearing_23 : decode cX4_clearing 23 = .ok (.iload_n 2, 1) := by decide +kernel
theorem dX4_clearing_24 : decode cX4_clearing 24 = .ok (.invokevirtual 196, 3) := by decide +kernel
theorem dX4_clearing_27 : decode cX4_clearing 27 = .ok (.invokevirtual 139, 3) := by decide +kernel
theorem dX4_clearing_30 : decode cX4_clearing 30 = .ok (.ireturn, 1) := by decide +kernel
set_option maxRecDepth 20000 in
theorem ggX4_save_X4_isSlot : GoodIn wsX4_save wsX4_isSlot := goodIn_r _ [9] (by decide +kernel) (by decide +kernel)
set_option maxRecDepth 20000 in
theorem gX4_save_X4_isSlot : GoodIn wsX4_save (va_wsS RX4 199 yX4_isSlot wsX4_isSlot) := goodIn_app (goodIn_of _ (by decide +kernel)) ggX4_save_X4_isSlot
set_option maxRecDepth 20000 in
theorem ggX4_save_X0_init : GoodIn wsX4_save wsX0_init := goodIn_r _ [11, 12, 13, 14, 15, 16, 17, 18, 19, 20, 42, 43, 44, 45, 46, 47, 48, 49, 50, 51, 52] (by decide +kernel) (by decide +kernel)
set_option maxRecDepth 20000 in
theorem gX4_save_X0_init_n27 : GoodIn wsX4_save (wsX0_init) := ggX4_save_X0_init
set_option maxRecDepth 20000 in
theorem ggX4_save_X0_copyFrom : GoodIn wsX4_save wsX0_copyFrom := goodIn_r _ [24, 16, 25, 26, 27, 28, 17, 18, 19, 20, 29, 30, 31, 32, 33, 34, 42, 43, 44, 45, 46, 47, 48, 49, 50, 51, 52] (by decide +kernel) (by decide +kernel)
set_option maxRecDepth 20000 in
theorem gX4_save_X0_copyFrom : GoodIn wsX4_save (wsV RX4 202 RX0 yX0_copyFrom wsX0_copyFrom) := goodIn_app (goodIn_of _ (by decide +kernel)) ggX4_save_X0_copyFrom
theorem dX4_save_0 : decode cX4_save 0 = .ok (.iload_n 1, 1) := by decide +kernel
theorem dX4_save_1 : decode cX4_save 1 = .ok (.invokestatic 199, 3) := by decide +kernel
theorem dX4_save_4 : decode cX4_save 4 = .ok (.ifCond .ne 5, 3) := by decide +kernel
theorem dX4_save_7 : decode cX4_save 7 = .ok (.iconst (-1), 1) := by decide +kernel
theorem dX4_save_8 : decode cX4_save 8 = .ok (.ireturn, 1) := by decide +kernel
theorem dX4_save_9 : decode cX4_save 9 = .ok (.aload_n 0, 1) := by decide +kernel
theorem dX4_save_10 : decode cX4_save 10 = .ok (.getfield 39, 3) := by decide +kernel
theorem dX4_save_13 : decode cX4_save 13 = .ok (.iload_n 1, 1) := by decide +kernel
theorem dX4_save_14 : decode cX4_save 14 = .ok (.aaload, 1) := by decide +kernel
theorem dX4_save_15 : decode cX4_save 15 = .ok (.astore_n 2, 1) := by decide +kernel
theorem dX4_save_16 : decode cX4_save 16 = .ok (.aload_n 2, 1) := by decide +kernel
theorem dX4_save_17 : decode cX4_save 17 = .ok (.ifnonnull 18, 3) := by decide +kernel
theorem dX4_save_20 : decode cX4_save 20 = .ok (.new 25, 3) := by decide +kernel
theorem dX4_save_23 : decode cX4_save 23 = .ok (.dup, 1) := by decide +kernel
theorem dX4_save_24 : decode cX4_save 24 = .ok (.invokespecial 27, 3) := by decide +kernel
theorem dX4_save_27 : decode cX4_save 27 = .ok (.astore_n 2, 1) := by decide +kernel
theorem dX4_save_28 : decode cX4_save 28 = .ok (.aload_n 0, 1) := by decide +kernel
theorem dX4_save_29 : decode cX4_save 29 = .ok (.getfield 39, 3) := by decide +kernel
theorem dX4_save_32 : decode cX4_save 32 = .ok (.iload_n 1, 1) := by decide +kernel
theorem dX4_save_33 : decode cX4_save 33 = .ok (.aload_n 2, 1) := by decide +kernel
theorem dX4_save_34 : decode cX4_save 34 = .ok (.aastore, 1) := by decide +kernel
theorem dX4_save_35 : decode cX4_save 35 = .ok (.aload_n 2, 1) := by decide +kernel
theorem dX4_save_36 : decode cX4_save 36 = .ok (.aload_n 0, 1) := by decide +kernel
theorem dX4_save_37 : decode cX4_save 37 = .ok (.getfield 28, 3) := by decide +kernel
theorem dX4_save_40 : decode cX4_save 40 = .ok (.invokevirtual 202, 3) := by decide +kernel
theorem dX4_save_43 : decode cX4_save 43 = .ok (.aload_n 0, 1) := by decide +kernel
theorem dX4_save_44 : decode cX4_save 44 = .ok (.getfield 28, 3) := by decide +kernel
theorem dX4_save_47 : decode cX4_save 47 = .ok (.getfield 65, 3) := by decide +kernel
theorem dX4_save_50 : decode cX4_save 50 = .ok (.ireturn, 1) := by decide +kernel
set_option maxRecDepth 20000 in
theorem ggX4_restore_X4_isSlot : GoodIn wsX4_restore wsX4_isSlot := goodIn_r _ [6] (by decide +kernel) (by decide +kernel)
set_option maxRecDepth 20000 in
theorem gX4_restore_X4_isSlot : GoodIn wsX4_restore (va_wsS RX4 199 yX4_isSlot wsX4_isSlot) := goodIn_app (goodIn_of _ (by decide +kernel)) ggX4_restore_X4_isSlot
set_option maxRecDepth 20000 in
theorem ggX4_restore_X0_copyFrom : GoodIn wsX4_restore wsX0_copyFrom := goodIn_r _ [11, 12, 13, 14, 15, 16, 17, 18, 19, 20, 21, 22, 23, 24, 25, 26, 34, 35, 36, 37, 38, 39, 40, 41, 42, 43, 44] (by decide +kernel) (by decide +kernel)
set_option maxRecDepth 20000 in
theorem gX4_restore_X0_copyFrom : GoodIn wsX4_restore (wsV RX4 202 RX0 yX0_copyFrom wsX0_copyFrom) := goodIn_app (goodIn_of _ (by decide +kernel)) ggX4_restore_X0_copyFrom
theorem dX4_restore_0 : decode cX4_restore 0 = .ok (.iload_n 1, 1) := by decide +kernel
theorem dX4_restore_1 : decode cX4_restore 1 = .ok (.invokestatic 199, 3) := by decide +kernel
theorem dX4_restore_4 : decode cX4_restore 4 = .ok (.ifCond .ne 5, 3) := by decide +kernel
theorem dX4_restore_7 : decode cX4_restore 7 = .ok (.iconst (-1), 1) := by decide +kernel
theorem dX4_restore_8 : decode cX4_restore 8 = .ok (.ireturn, 1) := by decide +kernel
theorem dX4_restore_9 : decode cX4_restore 9 = .ok (.aload_n 0, 1) := by decide +kernel
theorem dX4_restore_10 : decode cX4_restore 10 = .ok (.getfield 39, 3) := by decide +kernel
theorem dX4_restore_13 : decode cX4_restore 13 = .ok (.iload_n 1, 1) := by decide +kernel
theorem dX4_restore_14 : decode cX4_restore 14 = .ok (.aaload, 1) := by decide +kernel
theorem dX4_restore_15 : decode cX4_restore 15 = .ok (.astore_n 2, 1) := by decide +kernel
theorem dX4_restore_16 : decode cX4_restore 16 = .ok (.aload_n 2, 1) := by decide +kernel
theorem dX4_restore_17 : decode cX4_restore 17 = .ok (.ifnonnull 6, 3) := by decide +kernel
theorem dX4_restore_20 : decode cX4_restore 20 = .ok (.bipush (-2), 2) := by decide +kernel
theorem dX4_restore_22 : decode cX4_restore 22 = .ok (.ireturn, 1) := by decide +kernel
theorem dX4_restore_23 : decode cX4_restore 23 = .ok (.aload_n 0, 1) := by decide +kernel
theorem dX4_restore_24 : decode cX4_restore 24 = .ok (.getfield 28, 3) := by decide +kernel
theorem dX4_restore_27 : decode cX4_restore 27 = .ok (.aload_n 2, 1) := by decide +kernel
theorem dX4_restore_28 : decode cX4_restore 28 = .ok (.invokevirtual 202, 3) := by decide +kernel
theorem dX4_restore_31 : decode cX4_restore 31 = .ok (.aload_n 0, 1) := by decide +kernel
theorem dX4_restore_32 : decode cX4_restore 32 = .ok (.getfield 28, 3) := by decide +kernel
theorem dX4_restore_35 : decode cX4_restore 35 = .ok (.getfield 65, 3) := by decide +kernel
theorem dX4_restore_38 : decode cX4_restore 38 = .ok (.ireturn, 1) := by decide +kernel
set_option maxRecDepth 20000 in
theorem ggX4_difference_X4_isSlot : GoodIn wsX4_difference wsX4_isSlot := goodIn_r _ [6] (by decide +kernel) (by decide +kernel)
set_option maxRecDepth 20000 in
theorem gX4_difference_X4_isSlot : GoodIn wsX4_difference (va_wsS RX4 199 yX4_isSlot wsX4_isSlot) := goodIn_app (goodIn_of _ (by decide +kernel)) ggX4_difference_X4_isSlot
set_option maxRecDepth 20000 in
theorem ggX4_difference_X0_differencesFrom : GoodIn wsX4_difference wsX0_differencesFrom := goodIn_r _ [11, 12, 13, 14, 15, 16, 17, 18, 19, 20, 21, 22, 10, 23, 24, 25, 26, 27, 28, 29, 37, 38, 39, 40, 41, 42, 43, 44, 45, 46, 47] (by decide +kernel) (by decide +kernel)
set_option maxRecDepth 20000 in
theorem gX4_difference_X0_differencesFrom : GoodIn wsX4_difference (wsV RX4 206 RX0 yX0_differencesFrom wsX0_differencesFrom) := goodIn_app (goodIn_of _ (by decide +kernel)) ggX4_difference_X0_differencesFrom
theorem dX4_difference_0 : decode cX4_difference 0 = .ok (.iload_n 1, 1) := by decide +kernel
theorem dX4_difference_1 : decode cX4_difference 1 = .ok (.invokestatic 199, 3) := by decide +kernel
theorem dX4_difference_4 : decode cX4_difference 4 = .ok (.ifCond .ne 5, 3) := by decide +kernel
theorem dX4_difference_7 : decode cX4_difference 7 = .ok (.iconst (-1), 1) := by decide +kernel
theorem dX4_difference_8 : decode cX4_difference 8 = .ok (.ireturn, 1) := by decide +kernel
theorem dX4_difference_9 : decode cX4_difference 9 = .ok (.aload_n 0, 1) := by decide +kernel
theorem dX4_difference_10 : decode cX4_difference 10 = .ok (.getfield 39, 3) := by decide +kernel
theorem dX4_difference_13 : decode cX4_difference 13 = .ok (.iload_n 1, 1) := by decide +kernel
theorem dX4_difference_14 : decode cX4_difference 14 = .ok (.aaload, 1) := by decide +kernel
theorem dX4_difference_15 : decode cX4_difference 15 = .ok (.astore_n 2, 1) := by decide +kernel
theorem dX4_difference_16 : decode cX4_difference 16 = .ok (.aload_n 2, 1) := by decide +kernel
theorem dX4_difference_17 : decode cX4_difference 17 = .ok (.ifnonnull 8, 3) := by decide +kernel
theorem dX4_difference_20 : decode cX4_difference 20 = .ok (.bipush (-2), 2) := by decide +kernel
theorem dX4_difference_22 : decode cX4_difference 22 = .ok (.goto 11, 3) := by decide +kernel
theorem dX4_difference_25 : decode cX4_difference 25 = .ok (.aload_n 0, 1) := by decide +kernel
theorem dX4_difference_26 : decode cX4_difference 26 = .ok (.getfield 28, 3) := by decide +kernel
theorem dX4_difference_29 : decode cX4_difference 29 = .ok (.aload_n 2, 1) := by decide +kernel
theorem dX4_difference_30 : decode cX4_difference 30 = .ok (.invokevirtual 206, 3) := by decide +kernel
theorem dX4_difference_33 : decode cX4_difference 33 = .ok (.ireturn, 1) := by decide +kernel
theorem dX4_isSlot_0 : decode cX4_isSlot 0 = .ok (.iload_n 0, 1) := by decide +kernel
theorem dX4_isSlot_1 : decode cX4_isSlot 1 = .ok (.ifCond .lt 12, 3) := by decide +kernel
theorem dX4_isSlot_4 : decode cX4_isSlot 4 = .ok (.iload_n 0, 1) := by decide +kernel
theorem dX4_isSlot_5 : decode cX4_isSlot 5 = .ok (.iconst 2, 1) := by decide +kernel
theorem dX4_isSlot_6 : decode cX4_isSlot 6 = .ok (.if_icmp .ge 7, 3) := by decide +kernel
theorem dX4_isSlot_9 : decode cX4_isSlot 9 = .ok (.iconst 1, 1) := by decide +kernel
theorem dX4_isSlot_10 : decode cX4_isSlot 10 = .ok (.goto 4, 3) := by decide +kernel
theorem dX4_isSlot_13 : decode cX4_isSlot 13 = .ok (.iconst 0, 1) := by decide +kernel
theorem dX4_isSlot_14 : decode cX4_isSlot 14 = .ok (.ireturn, 1) := by decide +kernel
theorem dX4_single_0 : decode cX4_single 0 = .ok (.iconst 1, 1) := by decide +kernel
theorem dX4_single_1 : decode cX4_single 1 = .ok (.iload_n 0, 1) := by decide +kernel
theorem dX4_single_2 : decode cX4_single 2 = .ok (.ishl, 1) := by decide +kernel
theorem dX4_single_3 : decode cX4_single 3 = .ok (.ireturn, 1) := by decide +kernel
set_option maxRecDepth 20000 in
theorem ggX4_numberOf_J6_bitCount_0f7a4 : GoodIn wsX4_numberOf wsJ6_bitCount_0f7a4 := goodIn_r _ [4, 5, 6, 7] (by decide +kernel) (by decide +kernel)
set_option maxRecDepth 20000 in
theorem gX4_numberOf_J6_bitCount_0f7a4 : GoodIn wsX4_numberOf (va_wsS RX4 99 yJ6_bitCount_0f7a4 wsJ6_bitCount_0f7a4) := goodIn_app (goodIn_of _ (by decide +kernel)) ggX4_numberOf_J6_bitCount_0f7a4
theorem dX4_numberOf_0 : decode cX4_numberOf 0 = .ok (.iload_n 0, 1) := by decide +kernel
theorem dX4_numberOf_1 : decode cX4_numberOf 1 = .ok (.iconst 1, 1) := by decide +kernel
theorem dX4_numberOf_2 : decode cX4_numberOf 2 = .ok (.isub, 1) := by decide +kernel
theorem dX4_numberOf_3 : decode cX4_numberOf 3 = .ok (.invokestatic 99, 3) := by decide +kernel
theorem dX4_numberOf_6 : decode cX4_numberOf 6 = .ok (.ireturn, 1) := by decide +kernel
theorem dX4_has_0 : decode cX4_has 0 = .ok (.iload_n 0, 1) := by decide +kernel
theorem dX4_has_1 : decode cX4_has 1 = .ok (.iconst 1, 1) := by decide +kernel
theorem dX4_has_2 : decode cX4_has 2 = .ok (.iload_n 1, 1) := by decide +kernel
theorem dX4_has_3 : decode cX4_has 3 = .ok (.ishl, 1) := by decide +kernel
theorem dX4_has_4 : decode cX4_has 4 = .ok (.iand, 1) := by decide +kernel
theorem dX4_has_5 : decode cX4_has 5 = .ok (.ifCond .eq 7, 3) := by decide +kernel
theorem dX4_has_8 : decode cX4_has 8 = .ok (.iconst 1, 1) := by decide +kernel
theorem dX4_has_9 : decode cX4_has 9 = .ok (.goto 4, 3) := by decide +kernel
theorem dX4_has_12 : decode cX4_has 12 = .ok (.iconst 0, 1) := by decide +kernel
theorem dX4_has_13 : decode cX4_has 13 = .ok (.ireturn, 1) := by decide +kernel
set_option maxRecDepth 20000 in
theorem ggX4_refusalToTakeBack_X0_hasEdits : GoodIn wsX4_refusalToTakeBack wsX0_hasEdits := goodIn_r _ [6, 7, 28, 29, 30, 31, 32, 33, 34, 35, 36, 37, 38] (by decide +kernel) (by decide +kernel)
set_option maxRecDepth 20000 in
theorem gX4_refusalToTakeBack_X0_hasEdits : GoodIn wsX4_refusalToTakeBack (wsV RX4 151 RX0 yX0_hasEdits wsX0_hasEdits) := goodIn_app (goodIn_of _ (by decide +kernel)) ggX4_refusalToTakeBack_X0_hasEdits
set_option maxRecDepth 20000 in
theorem ggX4_refusalToTakeBack_X0_canTakeBack : GoodIn wsX4_refusalToTakeBack wsX0_canTakeBack := goodIn_r _ [11, 12, 13, 14, 15, 5, 16, 7, 17, 18, 19, 20, 28, 29, 30, 31, 32, 33, 34, 35, 36, 37, 38] (by decide +kernel) (by decide +kernel)
set_option maxRecDepth 20000 in
theorem gX4_refusalToTakeBack_X0_canTakeBack : GoodIn wsX4_refusalToTakeBack (wsV RX4 210 RX0 yX0_canTakeBack wsX0_canTakeBack) := goodIn_app (goodIn_of _ (by decide +kernel)) ggX4_refusalToTakeBack_X0_canTakeBack
theorem dX4_refusalToTakeBack_0 : decode cX4_refusalToTakeBack 0 = .ok (.aload_n 0, 1) := by decide +kernel
theorem dX4_refusalToTakeBack_1 : decode cX4_refusalToTakeBack 1 = .ok (.getfield 28, 3) := by decide +kernel
theorem dX4_refusalToTakeBack_4 : decode cX4_refusalToTakeBack 4 = .ok (.iload_n 1, 1) := by decide +kernel
theorem dX4_refusalToTakeBack_5 : decode cX4_refusalToTakeBack 5 = .ok (.invokevirtual 151, 3) := by decide +kernel
theorem dX4_refusalToTakeBack_8 : decode cX4_refusalToTakeBack 8 = .ok (.ifCond .ne 5, 3) := by decide +kernel
theorem dX4_refusalToTakeBack_11 : decode cX4_refusalToTakeBack 11 = .ok (.iconst (-1), 1) := by decide +kernel
theorem dX4_refusalToTakeBack_12 : decode cX4_refusalToTakeBack 12 = .ok (.ireturn, 1) := by decide +kernel
theorem dX4_refusalToTakeBack_13 : decode cX4_refusalToTakeBack 13 = .ok (.aload_n 0, 1) := by decide +kernel
theorem dX4_refusalToTakeBack_14 : decode cX4_refusalToTakeBack 14 = .ok (.getfield 28, 3) := by decide +kernel
theorem dX4_refusalToTakeBack_17 : decode cX4_refusalToTakeBack 17 = .ok (.iload_n 1, 1) := by decide +kernel
theorem dX4_refusalToTakeBack_18 : decode cX4_refusalToTakeBack 18 = .ok (.invokevirtual 210, 3) := by decide +kernel
theorem dX4_refusalToTakeBack_21 : decode cX4_refusalToTakeBack 21 = .ok (.ifCond .eq 7, 3) := by decide +kernel
theorem dX4_refusalToTakeBack_24 : decode cX4_refusalToTakeBack 24 = .ok (.iconst 0, 1) := by decide +kernel
theorem dX4_refusalToTakeBack_25 : decode cX4_refusalToTakeBack 25 = .ok (.goto 5, 3) := by decide +kernel
theorem dX4_refusalToTakeBack_28 : decode cX4_refusalToTakeBack 28 = .ok (.bipush (-2), 2) := by decide +kernel
theorem dX4_refusalToTakeBack_30 : decode cX4_refusalToTakeBack 30 = .ok (.ireturn, 1) := by decide +kernel
set_option maxRecDepth 20000 in
theorem ggX4_carryOutCommand_X0_addInsertion : GoodIn wsX4_carryOutCommand wsX0_addInsertion := goodIn_r _ [7, 8, 9, 10, 11, 12, 13, 14, 15, 16, 6, 17, 18, 19, 20, 21, 22, 23, 24, 25, 26, 27, 28, 29, 30, 31, 32, 33, 34, 35, 36, 37, 38, 39, 40, 41, 42, 43, 44, 45, 46, 47, 48, 49, 50, 51, 52, 53, 54, 55, 56, 57, 58, 59, 60, 61, 62, 63, 64, 65, 66, 67, 68, 69, 70, 71, 72, 166, 167, 168, 169, 170, 171, 172, 173, 174, 175, 176, 177, 178] (by decide +kernel) (by decide +kernel)
set_option maxRecDepth 20000 in
theorem gX4_carryOutCommand_X0_addInsertion : GoodIn wsX4_carryOutCommand (wsV RX4 66 RX0 yX0_addInsertion wsX0_addInsertion) := goodIn_app (goodIn_of _ (by decide +kernel)) ggX4_carryOutCommand_X0_addInsertion
set_option maxRecDepth 20000 in
theorem ggX4_carryOutCommand_X4_erase : GoodIn wsX4_carryOutCommand wsX4_erase := goodIn_r _ [76, 2, 77, 78, 79, 6, 80, 9, 12, 41, 11, 81, 82, 83, 84, 85, 8, 49, 19, 50, 86, 87, 88, 89, 13, 90, 91, 92, 93, 14, 15, 16, 17, 18, 20, 21, 22, 23, 24, 25, 26, 27, 28, 29, 30, 31, 32, 33, 34, 35, 55, 56, 57, 58, 59, 60, 61, 62, 63, 10, 64, 65, 66, 67, 68, 69, 70, 71, 72, 152, 153, 154, 155, 156, 157, 158, 166, 167, 168, 169, 170, 171, 172, 173, 174, 175, 176] (by decide +kernel) (by decide +kernel)
set_option maxRecDepth 20000 in
theorem gX4_carryOutCommand_X4_erase : GoodIn wsX4_carryOutCommand (wsV RX4 228 RX4 yX4_erase wsX4_erase) := goodIn_app (goodIn_of _ (by decide +kernel)) ggX4_carryOutCommand_X4_erase
set_option maxRecDepth 20000 in
theorem ggX4_carryOutCommand_X4_closure : GoodIn wsX4_carryOutCommand wsX4_closure := goodIn_r _ [97, 2, 98, 33, 34, 6, 35, 9, 99, 100, 19, 101, 102, 49, 50, 103, 104, 105, 106, 59, 107, 108, 109, 110, 12, 152, 153, 154, 155, 156, 157, 158, 166, 167, 168, 169, 170, 171, 172, 173, 174, 175, 176] (by decide +kernel) (by decide +kernel)
set_option maxRecDepth 20000 in
theorem gX4_carryOutCommand_X4_closure : GoodIn wsX4_carryOutCommand (wsV RX4 231 RX4 yX4_closure wsX4_closure) := goodIn_app (goodIn_of _ (by decide +kernel)) ggX4_carryOutCommand_X4_closure
set_option maxRecDepth 20000 in
theorem ggX4_carryOutCommand_X4_takeBack : GoodIn wsX4_carryOutCommand wsX4_takeBack := goodIn_r _ [114, 2, 115, 116, 117, 19, 118, 119, 120, 121, 6, 122, 9, 123, 124, 125, 126, 59, 107, 108, 109, 110, 12, 49, 50, 127, 128, 129, 130, 10, 8, 131, 132, 133, 134, 69, 70, 71, 72, 13, 41, 60, 61, 62, 63, 11, 64, 65, 66, 67, 68, 152, 153, 154, 155, 156, 157, 158, 166, 167, 168, 169, 170, 171, 172, 173, 174, 175, 176] (by decide +kernel) (by decide +kernel)
set_option maxRecDepth 20000 in
theorem gX4_carryOutCommand_X4_takeBack : GoodIn wsX4_carryOutCommand (wsV RX4 234 RX4 yX4_takeBack wsX4_takeBack) := goodIn_app (goodIn_of _ (by decide +kernel)) ggX4_carryOutCommand_X4_takeBack
set_option maxRecDepth 20000 in
theorem ggX4_carryOutCommand_X4_opening : GoodIn wsX4_carryOutCommand wsX4_opening := goodIn_r _ [138, 2, 98, 33, 34, 6, 35, 9, 99, 100, 19, 101, 102, 49, 50, 139, 29, 30, 31, 12, 32, 152, 153, 154, 155, 156, 157, 158, 166, 167, 168, 169, 170, 171, 172, 173, 174, 175, 176] (by decide +kernel) (by decide +kernel)
set_option maxRecDepth 20000 in
theorem gX4_carryOutCommand_X4_opening : GoodIn wsX4_carryOutCommand (wsV RX4 237 RX4 yX4_opening wsX4_opening) := goodIn_app (goodIn_of _ (by decide +kernel)) ggX4_carryOutCommand_X4_opening
set_option maxRecDepth 20000 in
theorem ggX4_carryOutCommand_X4_bringBack : GoodIn wsX4_carryOutCommand wsX4_bringBack := goodIn_r _ [143, 2, 119, 120, 121, 6, 122, 9, 144, 145, 146, 147, 12, 59, 100, 19, 101, 127, 128, 129, 130, 10, 8, 131, 132, 133, 134, 69, 70, 71, 72, 13, 41, 60, 61, 62, 63, 11, 64, 65, 66, 67, 68, 152, 153, 154, 155, 156, 157, 158, 166, 167, 168, 169, 170, 171, 172, 173, 174, 175, 176] (by decide +kernel) (by decide +kernel)
set_option maxRecDepth 20000 in
theorem gX4_carryOutCommand_X4_bringBack : GoodIn wsX4_carryOutCommand (wsV RX4 240 RX4 yX4_bringBack wsX4_bringBack) := goodIn_app (goodIn_of _ (by decide +kernel)) ggX4_carryOutCommand_X4_bringBack
set_option maxRecDepth 20000 in
theorem ggX4_carryOutCommand_X4_setCursor : GoodIn wsX4_carryOutCommand wsX4_setCursor := goodIn_r _ [151, 2, 152, 153, 154, 155, 156, 157, 158, 166, 167, 168, 169, 170, 171, 172, 173, 174, 175, 176] (by decide +kernel) (by decide +kernel)
set_option maxRecDepth 20000 in
theorem gX4_carryOutCommand_X4_setCursor : GoodIn wsX4_carryOutCommand (wsV RX4 243 RX4 yX4_setCursor wsX4_setCursor) := goodIn_app (goodIn_of _ (by decide +kernel)) ggX4_carryOutCommand_X4_setCursor
theorem dX4_carryOutCommand_0 : decode cX4_carryOutCommand 0 = .ok (.aload_n 0, 1) := by decide +kernel
theorem dX4_carryOutCommand_1 : decode cX4_carryOutCommand 1 = .ok (.getfield 21, 3) := by decide +kernel
theorem dX4_carryOutCommand_4 : decode cX4_carryOutCommand 4 = .ok (.getfield 213, 3) := by decide +kernel
theorem dX4_carryOutCommand_7 : decode cX4_carryOutCommand 7 = .ok (.lookupswitch 148 #[(43, 49), (45, 85), (60, 104), (62, 120), (64, 136)], 49) := by decide +kernel
theorem dX4_carryOutCommand_56 : decode cX4_carryOutCommand 56 = .ok (.aload_n 0, 1) := by decide +kernel
theorem dX4_carryOutCommand_57 : decode cX4_carryOutCommand 57 = .ok (.getfield 28, 3) := by decide +kernel
theorem dX4_carryOutCommand_60 : decode cX4_carryOutCommand 60 = .ok (.aload_n 0, 1) := by decide +kernel
theorem dX4_carryOutCommand_61 : decode cX4_carryOutCommand 61 = .ok (.getfield 21, 3) := by decide +kernel
theorem dX4_carryOutCommand_64 : decode cX4_carryOutCommand 64 = .ok (.getfield 216, 3) := by decide +kernel
theorem dX4_carryOutCommand_67 : decode cX4_carryOutCommand 67 = .ok (.aload_n 0, 1) := by decide +kernel
theorem dX4_carryOutCommand_68 : decode cX4_carryOutCommand 68 = .ok (.getfield 21, 3) := by decide +kernel
theorem dX4_carryOutCommand_71 : decode cX4_carryOutCommand 71 = .ok (.getfield 169, 3) := by decide +kernel
theorem dX4_carryOutCommand_74 : decode cX4_carryOutCommand 74 = .ok (.aload_n 0, 1) := by decide +kernel
theorem dX4_carryOutCommand_75 : decode cX4_carryOutCommand 75 = .ok (.getfield 21, 3) := by decide +kernel
theorem dX4_carryOutCommand_78 : decode cX4_carryOutCommand 78 = .ok (.getfield 219, 3) := by decide +kernel
theorem dX4_carryOutCommand_81 : decode cX4_carryOutCommand 81 = .ok (.aload_n 0, 1) := by decide +kernel
theorem dX4_carryOutCommand_82 : decode cX4_carryOutCommand 82 = .ok (.getfield 21, 3) := by decide +kernel
theorem dX4_carryOutCommand_85 : decode cX4_carryOutCommand 85 = .ok (.getfield 222, 3) := by decide +kernel
theorem dX4_carryOutCommand_88 : decode cX4_carryOutCommand 88 = .ok (.invokevirtual 66, 3) := by decide +kernel
theorem dX4_carryOutCommand_91 : decode cX4_carryOutCommand 91 = .ok (.ireturn, 1) := by decide +kernel
theorem dX4_carryOutCommand_92 : decode cX4_carryOutCommand 92 = .ok (.aload_n 0, 1) := by decide +kernel
theorem dX4_carryOutCommand_93 : decode cX4_carryOutCommand 93 = .ok (.aload_n 0, 1) := by decide +kernel
theorem dX4_carryOutCommand_94 : decode cX4_carryOutCommand 94 = .ok (.getfield 21, 3) := by decide +kernel
theorem dX4_carryOutCommand_97 : decode cX4_carryOutCommand 97 = .ok (.getfield 216, 3) := by decide +kernel
theorem dX4_carryOutCommand_100 : decode cX4_carryOutCommand 100 = .ok (.aload_n 0, 1) := by decide +kernel
theorem dX4_carryOutCommand_101 : decode cX4_carryOutCommand 101 = .ok (.getfield 21, 3) := by decide +kernel
theorem dX4_carryOutCommand_104 : decode cX4_carryOutCommand 104 = .ok (.getfield 225, 3) := by decide +kernel
theorem dX4_carryOutCommand_107 : decode cX4_carryOutCommand 107 = .ok (.invokevirtual 228, 3) := by decide +kernel
theorem dX4_carryOutCommand_110 : decode cX4_carryOutCommand 110 = .ok (.ireturn, 1) := by decide +kernel
theorem dX4_carryOutCommand_111 : decode cX4_carryOutCommand 111 = .ok (.aload_n 0, 1) := by decide +kernel
theorem dX4_carryOutCommand_112 : decode cX4_carryOutCommand 112 = .ok (.aload_n 0, 1) := by decide +kernel
theorem dX4_carryOutCommand_113 : decode cX4_carryOutCommand 113 = .ok (.aload_n 0, 1) := by decide +kernel
theorem dX4_carryOutCommand_114 : decode cX4_carryOutCommand 114 = .ok (.getfield 21, 3) := by decide +kernel
theorem dX4_carryOutCommand_117 : decode cX4_carryOutCommand 117 = .ok (.getfield 216, 3) := by decide +kernel
theorem dX4_carryOutCommand_120 : decode cX4_carryOutCommand 120 = .ok (.invokevirtual 231, 3) := by decide +kernel
theorem dX4_carryOutCommand_123 : decode cX4_carryOutCommand 123 = .ok (.invokevirtual 234, 3) := by decide +kernel
theorem dX4_carryOutCommand_126 : decode cX4_carryOutCommand 126 = .ok (.ireturn, 1) := by decide +kernel
theorem dX4_carryOutCommand_127 : decode cX4_carryOutCommand 127 = .ok (.aload_n 0, 1) := by decide +kernel
theorem dX4_carryOutCommand_128 : decode cX4_carryOutCommand 128 = .ok (.aload_n 0, 1) := by decide +kernel
theorem dX4_carryOutCommand_129 : decode cX4_carryOutCommand 129 = .ok (.aload_n 0, 1) := by decide +kernel
theorem dX4_carryOutCommand_130 : decode cX4_carryOutCommand 130 = .ok (.getfield 21, 3) := by decide +kernel
theorem dX4_carryOutCommand_133 : decode cX4_carryOutCommand 133 = .ok (.getfield 216, 3) := by decide +kernel
theorem dX4_carryOutCommand_136 : decode cX4_carryOutCommand 136 = .ok (.invokevirtual 237, 3) := by decide +kernel
theorem dX4_carryOutCommand_139 : decode cX4_carryOutCommand 139 = .ok (.invokevirtual 240, 3) := by decide +kernel
theorem dX4_carryOutCommand_142 : decode cX4_carryOutCommand 142 = .ok (.ireturn, 1) := by decide +kernel
theorem dX4_carryOutCommand_143 : decode cX4_carryOutCommand 143 = .ok (.aload_n 0, 1) := by decide +kernel
theorem dX4_carryOutCommand_144 : decode cX4_carryOutCommand 144 = .ok (.aload_n 0, 1) := by decide +kernel
theorem dX4_carryOutCommand_145 : decode cX4_carryOutCommand 145 = .ok (.getfield 21, 3) := by decide +kernel
theorem dX4_carryOutCommand_148 : decode cX4_carryOutCommand 148 = .ok (.getfield 216, 3) := by decide +kernel
theorem dX4_carryOutCommand_151 : decode cX4_carryOutCommand 151 = .ok (.invokevirtual 243, 3) := by decide +kernel
theorem dX4_carryOutCommand_154 : decode cX4_carryOutCommand 154 = .ok (.ireturn, 1) := by decide +kernel
theorem dX4_carryOutCommand_155 : decode cX4_carryOutCommand 155 = .ok (.iconst (-1), 1) := by decide +kernel
theorem dX4_carryOutCommand_156 : decode cX4_carryOutCommand 156 = .ok (.ireturn, 1) := by decide +kernel
set_option maxRecDepth 20000 in
theorem ggX4_seekCheapest_J6_bitCount_0f7a4 : GoodIn wsX4_seekCheapest wsJ6_bitCount_0f7a4 := goodIn_r _ [8, 9, 10, 11] (by decide +kernel) (by decide +kernel)
set_option maxRecDepth 20000 in
theorem gX4_seekCheapest_J6_bitCount_0f7a4 : GoodIn wsX4_seekCheapest (va_wsS RX4 99 yJ6_bitCount_0f7a4 wsJ6_bitCount_0f7a4) := goodIn_app (goodIn_of _ (by decide +kernel)) ggX4_seekCheapest_J6_bitCount_0f7a4
set_option maxRecDepth 20000 in
theorem ggX4_seekCheapest_X3_setGoal : GoodIn wsX4_seekCheapest wsX3_setGoal := goodIn_r _ [16, 17, 18, 140, 141, 142, 143, 144, 145, 146, 147, 148, 149, 150, 151] (by decide +kernel) (by decide +kernel)
set_option maxRecDepth 20000 in
theorem gX4_seekCheapest_X3_setGoal : GoodIn wsX4_seekCheapest (wsV RX4 246 RX3 yX3_setGoal wsX3_setGoal) := goodIn_app (goodIn_of _ (by decide +kernel)) ggX4_seekCheapest_X3_setGoal
set_option maxRecDepth 20000 in
theorem ggX4_seekCheapest_X3_readState : GoodIn wsX4_seekCheapest wsX3_readState := goodIn_r _ [22, 23, 24, 25, 26, 27, 28, 29, 30, 31, 32, 33, 34, 35, 36, 37, 38, 39, 40, 41, 6, 7, 8, 9, 10, 11, 42, 43, 44, 45, 46, 47, 48, 49, 50, 51, 52, 53, 54, 55, 56, 57, 58, 59, 60, 61, 62, 63, 15, 64, 17, 18, 65, 66, 67, 68, 69, 70, 71, 72, 129, 130, 131, 132, 133, 134, 135, 136, 137, 138, 139, 140, 141, 142, 143, 144, 145, 146, 147, 148, 149, 150, 151] (by decide +kernel) (by decide +kernel)
set_option maxRecDepth 20000 in
theorem gX4_seekCheapest_X3_readState : GoodIn wsX4_seekCheapest (wsV RX4 250 RX3 yX3_readState wsX3_readState) := goodIn_app (goodIn_of _ (by decide +kernel)) ggX4_seekCheapest_X3_readState
set_option maxRecDepth 20000 in
theorem ggX4_seekCheapest_X3_findBest : GoodIn wsX4_seekCheapest wsX3_findBest := goodIn_r _ [76, 24, 77, 78, 79, 6, 7, 8, 9, 10, 11, 80, 81, 82, 15, 83, 23, 25, 27, 28, 29, 84, 85, 86, 87, 88, 89, 90, 33, 91, 35, 92, 93, 94, 95, 96, 97, 98, 99, 100, 101, 102, 103, 17, 18, 104, 105, 106, 107, 26, 71, 108, 109, 110, 111, 69, 70, 112, 113, 114, 115, 72, 116, 117, 118, 119, 120, 39, 121, 140, 141, 142, 143, 144, 145, 146, 147, 148, 149, 150, 151, 129, 130, 131, 132, 133, 134, 135, 136, 137, 138, 139] (by decide +kernel) (by decide +kernel)
set_option maxRecDepth 20000 in
theorem gX4_seekCheapest_X3_findBest : GoodIn wsX4_seekCheapest (wsV RX4 254 RX3 yX3_findBest wsX3_findBest) := goodIn_app (goodIn_of _ (by decide +kernel)) ggX4_seekCheapest_X3_findBest
theorem dX4_seekCheapest_0 : decode cX4_seekCheapest 0 = .ok (.iload_n 1, 1) := by decide +kernel
theorem dX4_seekCheapest_1 : decode cX4_seekCheapest 1 = .ok (.ifCond .lt 18, 3) := by decide +kernel
theorem dX4_seekCheapest_4 : decode cX4_seekCheapest 4 = .ok (.iload_n 1, 1) := by decide +kernel
theorem dX4_seekCheapest_5 : decode cX4_seekCheapest 5 = .ok (.iconst 3, 1) := by decide +kernel
theorem dX4_seekCheapest_6 : decode cX4_seekCheapest 6 = .ok (.if_icmp .gt 13, 3) := by decide +kernel
theorem dX4_seekCheapest_9 : decode cX4_seekCheapest 9 = .ok (.iload_n 2, 1) := by decide +kernel
theorem dX4_seekCheapest_10 : decode cX4_seekCheapest 10 = .ok (.ifCond .lt 9, 3) := by decide +kernel
theorem dX4_seekCheapest_13 : decode cX4_seekCheapest 13 = .ok (.iload_n 2, 1) := by decide +kernel
theorem dX4_seekCheapest_14 : decode cX4_seekCheapest 14 = .ok (.bipush 126, 2) := by decide +kernel
theorem dX4_seekCheapest_16 : decode cX4_seekCheapest 16 = .ok (.if_icmp .le 5, 3) := by decide +kernel
theorem dX4_seekCheapest_19 : decode cX4_seekCheapest 19 = .ok (.iconst (-1), 1) := by decide +kernel
theorem dX4_seekCheapest_20 : decode cX4_seekCheapest 20 = .ok (.ireturn, 1) := by decide +kernel
theorem dX4_seekCheapest_21 : decode cX4_seekCheapest 21 = .ok (.aload_n 0, 1) := by decide +kernel
theorem dX4_seekCheapest_22 : decode cX4_seekCheapest 22 = .ok (.getfield 28, 3) := by decide +kernel
theorem dX4_seekCheapest_25 : decode cX4_seekCheapest 25 = .ok (.getfield 96, 3) := by decide +kernel
theorem dX4_seekCheapest_28 : decode cX4_seekCheapest 28 = .ok (.invokestatic 99, 3) := by decide +kernel
theorem dX4_seekCheapest_31 : decode cX4_seekCheapest 31 = .ok (.bipush 12, 2) := by decide +kernel
theorem dX4_seekCheapest_33 : decode cX4_seekCheapest 33 = .ok (.if_icmp .le 6, 3) := by decide +kernel
theorem dX4_seekCheapest_36 : decode cX4_seekCheapest 36 = .ok (.bipush (-2), 2) := by decide +kernel
theorem dX4_seekCheapest_38 : decode cX4_seekCheapest 38 = .ok (.ireturn, 1) := by decide +kernel
theorem dX4_seekCheapest_39 : decode cX4_seekCheapest 39 = .ok (.aload_n 0, 1) := by decide +kernel
theorem dX4_seekCheapest_40 : decode cX4_seekCheapest 40 = .ok (.getfield 35, 3) := by decide +kernel
theorem dX4_seekCheapest_43 : decode cX4_seekCheapest 43 = .ok (.iload_n 1, 1) := by decide +kernel
theorem dX4_seekCheapest_44 : decode cX4_seekCheapest 44 = .ok (.iload_n 2, 1) := by decide +kernel
theorem dX4_seekCheapest_45 : decode cX4_seekCheapest 45 = .ok (.invokevirtual 246, 3) := by decide +kernel
theorem dX4_seekCheapest_48 : decode cX4_seekCheapest 48 = .ok (.aload_n 0, 1) := by decide +kernel
theorem dX4_seekCheapest_49 : decode cX4_seekCheapest 49 = .ok (.getfield 35, 3) := by decide +kernel
theorem dX4_seekCheapest_52 : decode cX4_seekCheapest 52 = .ok (.aload_n 0, 1) := by decide +kernel
theorem dX4_seekCheapest_53 : decode cX4_seekCheapest 53 = .ok (.getfield 28, 3) := by decide +kernel
theorem dX4_seekCheapest_56 : decode cX4_seekCheapest 56 = .ok (.aload_n 0, 1) := by decide +kernel
theorem dX4_seekCheapest_57 : decode cX4_seekCheapest 57 = .ok (.getfield 43, 3) := by decide +kernel
theorem dX4_seekCheapest_60 : decode cX4_seekCheapest 60 = .ok (.aload_n 0, 1) := by decide +kernel
theorem dX4_seekCheapest_61 : decode cX4_seekCheapest 61 = .ok (.getfield 47, 3) := by decide +kernel
theorem dX4_seekCheapest_64 : decode cX4_seekCheapest 64 = .ok (.invokevirtual 250, 3) := by decide +kernel
theorem dX4_seekCheapest_67 : decode cX4_seekCheapest 67 = .ok (.aload_n 0, 1) := by decide +kernel
theorem dX4_seekCheapest_68 : decode cX4_seekCheapest 68 = .ok (.getfield 35, 3) := by decide +kernel
theorem dX4_seekCheapest_71 : decode cX4_seekCheapest 71 = .ok (.aload_n 0, 1) := by decide +kernel
theorem dX4_seekCheapest_72 : decode cX4_seekCheapest 72 = .ok (.getfield 28, 3) := by decide +kernel
theorem dX4_seekCheapest_75 : decode cX4_seekCheapest 75 = .ok (.invokevirtual 254, 3) := by decide +kernel
theorem dX4_seekCheapest_78 : decode cX4_seekCheapest 78 = .ok (.ifCond .eq 7, 3) := by decide +kernel
theorem dX4_seekCheapest_81 : decode cX4_seekCheapest 81 = .ok (.iconst 0, 1) := by decide +kernel
theorem dX4_seekCheapest_82 : decode cX4_seekCheapest 82 = .ok (.goto 5, 3) := by decide +kernel
theorem dX4_seekCheapest_85 : decode cX4_seekCheapest 85 = .ok (.bipush (-9), 2) := by decide +kernel
theorem dX4_seekCheapest_87 : decode cX4_seekCheapest 87 = .ok (.ireturn, 1) := by decide +kernel
