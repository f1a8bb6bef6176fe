theorem dX0_init_0 : decode cX0_init 0 = .ok (.aload_n 0, 1) := by decide +kernel
theorem dX0_init_1 : decode cX0_init 1 = .ok (.invokespecial 3, 3) := by decide +kernel
theorem dX0_init_4 : decode cX0_init 4 = .ok (.aload_n 0, 1) := by decide +kernel
theorem dX0_init_5 : decode cX0_init 5 = .ok (.sipush 160, 3) := by decide +kernel
theorem dX0_init_8 : decode cX0_init 8 = .ok (.newarray .int, 2) := by decide +kernel
theorem dX0_init_10 : decode cX0_init 10 = .ok (.putfield 9, 3) := by decide +kernel
theorem dX0_init_13 : decode cX0_init 13 = .ok (.aload_n 0, 1) := by decide +kernel
theorem dX0_init_14 : decode cX0_init 14 = .ok (.sipush 160, 3) := by decide +kernel
theorem dX0_init_17 : decode cX0_init 17 = .ok (.newarray .int, 2) := by decide +kernel
theorem dX0_init_19 : decode cX0_init 19 = .ok (.putfield 15, 3) := by decide +kernel
theorem dX0_init_22 : decode cX0_init 22 = .ok (.aload_n 0, 1) := by decide +kernel
theorem dX0_init_23 : decode cX0_init 23 = .ok (.sipush 160, 3) := by decide +kernel
theorem dX0_init_26 : decode cX0_init 26 = .ok (.newarray .int, 2) := by decide +kernel
theorem dX0_init_28 : decode cX0_init 28 = .ok (.putfield 18, 3) := by decide +kernel
theorem dX0_init_31 : decode cX0_init 31 = .ok (.aload_n 0, 1) := by decide +kernel
theorem dX0_init_32 : decode cX0_init 32 = .ok (.bipush 60, 2) := by decide +kernel
theorem dX0_init_34 : decode cX0_init 34 = .ok (.newarray .int, 2) := by decide +kernel
theorem dX0_init_36 : decode cX0_init 36 = .ok (.putfield 21, 3) := by decide +kernel
theorem dX0_init_39 : decode cX0_init 39 = .ok (.aload_n 0, 1) := by decide +kernel
theorem dX0_init_40 : decode cX0_init 40 = .ok (.bipush 16, 2) := by decide +kernel
theorem dX0_init_42 : decode cX0_init 42 = .ok (.newarray .int, 2) := by decide +kernel
theorem dX0_init_44 : decode cX0_init 44 = .ok (.putfield 24, 3) := by decide +kernel
theorem dX0_init_47 : decode cX0_init 47 = .ok (.return_, 1) := by decide +kernel
set_option maxRecDepth 20000 in
theorem ggX0_startWith_X1_codeAt : GoodIn wsX0_startWith wsX1_codeAt := goodIn_r _ [14, 15, 16, 35, 36] (by decide +kernel) (by decide +kernel)
set_option maxRecDepth 20000 in
theorem gX0_startWith_X1_codeAt : GoodIn wsX0_startWith (wsV RX0 42 RX1 yX1_codeAt wsX1_codeAt) := goodIn_app (goodIn_of _ (by decide +kernel)) ggX0_startWith_X1_codeAt
set_option maxRecDepth 20000 in
theorem ggX0_startWith_X0_putCharacter : GoodIn wsX0_startWith wsX0_putCharacter := goodIn_r _ [21, 22, 23, 24, 37, 38, 39, 40, 41, 42, 43, 44, 45, 46, 47] (by decide +kernel) (by decide +kernel)
set_option maxRecDepth 20000 in
theorem gX0_startWith_X0_putCharacter : GoodIn wsX0_startWith (wsV RX0 46 RX0 yX0_putCharacter wsX0_putCharacter) := goodIn_app (goodIn_of _ (by decide +kernel)) ggX0_startWith_X0_putCharacter
set_option maxRecDepth 20000 in
theorem ggX0_startWith_X0_refresh : GoodIn wsX0_startWith wsX0_refresh := goodIn_r _ [28, 29, 5, 8, 30, 9, 1, 2, 3, 4, 31, 32, 33, 20, 34, 23, 24, 37, 38, 39, 40, 41, 42, 43, 44, 45, 46, 47] (by decide +kernel) (by decide +kernel)
set_option maxRecDepth 20000 in
theorem gX0_startWith_X0_refresh : GoodIn wsX0_startWith (wsV RX0 62 RX0 yX0_refresh wsX0_refresh) := goodIn_app (goodIn_of _ (by decide +kernel)) ggX0_startWith_X0_refresh
theorem dX0_startWith_0 : decode cX0_startWith 0 = .ok (.aload_n 0, 1) := by decide +kernel
theorem dX0_startWith_1 : decode cX0_startWith 1 = .ok (.aload_n 1, 1) := by decide +kernel
theorem dX0_startWith_2 : decode cX0_startWith 2 = .ok (.getfield 27, 3) := by decide +kernel
theorem dX0_startWith_5 : decode cX0_startWith 5 = .ok (.bipush 60, 2) := by decide +kernel
theorem dX0_startWith_7 : decode cX0_startWith 7 = .ok (.invokestatic 33, 3) := by decide +kernel
theorem dX0_startWith_10 : decode cX0_startWith 10 = .ok (.putfield 39, 3) := by decide +kernel
theorem dX0_startWith_13 : decode cX0_startWith 13 = .ok (.iconst 0, 1) := by decide +kernel
theorem dX0_startWith_14 : decode cX0_startWith 14 = .ok (.istore_n 2, 1) := by decide +kernel
theorem dX0_startWith_15 : decode cX0_startWith 15 = .ok (.iload_n 2, 1) := by decide +kernel
theorem dX0_startWith_16 : decode cX0_startWith 16 = .ok (.aload_n 0, 1) := by decide +kernel
theorem dX0_startWith_17 : decode cX0_startWith 17 = .ok (.getfield 39, 3) := by decide +kernel
theorem dX0_startWith_20 : decode cX0_startWith 20 = .ok (.if_icmp .ge 20, 3) := by decide +kernel
theorem dX0_startWith_23 : decode cX0_startWith 23 = .ok (.aload_n 0, 1) := by decide +kernel
theorem dX0_startWith_24 : decode cX0_startWith 24 = .ok (.iload_n 2, 1) := by decide +kernel
theorem dX0_startWith_25 : decode cX0_startWith 25 = .ok (.aload_n 1, 1) := by decide +kernel
theorem dX0_startWith_26 : decode cX0_startWith 26 = .ok (.iload_n 2, 1) := by decide +kernel
theorem dX0_startWith_27 : decode cX0_startWith 27 = .ok (.invokevirtual 42, 3) := by decide +kernel
theorem dX0_startWith_30 : decode cX0_startWith 30 = .ok (.iconst 0, 1) := by decide +kernel
theorem dX0_startWith_31 : decode cX0_startWith 31 = .ok (.invokevirtual 46, 3) := by decide +kernel
theorem dX0_startWith_34 : decode cX0_startWith 34 = .ok (.iinc 2 1, 3) := by decide +kernel
theorem dX0_startWith_37 : decode cX0_startWith 37 = .ok (.goto (-22), 3) := by decide +kernel
theorem dX0_startWith_40 : decode cX0_startWith 40 = .ok (.aload_n 0, 1) := by decide +kernel
theorem dX0_startWith_41 : decode cX0_startWith 41 = .ok (.iconst 0, 1) := by decide +kernel
theorem dX0_startWith_42 : decode cX0_startWith 42 = .ok (.putfield 50, 3) := by decide +kernel
theorem dX0_startWith_45 : decode cX0_startWith 45 = .ok (.aload_n 0, 1) := by decide +kernel
theorem dX0_startWith_46 : decode cX0_startWith 46 = .ok (.iconst 0, 1) := by decide +kernel
theorem dX0_startWith_47 : decode cX0_startWith 47 = .ok (.putfield 53, 3) := by decide +kernel
theorem dX0_startWith_50 : decode cX0_startWith 50 = .ok (.aload_n 0, 1) := by decide +kernel
theorem dX0_startWith_51 : decode cX0_startWith 51 = .ok (.iconst 0, 1) := by decide +kernel
theorem dX0_startWith_52 : decode cX0_startWith 52 = .ok (.putfield 56, 3) := by decide +kernel
theorem dX0_startWith_55 : decode cX0_startWith 55 = .ok (.aload_n 0, 1) := by decide +kernel
theorem dX0_startWith_56 : decode cX0_startWith 56 = .ok (.iconst 0, 1) := by decide +kernel
theorem dX0_startWith_57 : decode cX0_startWith 57 = .ok (.putfield 59, 3) := by decide +kernel
theorem dX0_startWith_60 : decode cX0_startWith 60 = .ok (.aload_n 0, 1) := by decide +kernel
theorem dX0_startWith_61 : decode cX0_startWith 61 = .ok (.invokevirtual 62, 3) := by decide +kernel
theorem dX0_startWith_64 : decode cX0_startWith 64 = .ok (.return_, 1) := by decide +kernel
theorem dX0_copyFrom_0 : decode cX0_copyFrom 0 = .ok (.aload_n 1, 1) := by decide +kernel
theorem dX0_copyFrom_1 : decode cX0_copyFrom 1 = .ok (.getfield 9, 3) := by decide +kernel
theorem dX0_copyFrom_4 : decode cX0_copyFrom 4 = .ok (.iconst 0, 1) := by decide +kernel
theorem dX0_copyFrom_5 : decode cX0_copyFrom 5 = .ok (.aload_n 0, 1) := by decide +kernel
theorem dX0_copyFrom_6 : decode cX0_copyFrom 6 = .ok (.getfield 9, 3) := by decide +kernel
theorem dX0_copyFrom_9 : decode cX0_copyFrom 9 = .ok (.iconst 0, 1) := by decide +kernel
theorem dX0_copyFrom_10 : decode cX0_copyFrom 10 = .ok (.sipush 160, 3) := by decide +kernel
theorem dX0_copyFrom_13 : decode cX0_copyFrom 13 = .ok (.invokestatic 65, 3) := by decide +kernel
theorem dX0_copyFrom_16 : decode cX0_copyFrom 16 = .ok (.aload_n 1, 1) := by decide +kernel
theorem dX0_copyFrom_17 : decode cX0_copyFrom 17 = .ok (.getfield 15, 3) := by decide +kernel
theorem dX0_copyFrom_20 : decode cX0_copyFrom 20 = .ok (.iconst 0, 1) := by decide +kernel
theorem dX0_copyFrom_21 : decode cX0_copyFrom 21 = .ok (.aload_n 0, 1) := by decide +kernel
theorem dX0_copyFrom_22 : decode cX0_copyFrom 22 = .ok (.getfield 15, 3) := by decide +kernel
theorem dX0_copyFrom_25 : decode cX0_copyFrom 25 = .ok (.iconst 0, 1) := by decide +kernel
theorem dX0_copyFrom_26 : decode cX0_copyFrom 26 = .ok (.sipush 160, 3) := by decide +kernel
theorem dX0_copyFrom_29 : decode cX0_copyFrom 29 = .ok (.invokestatic 65, 3) := by decide +kernel
theorem dX0_copyFrom_32 : decode cX0_copyFrom 32 = .ok (.aload_n 1, 1) := by decide +kernel
theorem dX0_copyFrom_33 : decode cX0_copyFrom 33 = .ok (.getfield 18, 3) := by decide +kernel
theorem dX0_copyFrom_36 : decode cX0_copyFrom 36 = .ok (.iconst 0, 1) := by decide +kernel
theorem dX0_copyFrom_37 : decode cX0_copyFrom 37 = .ok (.aload_n 0, 1) := by decide +kernel
theorem dX0_copyFrom_38 : decode cX0_copyFrom 38 = .ok (.getfield 18, 3) := by decide +kernel
theorem dX0_copyFrom_41 : decode cX0_copyFrom 41 = .ok (.iconst 0, 1) := by decide +kernel
theorem dX0_copyFrom_42 : decode cX0_copyFrom 42 = .ok (.sipush 160, 3) := by decide +kernel
theorem dX0_copyFrom_45 : decode cX0_copyFrom 45 = .ok (.invokestatic 65, 3) := by decide +kernel
theorem dX0_copyFrom_48 : decode cX0_copyFrom 48 = .ok (.aload_n 1, 1) := by decide +kernel
theorem dX0_copyFrom_49 : decode cX0_copyFrom 49 = .ok (.getfield 21, 3) := by decide +kernel
theorem dX0_copyFrom_52 : decode cX0_copyFrom 52 = .ok (.iconst 0, 1) := by decide +kernel
theorem dX0_copyFrom_53 : decode cX0_copyFrom 53 = .ok (.aload_n 0, 1) := by decide +kernel
theorem dX0_copyFrom_54 : decode cX0_copyFrom 54 = .ok (.getfield 21, 3) := by decide +kernel
theorem dX0_copyFrom_57 : decode cX0_copyFrom 57 = .ok (.iconst 0, 1) := by decide +kernel
theorem dX0_copyFrom_58 : decode cX0_copyFrom 58 = .ok (.bipush 60, 2) := by decide +kernel
theorem dX0_copyFrom_60 : decode cX0_copyFrom 60 = .ok (.invokestatic 65, 3) := by decide +kernel
theorem dX0_copyFrom_63 : decode cX0_copyFrom 63 = .ok (.aload_n 1, 1) := by decide +kernel
theorem dX0_copyFrom_64 : decode cX0_copyFrom 64 = .ok (.getfield 24, 3) := by decide +kernel
theorem dX0_copyFrom_67 : decode cX0_copyFrom 67 = .ok (.iconst 0, 1) := by decide +kernel
theorem dX0_copyFrom_68 : decode cX0_copyFrom 68 = .ok (.aload_n 0, 1) := by decide +kernel
theorem dX0_copyFrom_69 : decode cX0_copyFrom 69 = .ok (.getfield 24, 3) := by decide +kernel
theorem dX0_copyFrom_72 : decode cX0_copyFrom 72 = .ok (.iconst 0, 1) := by decide +kernel
theorem dX0_copyFrom_73 : decode cX0_copyFrom 73 = .ok (.bipush 16, 2) := by decide +kernel
theorem dX0_copyFrom_75 : decode cX0_copyFrom 75 = .ok (.invokestatic 65, 3) := by decide +kernel
theorem dX0_copyFrom_78 : decode cX0_copyFrom 78 = .ok (.aload_n 0, 1) := by decide +kernel
theorem dX0_copyFrom_79 : decode cX0_copyFrom 79 = .ok (.aload_n 1, 1) := by decide +kernel
theorem dX0_copyFrom_80 : decode cX0_copyFrom 80 = .ok (.getfield 39, 3) := by decide +kernel
theorem dX0_copyFrom_83 : decode cX0_copyFrom 83 = .ok (.putfield 39, 3) := by decide +kernel
theorem dX0_copyFrom_86 : decode cX0_copyFrom 86 = .ok (.aload_n 0, 1) := by decide +kernel
theorem dX0_copyFrom_87 : decode cX0_copyFrom 87 = .ok (.aload_n 1, 1) := by decide +kernel
theorem dX0_copyFrom_88 : decode cX0_copyFrom 88 = .ok (.getfield 71, 3) := by decide +kernel
theorem dX0_copyFrom_91 : decode cX0_copyFrom 91 = .ok (.putfield 71, 3) := by decide +kernel
theorem dX0_copyFrom_94 : decode cX0_copyFrom 94 = .ok (.aload_n 0, 1) := by decide +kernel
theorem dX0_copyFrom_95 : decode cX0_copyFrom 95 = .ok (.aload_n 1, 1) := by decide +kernel
theorem dX0_copyFrom_96 : decode cX0_copyFrom 96 = .ok (.getfield 50, 3) := by decide +kernel
theorem dX0_copyFrom_99 : decode cX0_copyFrom 99 = .ok (.putfield 50, 3) := by decide +kernel
theorem dX0_copyFrom_102 : decode cX0_copyFrom 102 = .ok (.aload_n 0, 1) := by decide +kernel
theorem dX0_copyFrom_103 : decode cX0_copyFrom 103 = .ok (.aload_n 1, 1) := by decide +kernel
theorem dX0_copyFrom_104 : decode cX0_copyFrom 104 = .ok (.getfield 53, 3) := by decide +kernel
theorem dX0_copyFrom_107 : decode cX0_copyFrom 107 = .ok (.putfield 53, 3) := by decide +kernel
theorem dX0_copyFrom_110 : decode cX0_copyFrom 110 = .ok (.aload_n 0, 1) := by decide +kernel
theorem dX0_copyFrom_111 : decode cX0_copyFrom 111 = .ok (.aload_n 1, 1) := by decide +kernel
theorem dX0_copyFrom_112 : decode cX0_copyFrom 112 = .ok (.getfield 56, 3) := by decide +kernel
theorem dX0_copyFrom_115 : decode cX0_copyFrom 115 = .ok (.putfield 56, 3) := by decide +kernel
theorem dX0_copyFrom_118 : decode cX0_copyFrom 118 = .ok (.aload_n 0, 1) := by decide +kernel
theorem dX0_copyFrom_119 : decode cX0_copyFrom 119 = .ok (.aload_n 1, 1) := by decide +kernel
theorem dX0_copyFrom_120 : decode cX0_copyFrom 120 = .ok (.getfield 59, 3) := by decide +kernel
theorem dX0_copyFrom_123 : decode cX0_copyFrom 123 = .ok (.putfield 59, 3) := by decide +kernel
theorem dX0_copyFrom_126 : decode cX0_copyFrom 126 = .ok (.return_, 1) := by decide +kernel
set_option maxRecDepth 20000 in
theorem ggX0_addInsertion_X0_basesThrough : GoodIn wsX0_addInsertion wsX0_basesThrough := goodIn_r _ [11, 12, 13, 14, 15, 16, 17, 18, 19, 20, 21, 22, 23, 24, 10, 25, 5, 26, 27, 28, 29, 2, 67, 68, 69, 70, 71, 72, 73, 74, 75, 76, 77] (by decide +kernel) (by decide +kernel)
set_option maxRecDepth 20000 in
theorem gX0_addInsertion_X0_basesThrough : GoodIn wsX0_addInsertion (wsV RX0 72 RX0 yX0_basesThrough wsX0_basesThrough) := goodIn_app (goodIn_of _ (by decide +kernel)) ggX0_addInsertion_X0_basesThrough
set_option maxRecDepth 20000 in
theorem ggX0_addInsertion_X0_makeRoom : GoodIn wsX0_addInsertion wsX0_makeRoom := goodIn_r _ [33, 3, 34, 6, 35, 67, 68, 69, 70, 71, 72, 73, 74, 75, 76, 77] (by decide +kernel) (by decide +kernel)
set_option maxRecDepth 20000 in
theorem gX0_addInsertion_X0_makeRoom : GoodIn wsX0_addInsertion (wsV RX0 75 RX0 yX0_makeRoom wsX0_makeRoom) := goodIn_app (goodIn_of _ (by decide +kernel)) ggX0_addInsertion_X0_makeRoom
set_option maxRecDepth 20000 in
theorem ggX0_addInsertion_X1_codeAt : GoodIn wsX0_addInsertion wsX1_codeAt := goodIn_r _ [40, 41, 42, 78, 79] (by decide +kernel) (by decide +kernel)
set_option maxRecDepth 20000 in
theorem gX0_addInsertion_X1_codeAt : GoodIn wsX0_addInsertion (wsV RX0 42 RX1 yX1_codeAt wsX1_codeAt) := goodIn_app (goodIn_of _ (by decide +kernel)) ggX0_addInsertion_X1_codeAt
set_option maxRecDepth 20000 in
theorem ggX0_addInsertion_X4_single : GoodIn wsX0_addInsertion wsX4_single := goodIn_r _ [44] (by decide +kernel) (by decide +kernel)
set_option maxRecDepth 20000 in
theorem gX0_addInsertion_X4_single_n79 : GoodIn wsX0_addInsertion (wsX4_single) := ggX0_addInsertion_X4_single
set_option maxRecDepth 20000 in
theorem ggX0_addInsertion_X0_putCharacter : GoodIn wsX0_addInsertion wsX0_putCharacter := goodIn_r _ [48, 34, 6, 35, 67, 68, 69, 70, 71, 72, 73, 74, 75, 76, 77] (by decide +kernel) (by decide +kernel)
set_option maxRecDepth 20000 in
theorem gX0_addInsertion_X0_putCharacter : GoodIn wsX0_addInsertion (wsV RX0 46 RX0 yX0_putCharacter wsX0_putCharacter) := goodIn_app (goodIn_of _ (by decide +kernel)) ggX0_addInsertion_X0_putCharacter
set_option maxRecDepth 20000 in
theorem ggX0_addInsertion_X0_finishEdit : GoodIn wsX0_addInsertion wsX0_finishEdit := goodIn_r _ [52, 2, 53, 43, 13, 44, 54, 55, 56, 10, 57, 1, 3, 4, 58, 59, 60, 61, 62, 63, 64, 65, 66, 6, 35, 67, 68, 69, 70, 71, 72, 73, 74, 75, 76, 77] (by decide +kernel) (by decide +kernel)
set_option maxRecDepth 20000 in
theorem gX0_addInsertion_X0_finishEdit : GoodIn wsX0_addInsertion (wsV RX0 82 RX0 yX0_finishEdit wsX0_finishEdit) := goodIn_app (goodIn_of _ (by decide +kernel)) ggX0_addInsertion_X0_finishEdit
theorem dX0_addInsertion_0 : decode cX0_addInsertion 0 = .ok (.iload_n 1, 1) := by decide +kernel
theorem dX0_addInsertion_1 : decode cX0_addInsertion 1 = .ok (.ifCond .lt 11, 3) := by decide +kernel
theorem dX0_addInsertion_4 : decode cX0_addInsertion 4 = .ok (.iload_n 1, 1) := by decide +kernel
theorem dX0_addInsertion_5 : decode cX0_addInsertion 5 = .ok (.aload_n 0, 1) := by decide +kernel
theorem dX0_addInsertion_6 : decode cX0_addInsertion 6 = .ok (.getfield 71, 3) := by decide +kernel
theorem dX0_addInsertion_9 : decode cX0_addInsertion 9 = .ok (.if_icmp .le 5, 3) := by decide +kernel
theorem dX0_addInsertion_12 : decode cX0_addInsertion 12 = .ok (.iconst (-1), 1) := by decide +kernel
theorem dX0_addInsertion_13 : decode cX0_addInsertion 13 = .ok (.ireturn, 1) := by decide +kernel
theorem dX0_addInsertion_14 : decode cX0_addInsertion 14 = .ok (.iload 4, 2) := by decide +kernel
theorem dX0_addInsertion_16 : decode cX0_addInsertion 16 = .ok (.iconst 1, 1) := by decide +kernel
theorem dX0_addInsertion_17 : decode cX0_addInsertion 17 = .ok (.if_icmp .lt 10, 3) := by decide +kernel
theorem dX0_addInsertion_20 : decode cX0_addInsertion 20 = .ok (.iload 4, 2) := by decide +kernel
theorem dX0_addInsertion_22 : decode cX0_addInsertion 22 = .ok (.bipush 8, 2) := by decide +kernel
theorem dX0_addInsertion_24 : decode cX0_addInsertion 24 = .ok (.if_icmp .le 6, 3) := by decide +kernel
theorem dX0_addInsertion_27 : decode cX0_addInsertion 27 = .ok (.bipush (-2), 2) := by decide +kernel
theorem dX0_addInsertion_29 : decode cX0_addInsertion 29 = .ok (.ireturn, 1) := by decide +kernel
theorem dX0_addInsertion_30 : decode cX0_addInsertion 30 = .ok (.aload_n 0, 1) := by decide +kernel
theorem dX0_addInsertion_31 : decode cX0_addInsertion 31 = .ok (.getfield 50, 3) := by decide +kernel
theorem dX0_addInsertion_34 : decode cX0_addInsertion 34 = .ok (.bipush 16, 2) := by decide +kernel
theorem dX0_addInsertion_36 : decode cX0_addInsertion 36 = .ok (.if_icmp .ge 28, 3) := by decide +kernel
theorem dX0_addInsertion_39 : decode cX0_addInsertion 39 = .ok (.aload_n 0, 1) := by decide +kernel
theorem dX0_addInsertion_40 : decode cX0_addInsertion 40 = .ok (.getfield 71, 3) := by decide +kernel
theorem dX0_addInsertion_43 : decode cX0_addInsertion 43 = .ok (.iload 4, 2) := by decide +kernel
theorem dX0_addInsertion_45 : decode cX0_addInsertion 45 = .ok (.iadd, 1) := by decide +kernel
theorem dX0_addInsertion_46 : decode cX0_addInsertion 46 = .ok (.bipush 60, 2) := by decide +kernel
theorem dX0_addInsertion_48 : decode cX0_addInsertion 48 = .ok (.if_icmp .gt 16, 3) := by decide +kernel
theorem dX0_addInsertion_51 : decode cX0_addInsertion 51 = .ok (.aload_n 0, 1) := by decide +kernel
theorem dX0_addInsertion_52 : decode cX0_addInsertion 52 = .ok (.getfield 39, 3) := by decide +kernel
theorem dX0_addInsertion_55 : decode cX0_addInsertion 55 = .ok (.iload 4, 2) := by decide +kernel
theorem dX0_addInsertion_57 : decode cX0_addInsertion 57 = .ok (.iadd, 1) := by decide +kernel
theorem dX0_addInsertion_58 : decode cX0_addInsertion 58 = .ok (.sipush 160, 3) := by decide +kernel
theorem dX0_addInsertion_61 : decode cX0_addInsertion 61 = .ok (.if_icmp .le 6, 3) := by decide +kernel
theorem dX0_addInsertion_64 : decode cX0_addInsertion 64 = .ok (.bipush (-3), 2) := by decide +kernel
theorem dX0_addInsertion_66 : decode cX0_addInsertion 66 = .ok (.ireturn, 1) := by decide +kernel
theorem dX0_addInsertion_67 : decode cX0_addInsertion 67 = .ok (.iload_n 1, 1) := by decide +kernel
theorem dX0_addInsertion_68 : decode cX0_addInsertion 68 = .ok (.ifCond .ne 7, 3) := by decide +kernel
theorem dX0_addInsertion_71 : decode cX0_addInsertion 71 = .ok (.iconst 0, 1) := by decide +kernel
theorem dX0_addInsertion_72 : decode cX0_addInsertion 72 = .ok (.goto 13, 3) := by decide +kernel
theorem dX0_addInsertion_75 : decode cX0_addInsertion 75 = .ok (.aload_n 0, 1) := by decide +kernel
theorem dX0_addInsertion_76 : decode cX0_addInsertion 76 = .ok (.getfield 21, 3) := by decide +kernel
theorem dX0_addInsertion_79 : decode cX0_addInsertion 79 = .ok (.iload_n 1, 1) := by decide +kernel
theorem dX0_addInsertion_80 : decode cX0_addInsertion 80 = .ok (.iconst 1, 1) := by decide +kernel
theorem dX0_addInsertion_81 : decode cX0_addInsertion 81 = .ok (.isub, 1) := by decide +kernel
theorem dX0_addInsertion_82 : decode cX0_addInsertion 82 = .ok (.iaload, 1) := by decide +kernel
theorem dX0_addInsertion_83 : decode cX0_addInsertion 83 = .ok (.iconst 1, 1) := by decide +kernel
theorem dX0_addInsertion_84 : decode cX0_addInsertion 84 = .ok (.iadd, 1) := by decide +kernel
theorem dX0_addInsertion_85 : decode cX0_addInsertion 85 = .ok (.istore 5, 2) := by decide +kernel
theorem dX0_addInsertion_87 : decode cX0_addInsertion 87 = .ok (.aload_n 0, 1) := by decide +kernel
theorem dX0_addInsertion_88 : decode cX0_addInsertion 88 = .ok (.getfield 24, 3) := by decide +kernel
theorem dX0_addInsertion_91 : decode cX0_addInsertion 91 = .ok (.aload_n 0, 1) := by decide +kernel
theorem dX0_addInsertion_92 : decode cX0_addInsertion 92 = .ok (.getfield 50, 3) := by decide +kernel
theorem dX0_addInsertion_95 : decode cX0_addInsertion 95 = .ok (.iload_n 1, 1) := by decide +kernel
theorem dX0_addInsertion_96 : decode cX0_addInsertion 96 = .ok (.ifCond .ne 7, 3) := by decide +kernel
theorem dX0_addInsertion_99 : decode cX0_addInsertion 99 = .ok (.iconst 0, 1) := by decide +kernel
theorem dX0_addInsertion_100 : decode cX0_addInsertion 100 = .ok (.goto 16, 3) := by decide +kernel
theorem dX0_addInsertion_103 : decode cX0_addInsertion 103 = .ok (.aload_n 0, 1) := by decide +kernel
theorem dX0_addInsertion_104 : decode cX0_addInsertion 104 = .ok (.aload_n 0, 1) := by decide +kernel
theorem dX0_addInsertion_105 : decode cX0_addInsertion 105 = .ok (.getfield 15, 3) := by decide +kernel
theorem dX0_addInsertion_108 : decode cX0_addInsertion 108 = .ok (.iload 5, 2) := by decide +kernel
theorem dX0_addInsertion_110 : decode cX0_addInsertion 110 = .ok (.iconst 1, 1) := by decide +kernel
theorem dX0_addInsertion_111 : decode cX0_addInsertion 111 = .ok (.isub, 1) := by decide +kernel
theorem dX0_addInsertion_112 : decode cX0_addInsertion 112 = .ok (.iaload, 1) := by decide +kernel
theorem dX0_addInsertion_113 : decode cX0_addInsertion 113 = .ok (.invokevirtual 72, 3) := by decide +kernel
theorem dX0_addInsertion_116 : decode cX0_addInsertion 116 = .ok (.iastore, 1) := by decide +kernel
theorem dX0_addInsertion_117 : decode cX0_addInsertion 117 = .ok (.aload_n 0, 1) := by decide +kernel
theorem dX0_addInsertion_118 : decode cX0_addInsertion 118 = .ok (.iload 5, 2) := by decide +kernel
theorem dX0_addInsertion_120 : decode cX0_addInsertion 120 = .ok (.iload 4, 2) := by decide +kernel
theorem dX0_addInsertion_122 : decode cX0_addInsertion 122 = .ok (.invokevirtual 75, 3) := by decide +kernel
theorem dX0_addInsertion_125 : decode cX0_addInsertion 125 = .ok (.iconst 0, 1) := by decide +kernel
theorem dX0_addInsertion_126 : decode cX0_addInsertion 126 = .ok (.istore 6, 2) := by decide +kernel
theorem dX0_addInsertion_128 : decode cX0_addInsertion 128 = .ok (.iload 6, 2) := by decide +kernel
theorem dX0_addInsertion_130 : decode cX0_addInsertion 130 = .ok (.iload 4, 2) := by decide +kernel
theorem dX0_addInsertion_132 : decode cX0_addInsertion 132 = .ok (.if_icmp .ge 33, 3) := by decide +kernel
theorem dX0_addInsertion_135 : decode cX0_addInsertion 135 = .ok (.aload_n 0, 1) := by decide +kernel
theorem dX0_addInsertion_136 : decode cX0_addInsertion 136 = .ok (.iload 5, 2) := by decide +kernel
theorem dX0_addInsertion_138 : decode cX0_addInsertion 138 = .ok (.iload 6, 2) := by decide +kernel
theorem dX0_addInsertion_140 : decode cX0_addInsertion 140 = .ok (.iadd, 1) := by decide +kernel
theorem dX0_addInsertion_141 : decode cX0_addInsertion 141 = .ok (.aload_n 2, 1) := by decide +kernel
theorem dX0_addInsertion_142 : decode cX0_addInsertion 142 = .ok (.iload_n 3, 1) := by decide +kernel
theorem dX0_addInsertion_143 : decode cX0_addInsertion 143 = .ok (.iload 6, 2) := by decide +kernel
theorem dX0_addInsertion_145 : decode cX0_addInsertion 145 = .ok (.iadd, 1) := by decide +kernel
theorem dX0_addInsertion_146 : decode cX0_addInsertion 146 = .ok (.invokevirtual 42, 3) := by decide +kernel
theorem dX0_addInsertion_149 : decode cX0_addInsertion 149 = .ok (.aload_n 0, 1) := by decide +kernel
theorem dX0_addInsertion_150 : decode cX0_addInsertion 150 = .ok (.getfield 50, 3) := by decide +kernel
theorem dX0_addInsertion_153 : decode cX0_addInsertion 153 = .ok (.invokestatic 79, 3) := by decide +kernel
theorem dX0_addInsertion_156 : decode cX0_addInsertion 156 = .ok (.invokevirtual 46, 3) := by decide +kernel
theorem dX0_addInsertion_159 : decode cX0_addInsertion 159 = .ok (.iinc 6 1, 3) := by decide +kernel
theorem dX0_addInsertion_162 : decode cX0_addInsertion 162 = .ok (.goto (-34), 3) := by decide +kernel
theorem dX0_addInsertion_165 : decode cX0_addInsertion 165 = .ok (.aload_n 0, 1) := by decide +kernel
theorem dX0_addInsertion_166 : decode cX0_addInsertion 166 = .ok (.invokevirtual 82, 3) := by decide +kernel
theorem dX0_addInsertion_169 : decode cX0_addInsertion 169 = .ok (.ireturn, 1) := by decide +kernel
set_option maxRecDepth 20000 in
theorem ggX0_addErasure_X0_hasStretch : GoodIn wsX0_addErasure wsX0_hasStretch := goodIn_r _ [10, 11, 64, 65, 66, 67, 68, 69, 70, 71, 72, 73, 74] (by decide +kernel) (by decide +kernel)
set_option maxRecDepth 20000 in
theorem gX0_addErasure_X0_hasStretch : GoodIn wsX0_addErasure (wsV RX0 86 RX0 yX0_hasStretch wsX0_hasStretch) := goodIn_app (goodIn_of _ (by decide +kernel)) ggX0_addErasure_X0_hasStretch
set_option maxRecDepth 20000 in
theorem ggX0_addErasure_X4_single : GoodIn wsX0_addErasure wsX4_single := goodIn_r _ [14] (by decide +kernel) (by decide +kernel)
set_option maxRecDepth 20000 in
theorem gX0_addErasure_X4_single_n79 : GoodIn wsX0_addErasure (wsX4_single) := ggX0_addErasure_X4_single
set_option maxRecDepth 20000 in
theorem ggX0_addErasure_X0_ownerAt : GoodIn wsX0_addErasure wsX0_ownerAt := goodIn_r _ [18, 19, 4, 20, 21, 22, 9, 23, 11, 64, 65, 66, 67, 68, 69, 70, 71, 72, 73, 74] (by decide +kernel) (by decide +kernel)
set_option maxRecDepth 20000 in
theorem gX0_addErasure_X0_ownerAt : GoodIn wsX0_addErasure (wsV RX0 90 RX0 yX0_ownerAt wsX0_ownerAt) := goodIn_app (goodIn_of _ (by decide +kernel)) ggX0_addErasure_X0_ownerAt
set_option maxRecDepth 20000 in
theorem ggX0_addErasure_X0_basesThrough : GoodIn wsX0_addErasure wsX0_basesThrough := goodIn_r _ [27, 28, 13, 29, 30, 31, 32, 33, 34, 35, 36, 37, 38, 39, 9, 40, 2, 41, 42, 43, 44, 1, 64, 65, 66, 67, 68, 69, 70, 71, 72, 73, 74] (by decide +kernel) (by decide +kernel)
set_option maxRecDepth 20000 in
theorem gX0_addErasure_X0_basesThrough : GoodIn wsX0_addErasure (wsV RX0 72 RX0 yX0_basesThrough wsX0_basesThrough) := goodIn_app (goodIn_of _ (by decide +kernel)) ggX0_addErasure_X0_basesThrough
set_option maxRecDepth 20000 in
theorem ggX0_addErasure_X0_finishEdit : GoodIn wsX0_addErasure wsX0_finishEdit := goodIn_r _ [48, 1, 49, 12, 13, 14, 50, 51, 52, 9, 53, 11, 54, 4, 55, 56, 57, 58, 59, 60, 61, 62, 63, 19, 3, 64, 65, 66, 67, 68, 69, 70, 71, 72, 73, 74] (by decide +kernel) (by decide +kernel)
set_option maxRecDepth 20000 in
theorem gX0_addErasure_X0_finishEdit : GoodIn wsX0_addErasure (wsV RX0 82 RX0 yX0_finishEdit wsX0_finishEdit) := goodIn_app (goodIn_of _ (by decide +kernel)) ggX0_addErasure_X0_finishEdit
theorem dX0_addErasure_0 : decode cX0_addErasure 0 = .ok (.aload_n 0, 1) := by decide +kernel
theorem dX0_addErasure_1 : decode cX0_addErasure 1 = .ok (.iload_n 1, 1) := by decide +kernel
theorem dX0_addErasure_2 : decode cX0_addErasure 2 = .ok (.iload_n 2, 1) := by decide +kernel
theorem dX0_addErasure_3 : decode cX0_addErasure 3 = .ok (.invokevirtual 86, 3) := by decide +kernel
theorem dX0_addErasure_6 : decode cX0_addErasure 6 = .ok (.ifCond .ne 5, 3) := by decide +kernel
theorem dX0_addErasure_9 : decode cX0_addErasure 9 = .ok (.iconst (-1), 1) := by decide +kernel
theorem dX0_addErasure_10 : decode cX0_addErasure 10 = .ok (.ireturn, 1) := by decide +kernel
theorem dX0_addErasure_11 : decode cX0_addErasure 11 = .ok (.aload_n 0, 1) := by decide +kernel
theorem dX0_addErasure_12 : decode cX0_addErasure 12 = .ok (.getfield 50, 3) := by decide +kernel
theorem dX0_addErasure_15 : decode cX0_addErasure 15 = .ok (.bipush 16, 2) := by decide +kernel
theorem dX0_addErasure_17 : decode cX0_addErasure 17 = .ok (.if_icmp .lt 6, 3) := by decide +kernel
theorem dX0_addErasure_20 : decode cX0_addErasure 20 = .ok (.bipush (-3), 2) := by decide +kernel
theorem dX0_addErasure_22 : decode cX0_addErasure 22 = .ok (.ireturn, 1) := by decide +kernel
theorem dX0_addErasure_23 : decode cX0_addErasure 23 = .ok (.aload_n 0, 1) := by decide +kernel
theorem dX0_addErasure_24 : decode cX0_addErasure 24 = .ok (.getfield 24, 3) := by decide +kernel
theorem dX0_addErasure_27 : decode cX0_addErasure 27 = .ok (.aload_n 0, 1) := by decide +kernel
theorem dX0_addErasure_28 : decode cX0_addErasure 28 = .ok (.getfield 50, 3) := by decide +kernel
theorem dX0_addErasure_31 : decode cX0_addErasure 31 = .ok (.iconst 0, 1) := by decide +kernel
theorem dX0_addErasure_32 : decode cX0_addErasure 32 = .ok (.iastore, 1) := by decide +kernel
theorem dX0_addErasure_33 : decode cX0_addErasure 33 = .ok (.iload_n 1, 1) := by decide +kernel
theorem dX0_addErasure_34 : decode cX0_addErasure 34 = .ok (.istore_n 3, 1) := by decide +kernel
theorem dX0_addErasure_35 : decode cX0_addErasure 35 = .ok (.iload_n 3, 1) := by decide +kernel
theorem dX0_addErasure_36 : decode cX0_addErasure 36 = .ok (.iload_n 2, 1) := by decide +kernel
theorem dX0_addErasure_37 : decode cX0_addErasure 37 = .ok (.if_icmp .ge 51, 3) := by decide +kernel
theorem dX0_addErasure_40 : decode cX0_addErasure 40 = .ok (.aload_n 0, 1) := by decide +kernel
theorem dX0_addErasure_41 : decode cX0_addErasure 41 = .ok (.getfield 18, 3) := by decide +kernel
theorem dX0_addErasure_44 : decode cX0_addErasure 44 = .ok (.aload_n 0, 1) := by decide +kernel
theorem dX0_addErasure_45 : decode cX0_addErasure 45 = .ok (.getfield 21, 3) := by decide +kernel
theorem dX0_addErasure_48 : decode cX0_addErasure 48 = .ok (.iload_n 3, 1) := by decide +kernel
theorem dX0_addErasure_49 : decode cX0_addErasure 49 = .ok (.iaload, 1) := by decide +kernel
theorem dX0_addErasure_50 : decode cX0_addErasure 50 = .ok (.dup2, 1) := by decide +kernel
theorem dX0_addErasure_51 : decode cX0_addErasure 51 = .ok (.iaload, 1) := by decide +kernel
theorem dX0_addErasure_52 : decode cX0_addErasure 52 = .ok (.aload_n 0, 1) := by decide +kernel
theorem dX0_addErasure_53 : decode cX0_addErasure 53 = .ok (.getfield 50, 3) := by decide +kernel
theorem dX0_addErasure_56 : decode cX0_addErasure 56 = .ok (.invokestatic 79, 3) := by decide +kernel
theorem dX0_addErasure_59 : decode cX0_addErasure 59 = .ok (.ior, 1) := by decide +kernel
theorem dX0_addErasure_60 : decode cX0_addErasure 60 = .ok (.iastore, 1) := by decide +kernel
theorem dX0_addErasure_61 : decode cX0_addErasure 61 = .ok (.aload_n 0, 1) := by decide +kernel
theorem dX0_addErasure_62 : decode cX0_addErasure 62 = .ok (.getfield 24, 3) := by decide +kernel
theorem dX0_addErasure_65 : decode cX0_addErasure 65 = .ok (.aload_n 0, 1) := by decide +kernel
theorem dX0_addErasure_66 : decode cX0_addErasure 66 = .ok (.getfield 50, 3) := by decide +kernel
theorem dX0_addErasure_69 : decode cX0_addErasure 69 = .ok (.dup2, 1) := by decide +kernel
theorem dX0_addErasure_70 : decode cX0_addErasure 70 = .ok (.iaload, 1) := by decide +kernel
theorem dX0_addErasure_71 : decode cX0_addErasure 71 = .ok (.aload_n 0, 1) := by decide +kernel
theorem dX0_addErasure_72 : decode cX0_addErasure 72 = .ok (.aload_n 0, 1) := by decide +kernel
theorem dX0_addErasure_73 : decode cX0_addErasure 73 = .ok (.iload_n 3, 1) := by decide +kernel
theorem dX0_addErasure_74 : decode cX0_addErasure 74 = .ok (.invokevirtual 90, 3) := by decide +kernel
theorem dX0_addErasure_77 : decode cX0_addErasure 77 = .ok (.invokevirtual 72, 3) := by decide +kernel
theorem dX0_addErasure_80 : decode cX0_addErasure 80 = .ok (.ior, 1) := by decide +kernel
theorem dX0_addErasure_81 : decode cX0_addErasure 81 = .ok (.iastore, 1) := by decide +kernel
theorem dX0_addErasure_82 : decode cX0_addErasure 82 = .ok (.iinc 3 1, 3) := by decide +kernel
theorem dX0_addErasure_85 : decode cX0_addErasure 85 = .ok (.goto (-50), 3) := by decide +kernel
theorem dX0_addErasure_88 : decode cX0_addErasure 88 = .ok (.aload_n 0, 1) := by decide +kernel
theorem dX0_addErasure_89 : decode cX0_addErasure 89 = .ok (.dup, 1) := by decide +kernel
theorem dX0_addErasure_90 : decode cX0_addErasure 90 = .ok (.getfield 53, 3) := by decide +kernel
theorem dX0_addErasure_93 : decode cX0_addErasure 93 = .ok (.aload_n 0, 1) := by decide +kernel
theorem dX0_addErasure_94 : decode cX0_addErasure 94 = .ok (.getfield 50, 3) := by decide +kernel
theorem dX0_addErasure_97 : decode cX0_addErasure 97 = .ok (.invokestatic 79, 3) := by decide +kernel
theorem dX0_addErasure_100 : decode cX0_addErasure 100 = .ok (.ior, 1) := by decide +kernel
theorem dX0_addErasure_101 : decode cX0_addErasure 101 = .ok (.putfield 53, 3) := by decide +kernel
theorem dX0_addErasure_104 : decode cX0_addErasure 104 = .ok (.aload_n 0, 1) := by decide +kernel
theorem dX0_addErasure_105 : decode cX0_addErasure 105 = .ok (.invokevirtual 82, 3) := by decide +kernel
theorem dX0_addErasure_108 : decode cX0_addErasure 108 = .ok (.ireturn, 1) := by decide +kernel
theorem dX0_putCharacter_0 : decode cX0_putCharacter 0 = .ok (.iload_n 1, 1) := by decide +kernel
theorem dX0_putCharacter_1 : decode cX0_putCharacter 1 = .ok (.ifCond .lt 31, 3) := by decide +kernel
theorem dX0_putCharacter_4 : decode cX0_putCharacter 4 = .ok (.iload_n 1, 1) := by decide +kernel
theorem dX0_putCharacter_5 : decode cX0_putCharacter 5 = .ok (.sipush 160, 3) := by decide +kernel
theorem dX0_putCharacter_8 : decode cX0_putCharacter 8 = .ok (.if_icmp .ge 24, 3) := by decide +kernel
theorem dX0_putCharacter_11 : decode cX0_putCharacter 11 = .ok (.aload_n 0, 1) := by decide +kernel
theorem dX0_putCharacter_12 : decode cX0_putCharacter 12 = .ok (.getfield 9, 3) := by decide +kernel
theorem dX0_putCharacter_15 : decode cX0_putCharacter 15 = .ok (.iload_n 1, 1) := by decide +kernel
theorem dX0_putCharacter_16 : decode cX0_putCharacter 16 = .ok (.iload_n 2, 1) := by decide +kernel
theorem dX0_putCharacter_17 : decode cX0_putCharacter 17 = .ok (.iastore, 1) := by decide +kernel
theorem dX0_putCharacter_18 : decode cX0_putCharacter 18 = .ok (.aload_n 0, 1) := by decide +kernel
theorem dX0_putCharacter_19 : decode cX0_putCharacter 19 = .ok (.getfield 15, 3) := by decide +kernel
theorem dX0_putCharacter_22 : decode cX0_putCharacter 22 = .ok (.iload_n 1, 1) := by decide +kernel
theorem dX0_putCharacter_23 : decode cX0_putCharacter 23 = .ok (.iload_n 3, 1) := by decide +kernel
theorem dX0_putCharacter_24 : decode cX0_putCharacter 24 = .ok (.iastore, 1) := by decide +kernel
theorem dX0_putCharacter_25 : decode cX0_putCharacter 25 = .ok (.aload_n 0, 1) := by decide +kernel
theorem dX0_putCharacter_26 : decode cX0_putCharacter 26 = .ok (.getfield 18, 3) := by decide +kernel
theorem dX0_putCharacter_29 : decode cX0_putCharacter 29 = .ok (.iload_n 1, 1) := by decide +kernel
theorem dX0_putCharacter_30 : decode cX0_putCharacter 30 = .ok (.iconst 0, 1) := by decide +kernel
theorem dX0_putCharacter_31 : decode cX0_putCharacter 31 = .ok (.iastore, 1) := by decide +kernel
theorem dX0_putCharacter_32 : decode cX0_putCharacter 32 = .ok (.return_, 1) := by decide +kernel
theorem dX0_makeRoom_0 : decode cX0_makeRoom 0 = .ok (.aload_n 0, 1) := by decide +kernel
theorem dX0_makeRoom_1 : decode cX0_makeRoom 1 = .ok (.getfield 39, 3) := by decide +kernel
theorem dX0_makeRoom_4 : decode cX0_makeRoom 4 = .ok (.iconst 1, 1) := by decide +kernel
theorem dX0_makeRoom_5 : decode cX0_makeRoom 5 = .ok (.isub, 1) := by decide +kernel
theorem dX0_makeRoom_6 : decode cX0_makeRoom 6 = .ok (.istore_n 3, 1) := by decide +kernel
theorem dX0_makeRoom_7 : decode cX0_makeRoom 7 = .ok (.iload_n 3, 1) := by decide +kernel
theorem dX0_makeRoom_8 : decode cX0_makeRoom 8 = .ok (.iload_n 1, 1) := by decide +kernel
theorem dX0_makeRoom_9 : decode cX0_makeRoom 9 = .ok (.if_icmp .lt 51, 3) := by decide +kernel
theorem dX0_makeRoom_12 : decode cX0_makeRoom 12 = .ok (.aload_n 0, 1) := by decide +kernel
theorem dX0_makeRoom_13 : decode cX0_makeRoom 13 = .ok (.getfield 9, 3) := by decide +kernel
theorem dX0_makeRoom_16 : decode cX0_makeRoom 16 = .ok (.iload_n 3, 1) := by decide +kernel
theorem dX0_makeRoom_17 : decode cX0_makeRoom 17 = .ok (.iload_n 2, 1) := by decide +kernel
theorem dX0_makeRoom_18 : decode cX0_makeRoom 18 = .ok (.iadd, 1) := by decide +kernel
theorem dX0_makeRoom_19 : decode cX0_makeRoom 19 = .ok (.aload_n 0, 1) := by decide +kernel
theorem dX0_makeRoom_20 : decode cX0_makeRoom 20 = .ok (.getfield 9, 3) := by decide +kernel
theorem dX0_makeRoom_23 : decode cX0_makeRoom 23 = .ok (.iload_n 3, 1) := by decide +kernel
theorem dX0_makeRoom_24 : decode cX0_makeRoom 24 = .ok (.iaload, 1) := by decide +kernel
theorem dX0_makeRoom_25 : decode cX0_makeRoom 25 = .ok (.iastore, 1) := by decide +kernel
theorem dX0_makeRoom_26 : decode cX0_makeRoom 26 = .ok (.aload_n 0, 1) := by decide +kernel
theorem dX0_makeRoom_27 : decode cX0_makeRoom 27 = .ok (.getfield 15, 3) := by decide +kernel
theorem dX0_makeRoom_30 : decode cX0_makeRoom 30 = .ok (.iload_n 3, 1) := by decide +kernel
theorem dX0_makeRoom_31 : decode cX0_makeRoom 31 = .ok (.iload_n 2, 1) := by decide +kernel
theorem dX0_makeRoom_32 : decode cX0_makeRoom 32 = .ok (.iadd, 1) := by decide +kernel
theorem dX0_makeRoom_33 : decode cX0_makeRoom 33 = .ok (.aload_n 0, 1) := by decide +kernel
theorem dX0_makeRoom_34 : decode cX0_makeRoom 34 = .ok (.getfield 15, 3) := by decide +kernel
theorem dX0_makeRoom_37 : decode cX0_makeRoom 37 = .ok (.iload_n 3, 1) := by decide +kernel
theorem dX0_makeRoom_38 : decode cX0_makeRoom 38 = .ok (.iaload, 1) := by decide +kernel
theorem dX0_makeRoom_39 : decode cX0_makeRoom 39 = .ok (.iastore, 1) := by decide +kernel
theorem dX0_makeRoom_40 : decode cX0_makeRoom 40 = .ok (.aload_n 0, 1) := by decide +kernel
theorem dX0_makeRoom_41 : decode cX0_makeRoom 41 = .ok (.getfield 18, 3) := by decide +kernel
theorem dX0_makeRoom_44 : decode cX0_makeRoom 44 = .ok (.iload_n 3, 1) := by decide +kernel
theorem dX0_makeRoom_45 : decode cX0_makeRoom 45 = .ok (.iload_n 2, 1) := by decide +kernel
theorem dX0_makeRoom_46 : decode cX0_makeRoom 46 = .ok (.iadd, 1) := by decide +kernel
theorem dX0_makeRoom_47 : decode cX0_makeRoom 47 = .ok (.aload_n 0, 1) := by decide +kernel
theorem dX0_makeRoom_48 : decode cX0_makeRoom 48 = .ok (.getfield 18, 3) := by decide +kernel
theorem dX0_makeRoom_51 : decode cX0_makeRoom 51 = .ok (.iload_n 3, 1) := by decide +kernel
theorem dX0_makeRoom_52 : decode cX0_makeRoom 52 = .ok (.iaload, 1) := by decide +kernel
theorem dX0_makeRoom_53 : decode cX0_makeRoom 53 = .ok (.iastore, 1) := by decide +kernel
theorem dX0_makeRoom_54 : decode cX0_makeRoom 54 = .ok (.iinc 3 (-1), 3) := by decide +kernel
theorem dX0_makeRoom_57 : decode cX0_makeRoom 57 = .ok (.goto (-50), 3) := by decide +kernel
theorem dX0_makeRoom_60 : decode cX0_makeRoom 60 = .ok (.aload_n 0, 1) := by decide +kernel
theorem dX0_makeRoom_61 : decode cX0_makeRoom 61 = .ok (.dup, 1) := by decide +kernel
theorem dX0_makeRoom_62 : decode cX0_makeRoom 62 = .ok (.getfield 39, 3) := by decide +kernel
theorem dX0_makeRoom_65 : decode cX0_makeRoom 65 = .ok (.iload_n 2, 1) := by decide +kernel
theorem dX0_makeRoom_66 : decode cX0_makeRoom 66 = .ok (.iadd, 1) := by decide +kernel
theorem dX0_makeRoom_67 : decode cX0_makeRoom 67 = .ok (.putfield 39, 3) := by decide +kernel
theorem dX0_makeRoom_70 : decode cX0_makeRoom 70 = .ok (.return_, 1) := by decide +kernel
set_option maxRecDepth 20000 in
theorem ggX0_finishEdit_X4_single : GoodIn wsX0_finishEdit wsX4_single := goodIn_r _ [5] (by decide +kernel) (by decide +kernel)
set_option maxRecDepth 20000 in
theorem gX0_finishEdit_X4_single_n79 : GoodIn wsX0_finishEdit (wsX4_single) := ggX0_finishEdit_X4_single
set_option maxRecDepth 20000 in
theorem ggX0_finishEdit_X0_refresh : GoodIn wsX0_finishEdit wsX0_refresh := goodIn_r _ [10, 11, 12, 2, 13, 14, 15, 16, 17, 18, 19, 20, 21, 9, 22, 23, 24, 25, 26, 27, 28, 29, 30, 31, 32, 33, 34, 35] (by decide +kernel) (by decide +kernel)
set_option maxRecDepth 20000 in
theorem gX0_finishEdit_X0_refresh : GoodIn wsX0_finishEdit (wsV RX0 62 RX0 yX0_refresh wsX0_refresh) := goodIn_app (goodIn_of _ (by decide +kernel)) ggX0_finishEdit_X0_refresh
theorem dX0_finishEdit_0 : decode cX0_finishEdit 0 = .ok (.aload_n 0, 1) := by decide +kernel
theorem dX0_finishEdit_1 : decode cX0_finishEdit 1 = .ok (.getfield 50, 3) := by decide +kernel
theorem dX0_finishEdit_4 : decode cX0_finishEdit 4 = .ok (.istore_n 1, 1) := by decide +kernel
theorem dX0_finishEdit_5 : decode cX0_finishEdit 5 = .ok (.aload_n 0, 1) := by decide +kernel
theorem dX0_finishEdit_6 : decode cX0_finishEdit 6 = .ok (.dup, 1) := by decide +kernel
theorem dX0_finishEdit_7 : decode cX0_finishEdit 7 = .ok (.getfield 56, 3) := by decide +kernel
theorem dX0_finishEdit_10 : decode cX0_finishEdit 10 = .ok (.iload_n 1, 1) := by decide +kernel
theorem dX0_finishEdit_11 : decode cX0_finishEdit 11 = .ok (.invokestatic 79, 3) := by decide +kernel
theorem dX0_finishEdit_14 : decode cX0_finishEdit 14 = .ok (.ior, 1) := by decide +kernel
theorem dX0_finishEdit_15 : decode cX0_finishEdit 15 = .ok (.putfield 56, 3) := by decide +kernel
theorem dX0_finishEdit_18 : decode cX0_finishEdit 18 = .ok (.aload_n 0, 1) := by decide +kernel
theorem dX0_finishEdit_19 : decode cX0_finishEdit 19 = .ok (.dup, 1) := by decide +kernel
theorem dX0_finishEdit_20 : decode cX0_finishEdit 20 = .ok (.getfield 50, 3) := by decide +kernel
theorem dX0_finishEdit_23 : decode cX0_finishEdit 23 = .ok (.iconst 1, 1) := by decide +kernel
theorem dX0_finishEdit_24 : decode cX0_finishEdit 24 = .ok (.iadd, 1) := by decide +kernel
theorem dX0_finishEdit_25 : decode cX0_finishEdit 25 = .ok (.putfield 50, 3) := by decide +kernel
theorem dX0_finishEdit_28 : decode cX0_finishEdit 28 = .ok (.aload_n 0, 1) := by decide +kernel
theorem dX0_finishEdit_29 : decode cX0_finishEdit 29 = .ok (.invokevirtual 62, 3) := by decide +kernel
theorem dX0_finishEdit_32 : decode cX0_finishEdit 32 = .ok (.iload_n 1, 1) := by decide +kernel
theorem dX0_finishEdit_33 : decode cX0_finishEdit 33 = .ok (.ireturn, 1) := by decide +kernel
set_option maxRecDepth 20000 in
theorem ggX0_refresh_X0_isVisible : GoodIn wsX0_refresh wsX0_isVisible := goodIn_r _ [14, 15, 16, 17, 18, 19, 20, 21, 22, 23, 24, 25, 26, 27] (by decide +kernel) (by decide +kernel)
set_option maxRecDepth 20000 in
theorem gX0_refresh_X0_isVisible : GoodIn wsX0_refresh (wsV RX0 93 RX0 yX0_isVisible wsX0_isVisible) := goodIn_app (goodIn_of _ (by decide +kernel)) ggX0_refresh_X0_isVisible
theorem dX0_refresh_0 : decode cX0_refresh 0 = .ok (.aload_n 0, 1) := by decide +kernel
theorem dX0_refresh_1 : decode cX0_refresh 1 = .ok (.iconst 0, 1) := by decide +kernel
theorem dX0_refresh_2 : decode cX0_refresh 2 = .ok (.putfield 71, 3) := by decide +kernel
theorem dX0_refresh_5 : decode cX0_refresh 5 = .ok (.iconst 0, 1) := by decide +kernel
theorem dX0_refresh_6 : decode cX0_refresh 6 = .ok (.istore_n 1, 1) := by decide +kernel
theorem dX0_refresh_7 : decode cX0_refresh 7 = .ok (.iload_n 1, 1) := by decide +kernel
theorem dX0_refresh_8 : decode cX0_refresh 8 = .ok (.aload_n 0, 1) := by decide +kernel
theorem dX0_refresh_9 : decode cX0_refresh 9 = .ok (.getfield 39, 3) := by decide +kernel
theorem dX0_refresh_12 : decode cX0_refresh 12 = .ok (.if_icmp .ge 50, 3) := by decide +kernel
theorem dX0_refresh_15 : decode cX0_refresh 15 = .ok (.aload_n 0, 1) := by decide +kernel
theorem dX0_refresh_16 : decode cX0_refresh 16 = .ok (.getfield 71, 3) := by decide +kernel
theorem dX0_refresh_19 : decode cX0_refresh 19 = .ok (.bipush 60, 2) := by decide +kernel
theorem dX0_refresh_21 : decode cX0_refresh 21 = .ok (.if_icmp .ge 41, 3) := by decide +kernel
theorem dX0_refresh_24 : decode cX0_refresh 24 = .ok (.aload_n 0, 1) := by decide +kernel
theorem dX0_refresh_25 : decode cX0_refresh 25 = .ok (.iload_n 1, 1) := by decide +kernel
theorem dX0_refresh_26 : decode cX0_refresh 26 = .ok (.aload_n 0, 1) := by decide +kernel
theorem dX0_refresh_27 : decode cX0_refresh 27 = .ok (.getfield 56, 3) := by decide +kernel
theorem dX0_refresh_30 : decode cX0_refresh 30 = .ok (.invokevirtual 93, 3) := by decide +kernel
theorem dX0_refresh_33 : decode cX0_refresh 33 = .ok (.ifCond .eq 23, 3) := by decide +kernel
theorem dX0_refresh_36 : decode cX0_refresh 36 = .ok (.aload_n 0, 1) := by decide +kernel
theorem dX0_refresh_37 : decode cX0_refresh 37 = .ok (.getfield 21, 3) := by decide +kernel
theorem dX0_refresh_40 : decode cX0_refresh 40 = .ok (.aload_n 0, 1) := by decide +kernel
theorem dX0_refresh_41 : decode cX0_refresh 41 = .ok (.getfield 71, 3) := by decide +kernel
theorem dX0_refresh_44 : decode cX0_refresh 44 = .ok (.iload_n 1, 1) := by decide +kernel
theorem dX0_refresh_45 : decode cX0_refresh 45 = .ok (.iastore, 1) := by decide +kernel
theorem dX0_refresh_46 : decode cX0_refresh 46 = .ok (.aload_n 0, 1) := by decide +kernel
theorem dX0_refresh_47 : decode cX0_refresh 47 = .ok (.dup, 1) := by decide +kernel
theorem dX0_refresh_48 : decode cX0_refresh 48 = .ok (.getfield 71, 3) := by decide +kernel
theorem dX0_refresh_51 : decode cX0_refresh 51 = .ok (.iconst 1, 1) := by decide +kernel
theorem dX0_refresh_52 : decode cX0_refresh 52 = .ok (.iadd, 1) := by decide +kernel
theorem dX0_refresh_53 : decode cX0_refresh 53 = .ok (.putfield 71, 3) := by decide +kernel
theorem dX0_refresh_56 : decode cX0_refresh 56 = .ok (.iinc 1 1, 3) := by decide +kernel
theorem dX0_refresh_59 : decode cX0_refresh 59 = .ok (.goto (-52), 3) := by decide +kernel
theorem dX0_refresh_62 : decode cX0_refresh 62 = .ok (.aload_n 0, 1) := by decide +kernel
theorem dX0_refresh_63 : decode cX0_refresh 63 = .ok (.aload_n 0, 1) := by decide +kernel
theorem dX0_refresh_64 : decode cX0_refresh 64 = .ok (.getfield 59, 3) := by decide +kernel
theorem dX0_refresh_67 : decode cX0_refresh 67 = .ok (.aload_n 0, 1) := by decide +kernel
theorem dX0_refresh_68 : decode cX0_refresh 68 = .ok (.getfield 71, 3) := by decide +kernel
theorem dX0_refresh_71 : decode cX0_refresh 71 = .ok (.invokestatic 33, 3) := by decide +kernel
theorem dX0_refresh_74 : decode cX0_refresh 74 = .ok (.putfield 59, 3) := by decide +kernel
theorem dX0_refresh_77 : decode cX0_refresh 77 = .ok (.return_, 1) := by decide +kernel
set_option maxRecDepth 20000 in
theorem ggX0_switchTo_X0_visibleAhead : GoodIn wsX0_switchTo wsX0_visibleAhead := goodIn_r _ [8, 1, 9, 10, 11, 7, 12, 13, 14, 25, 26, 27, 28, 29, 30, 31, 32, 33, 34, 35] (by decide +kernel) (by decide +kernel)
set_option maxRecDepth 20000 in
theorem gX0_switchTo_X0_visibleAhead : GoodIn wsX0_switchTo (wsV RX0 96 RX0 yX0_visibleAhead wsX0_visibleAhead) := goodIn_app (goodIn_of _ (by decide +kernel)) ggX0_switchTo_X0_visibleAhead
set_option maxRecDepth 20000 in
theorem ggX0_switchTo_X0_refresh : GoodIn wsX0_switchTo wsX0_refresh := goodIn_r _ [18, 3, 1, 2, 19, 20, 21, 22, 23, 24, 9, 10, 11, 7, 12, 13, 14, 25, 26, 27, 28, 29, 30, 31, 32, 33, 34, 35] (by decide +kernel) (by decide +kernel)
set_option maxRecDepth 20000 in
theorem gX0_switchTo_X0_refresh : GoodIn wsX0_switchTo (wsV RX0 62 RX0 yX0_refresh wsX0_refresh) := goodIn_app (goodIn_of _ (by decide +kernel)) ggX0_switchTo_X0_refresh
theorem dX0_switchTo_0 : decode cX0_switchTo 0 = .ok (.aload_n 0, 1) := by decide +kernel
theorem dX0_switchTo_1 : decode cX0_switchTo 1 = .ok (.aload_n 0, 1) := by decide +kernel
theorem dX0_switchTo_2 : decode cX0_switchTo 2 = .ok (.getfield 39, 3) := by decide +kernel
theorem dX0_switchTo_5 : decode cX0_switchTo 5 = .ok (.iload_n 1, 1) := by decide +kernel
theorem dX0_switchTo_6 : decode cX0_switchTo 6 = .ok (.invokevirtual 96, 3) := by decide +kernel
theorem dX0_switchTo_9 : decode cX0_switchTo 9 = .ok (.bipush 60, 2) := by decide +kernel
theorem dX0_switchTo_11 : decode cX0_switchTo 11 = .ok (.if_icmp .le 6, 3) := by decide +kernel
theorem dX0_switchTo_14 : decode cX0_switchTo 14 = .ok (.bipush (-3), 2) := by decide +kernel
theorem dX0_switchTo_16 : decode cX0_switchTo 16 = .ok (.ireturn, 1) := by decide +kernel
theorem dX0_switchTo_17 : decode cX0_switchTo 17 = .ok (.aload_n 0, 1) := by decide +kernel
theorem dX0_switchTo_18 : decode cX0_switchTo 18 = .ok (.iload_n 1, 1) := by decide +kernel
theorem dX0_switchTo_19 : decode cX0_switchTo 19 = .ok (.putfield 56, 3) := by decide +kernel
theorem dX0_switchTo_22 : decode cX0_switchTo 22 = .ok (.aload_n 0, 1) := by decide +kernel
theorem dX0_switchTo_23 : decode cX0_switchTo 23 = .ok (.invokevirtual 62, 3) := by decide +kernel
theorem dX0_switchTo_26 : decode cX0_switchTo 26 = .ok (.aload_n 0, 1) := by decide +kernel
theorem dX0_switchTo_27 : decode cX0_switchTo 27 = .ok (.getfield 71, 3) := by decide +kernel
theorem dX0_switchTo_30 : decode cX0_switchTo 30 = .ok (.ireturn, 1) := by decide +kernel
theorem dX0_isVisible_0 : decode cX0_isVisible 0 = .ok (.aload_n 0, 1) := by decide +kernel
theorem dX0_isVisible_1 : decode cX0_isVisible 1 = .ok (.getfield 15, 3) := by decide +kernel
theorem dX0_isVisible_4 : decode cX0_isVisible 4 = .ok (.iload_n 1, 1) := by decide +kernel
theorem dX0_isVisible_5 : decode cX0_isVisible 5 = .ok (.iaload, 1) := by decide +kernel
theorem dX0_isVisible_6 : decode cX0_isVisible 6 = .ok (.iload_n 2, 1) := by decide +kernel
theorem dX0_isVisible_7 : decode cX0_isVisible 7 = .ok (.iconst (-1), 1) := by decide +kernel
theorem dX0_isVisible_8 : decode cX0_isVisible 8 = .ok (.ixor, 1) := by decide +kernel
theorem dX0_isVisible_9 : decode cX0_isVisible 9 = .ok (.iand, 1) := by decide +kernel
theorem dX0_isVisible_10 : decode cX0_isVisible 10 = .ok (.ifCond .ne 18, 3) := by decide +kernel
theorem dX0_isVisible_13 : decode cX0_isVisible 13 = .ok (.aload_n 0, 1) := by decide +kernel
theorem dX0_isVisible_14 : decode cX0_isVisible 14 = .ok (.getfield 18, 3) := by decide +kernel
theorem dX0_isVisible_17 : decode cX0_isVisible 17 = .ok (.iload_n 1, 1) := by decide +kernel
theorem dX0_isVisible_18 : decode cX0_isVisible 18 = .ok (.iaload, 1) := by decide +kernel
theorem dX0_isVisible_19 : decode cX0_isVisible 19 = .ok (.iload_n 2, 1) := by decide +kernel
theorem dX0_isVisible_20 : decode cX0_isVisible 20 = .ok (.iand, 1) := by decide +kernel
theorem dX0_isVisible_21 : decode cX0_isVisible 21 = .ok (.ifCond .ne 7, 3) := by decide +kernel
theorem dX0_isVisible_24 : decode cX0_isVisible 24 = .ok (.iconst 1, 1) := by decide +kernel
theorem dX0_isVisible_25 : decode cX0_isVisible 25 = .ok (.goto 4, 3) := by decide +kernel
theorem dX0_isVisible_28 : decode cX0_isVisible 28 = .ok (.iconst 0, 1) := by decide +kernel
theorem dX0_isVisible_29 : decode cX0_isVisible 29 = .ok (.ireturn, 1) := by decide +kernel
set_option maxRecDepth 20000 in
theorem ggX0_visibleAhead_X0_isVisible : GoodIn wsX0_visibleAhead wsX0_isVisible := goodIn_r _ [6, 7, 8, 9, 10, 11, 12, 13, 14, 15, 16, 17, 18, 19] (by decide +kernel) (by decide +kernel)
set_option maxRecDepth 20000 in
theorem gX0_visibleAhead_X0_isVisible : GoodIn wsX0_visibleAhead (wsV RX0 93 RX0 yX0_isVisible wsX0_isVisible) := goodIn_app (goodIn_of _ (by decide +kernel)) ggX0_visibleAhead_X0_isVisible
theorem dX0_visibleAhead_0 : decode cX0_visibleAhead 0 = .ok (.iconst 0, 1) := by decide +kernel
theorem dX0_visibleAhead_1 : decode cX0_visibleAhead 1 = .ok (.istore_n 3, 1) := by decide +kernel
theorem dX0_visibleAhead_2 : decode cX0_visibleAhead 2 = .ok (.iconst 0, 1) := by decide +kernel
theorem dX0_visibleAhead_3 : decode cX0_visibleAhead 3 = .ok (.istore 4, 2) := by decide +kernel
theorem dX0_visibleAhead_5 : decode cX0_visibleAhead 5 = .ok (.iload 4, 2) := by decide +kernel
theorem dX0_visibleAhead_7 : decode cX0_visibleAhead 7 = .ok (.iload_n 1, 1) := by decide +kernel
theorem dX0_visibleAhead_8 : decode cX0_visibleAhead 8 = .ok (.if_icmp .ge 31, 3) := by decide +kernel
theorem dX0_visibleAhead_11 : decode cX0_visibleAhead 11 = .ok (.iload 4, 2) := by decide +kernel
theorem dX0_visibleAhead_13 : decode cX0_visibleAhead 13 = .ok (.aload_n 0, 1) := by decide +kernel
theorem dX0_visibleAhead_14 : decode cX0_visibleAhead 14 = .ok (.getfield 39, 3) := by decide +kernel
theorem dX0_visibleAhead_17 : decode cX0_visibleAhead 17 = .ok (.if_icmp .ge 22, 3) := by decide +kernel
theorem dX0_visibleAhead_20 : decode cX0_visibleAhead 20 = .ok (.aload_n 0, 1) := by decide +kernel
theorem dX0_visibleAhead_21 : decode cX0_visibleAhead 21 = .ok (.iload 4, 2) := by decide +kernel
theorem dX0_visibleAhead_23 : decode cX0_visibleAhead 23 = .ok (.iload_n 2, 1) := by decide +kernel
theorem dX0_visibleAhead_24 : decode cX0_visibleAhead 24 = .ok (.invokevirtual 93, 3) := by decide +kernel
theorem dX0_visibleAhead_27 : decode cX0_visibleAhead 27 = .ok (.ifCond .eq 6, 3) := by decide +kernel
theorem dX0_visibleAhead_30 : decode cX0_visibleAhead 30 = .ok (.iinc 3 1, 3) := by decide +kernel
theorem dX0_visibleAhead_33 : decode cX0_visibleAhead 33 = .ok (.iinc 4 1, 3) := by decide +kernel
theorem dX0_visibleAhead_36 : decode cX0_visibleAhead 36 = .ok (.goto (-31), 3) := by decide +kernel
theorem dX0_visibleAhead_39 : decode cX0_visibleAhead 39 = .ok (.iload_n 3, 1) := by decide +kernel
theorem dX0_visibleAhead_40 : decode cX0_visibleAhead 40 = .ok (.ireturn, 1) := by decide +kernel
set_option maxRecDepth 20000 in
theorem ggX0_placeAfter_X0_hasPlace : GoodIn wsX0_placeAfter wsX0_hasPlace := goodIn_r _ [6, 7, 19, 20, 21, 22, 23, 24, 25, 26, 27, 28, 29] (by decide +kernel) (by decide +kernel)
set_option maxRecDepth 20000 in
theorem gX0_placeAfter_X0_hasPlace : GoodIn wsX0_placeAfter (wsV RX0 99 RX0 yX0_hasPlace wsX0_hasPlace) := goodIn_app (goodIn_of _ (by decide +kernel)) ggX0_placeAfter_X0_hasPlace
set_option maxRecDepth 20000 in
theorem ggX0_placeAfter_X0_isVisible : GoodIn wsX0_placeAfter wsX0_isVisible := goodIn_r _ [11, 12, 13, 19, 20, 21, 22, 23, 24, 25, 26, 27, 28, 29] (by decide +kernel) (by decide +kernel)
set_option maxRecDepth 20000 in
theorem gX0_placeAfter_X0_isVisible : GoodIn wsX0_placeAfter (wsV RX0 93 RX0 yX0_isVisible wsX0_isVisible) := goodIn_app (goodIn_of _ (by decide +kernel)) ggX0_placeAfter_X0_isVisible
set_option maxRecDepth 20000 in
theorem ggX0_placeAfter_X0_visibleAhead : GoodIn wsX0_placeAfter wsX0_visibleAhead := goodIn_r _ [17, 18, 8, 9, 10, 5, 11, 12, 13, 19, 20, 21, 22, 23, 24, 25, 26, 27, 28, 29] (by decide +kernel) (by decide +kernel)
set_option maxRecDepth 20000 in
theorem gX0_placeAfter_X0_visibleAhead : GoodIn wsX0_placeAfter (wsV RX0 96 RX0 yX0_visibleAhead wsX0_visibleAhead) := goodIn_app (goodIn_of _ (by decide +kernel)) ggX0_placeAfter_X0_visibleAhead
theorem dX0_placeAfter_0 : decode cX0_placeAfter 0 = .ok (.aload_n 0, 1) := by decide +kernel
theorem dX0_placeAfter_1 : decode cX0_placeAfter 1 = .ok (.iload_n 1, 1) := by decide +kernel
theorem dX0_placeAfter_2 : decode cX0_placeAfter 2 = .ok (.invokevirtual 99, 3) := by decide +kernel
theorem dX0_placeAfter_5 : decode cX0_placeAfter 5 = .ok (.ifCond .ne 6, 3) := by decide +kernel
theorem dX0_placeAfter_8 : decode cX0_placeAfter 8 = .ok (.bipush (-9), 2) := by decide +kernel
theorem dX0_placeAfter_10 : decode cX0_placeAfter 10 = .ok (.ireturn, 1) := by decide +kernel
theorem dX0_placeAfter_11 : decode cX0_placeAfter 11 = .ok (.aload_n 0, 1) := by decide +kernel
theorem dX0_placeAfter_12 : decode cX0_placeAfter 12 = .ok (.getfield 21, 3) := by decide +kernel
theorem dX0_placeAfter_15 : decode cX0_placeAfter 15 = .ok (.iload_n 1, 1) := by decide +kernel
theorem dX0_placeAfter_16 : decode cX0_placeAfter 16 = .ok (.iaload, 1) := by decide +kernel
theorem dX0_placeAfter_17 : decode cX0_placeAfter 17 = .ok (.istore_n 3, 1) := by decide +kernel
theorem dX0_placeAfter_18 : decode cX0_placeAfter 18 = .ok (.aload_n 0, 1) := by decide +kernel
theorem dX0_placeAfter_19 : decode cX0_placeAfter 19 = .ok (.iload_n 3, 1) := by decide +kernel
theorem dX0_placeAfter_20 : decode cX0_placeAfter 20 = .ok (.iload_n 2, 1) := by decide +kernel
theorem dX0_placeAfter_21 : decode cX0_placeAfter 21 = .ok (.invokevirtual 93, 3) := by decide +kernel
theorem dX0_placeAfter_24 : decode cX0_placeAfter 24 = .ok (.ifCond .eq 12, 3) := by decide +kernel
theorem dX0_placeAfter_27 : decode cX0_placeAfter 27 = .ok (.aload_n 0, 1) := by decide +kernel
theorem dX0_placeAfter_28 : decode cX0_placeAfter 28 = .ok (.iload_n 3, 1) := by decide +kernel
theorem dX0_placeAfter_29 : decode cX0_placeAfter 29 = .ok (.iload_n 2, 1) := by decide +kernel
theorem dX0_placeAfter_30 : decode cX0_placeAfter 30 = .ok (.invokevirtual 96, 3) := by decide +kernel
theorem dX0_placeAfter_33 : decode cX0_placeAfter 33 = .ok (.goto 5, 3) := by decide +kernel
theorem dX0_placeAfter_36 : decode cX0_placeAfter 36 = .ok (.bipush (-9), 2) := by decide +kernel
theorem dX0_placeAfter_38 : decode cX0_placeAfter 38 = .ok (.ireturn, 1) := by decide +kernel
theorem dX0_hasPlace_0 : decode cX0_hasPlace 0 = .ok (.iload_n 1, 1) := by decide +kernel
theorem dX0_hasPlace_1 : decode cX0_hasPlace 1 = .ok (.ifCond .lt 15, 3) := by decide +kernel
theorem dX0_hasPlace_4 : decode cX0_hasPlace 4 = .ok (.iload_n 1, 1) := by decide +kernel
theorem dX0_hasPlace_5 : decode cX0_hasPlace 5 = .ok (.aload_n 0, 1) := by decide +kernel
theorem dX0_hasPlace_6 : decode cX0_hasPlace 6 = .ok (.getfield 71, 3) := by decide +kernel
theorem dX0_hasPlace_9 : decode cX0_hasPlace 9 = .ok (.if_icmp .ge 7, 3) := by decide +kernel
theorem dX0_hasPlace_12 : decode cX0_hasPlace 12 = .ok (.iconst 1, 1) := by decide +kernel
theorem dX0_hasPlace_13 : decode cX0_hasPlace 13 = .ok (.goto 4, 3) := by decide +kernel
theorem dX0_hasPlace_16 : decode cX0_hasPlace 16 = .ok (.iconst 0, 1) := by decide +kernel
theorem dX0_hasPlace_17 : decode cX0_hasPlace 17 = .ok (.ireturn, 1) := by decide +kernel
theorem dX0_hasStretch_0 : decode cX0_hasStretch 0 = .ok (.iload_n 1, 1) := by decide +kernel
theorem dX0_hasStretch_1 : decode cX0_hasStretch 1 = .ok (.ifCond .lt 20, 3) := by decide +kernel
theorem dX0_hasStretch_4 : decode cX0_hasStretch 4 = .ok (.iload_n 1, 1) := by decide +kernel
theorem dX0_hasStretch_5 : decode cX0_hasStretch 5 = .ok (.iload_n 2, 1) := by decide +kernel
theorem dX0_hasStretch_6 : decode cX0_hasStretch 6 = .ok (.if_icmp .ge 15, 3) := by decide +kernel
theorem dX0_hasStretch_9 : decode cX0_hasStretch 9 = .ok (.iload_n 2, 1) := by decide +kernel
theorem dX0_hasStretch_10 : decode cX0_hasStretch 10 = .ok (.aload_n 0, 1) := by decide +kernel
theorem dX0_hasStretch_11 : decode cX0_hasStretch 11 = .ok (.getfield 71, 3) := by decide +kernel
theorem dX0_hasStretch_14 : decode cX0_hasStretch 14 = .ok (.if_icmp .gt 7, 3) := by decide +kernel
theorem dX0_hasStretch_17 : decode cX0_hasStretch 17 = .ok (.iconst 1, 1) := by decide +kernel
theorem dX0_hasStretch_18 : decode cX0_hasStretch 18 = .ok (.goto 4, 3) := by decide +kernel
theorem dX0_hasStretch_21 : decode cX0_hasStretch 21 = .ok (.iconst 0, 1) := by decide +kernel
theorem dX0_hasStretch_22 : decode cX0_hasStretch 22 = .ok (.ireturn, 1) := by decide +kernel
set_option maxRecDepth 20000 in
theorem ggX0_codeAt_X0_hasPlace : GoodIn wsX0_codeAt wsX0_hasPlace := goodIn_r _ [7, 8, 9, 10, 11, 12, 13, 14, 15, 16, 17, 18, 19] (by decide +kernel) (by decide +kernel)
set_option maxRecDepth 20000 in
theorem gX0_codeAt_X0_hasPlace : GoodIn wsX0_codeAt (wsV RX0 99 RX0 yX0_hasPlace wsX0_hasPlace) := goodIn_app (goodIn_of _ (by decide +kernel)) ggX0_codeAt_X0_hasPlace
theorem dX0_codeAt_0 : decode cX0_codeAt 0 = .ok (.aload_n 0, 1) := by decide +kernel
theorem dX0_codeAt_1 : decode cX0_codeAt 1 = .ok (.iload_n 1, 1) := by decide +kernel
theorem dX0_codeAt_2 : decode cX0_codeAt 2 = .ok (.invokevirtual 99, 3) := by decide +kernel
theorem dX0_codeAt_5 : decode cX0_codeAt 5 = .ok (.ifCond .eq 17, 3) := by decide +kernel
theorem dX0_codeAt_8 : decode cX0_codeAt 8 = .ok (.aload_n 0, 1) := by decide +kernel
theorem dX0_codeAt_9 : decode cX0_codeAt 9 = .ok (.getfield 9, 3) := by decide +kernel
theorem dX0_codeAt_12 : decode cX0_codeAt 12 = .ok (.aload_n 0, 1) := by decide +kernel
theorem dX0_codeAt_13 : decode cX0_codeAt 13 = .ok (.getfield 21, 3) := by decide +kernel
theorem dX0_codeAt_16 : decode cX0_codeAt 16 = .ok (.iload_n 1, 1) := by decide +kernel
theorem dX0_codeAt_17 : decode cX0_codeAt 17 = .ok (.iaload, 1) := by decide +kernel
theorem dX0_codeAt_18 : decode cX0_codeAt 18 = .ok (.iaload, 1) := by decide +kernel
theorem dX0_codeAt_19 : decode cX0_codeAt 19 = .ok (.goto 5, 3) := by decide +kernel
theorem dX0_codeAt_22 : decode cX0_codeAt 22 = .ok (.bipush (-9), 2) := by decide +kernel
theorem dX0_codeAt_24 : decode cX0_codeAt 24 = .ok (.ireturn, 1) := by decide +kernel
set_option maxRecDepth 20000 in
theorem ggX0_ownerAt_X0_hasPlace : GoodIn wsX0_ownerAt wsX0_hasPlace := goodIn_r _ [7, 8, 9, 10, 11, 12, 13, 14, 15, 16, 17, 18, 19] (by decide +kernel) (by decide +kernel)
set_option maxRecDepth 20000 in
theorem gX0_ownerAt_X0_hasPlace : GoodIn wsX0_ownerAt (wsV RX0 99 RX0 yX0_hasPlace wsX0_hasPlace) := goodIn_app (goodIn_of _ (by decide +kernel)) ggX0_ownerAt_X0_hasPlace
theorem dX0_ownerAt_0 : decode cX0_ownerAt 0 = .ok (.aload_n 0, 1) := by decide +kernel
theorem dX0_ownerAt_1 : decode cX0_ownerAt 1 = .ok (.iload_n 1, 1) := by decide +kernel
theorem dX0_ownerAt_2 : decode cX0_ownerAt 2 = .ok (.invokevirtual 99, 3) := by decide +kernel
theorem dX0_ownerAt_5 : decode cX0_ownerAt 5 = .ok (.ifCond .eq 17, 3) := by decide +kernel
theorem dX0_ownerAt_8 : decode cX0_ownerAt 8 = .ok (.aload_n 0, 1) := by decide +kernel
theorem dX0_ownerAt_9 : decode cX0_ownerAt 9 = .ok (.getfield 15, 3) := by decide +kernel
theorem dX0_ownerAt_12 : decode cX0_ownerAt 12 = .ok (.aload_n 0, 1) := by decide +kernel
theorem dX0_ownerAt_13 : decode cX0_ownerAt 13 = .ok (.getfield 21, 3) := by decide +kernel
theorem dX0_ownerAt_16 : decode cX0_ownerAt 16 = .ok (.iload_n 1, 1) := by decide +kernel
theorem dX0_ownerAt_17 : decode cX0_ownerAt 17 = .ok (.iaload, 1) := by decide +kernel
theorem dX0_ownerAt_18 : decode cX0_ownerAt 18 = .ok (.iaload, 1) := by decide +kernel
theorem dX0_ownerAt_19 : decode cX0_ownerAt 19 = .ok (.goto 4, 3) := by decide +kernel
theorem dX0_ownerAt_22 : decode cX0_ownerAt 22 = .ok (.iconst 0, 1) := by decide +kernel
theorem dX0_ownerAt_23 : decode cX0_ownerAt 23 = .ok (.ireturn, 1) := by decide +kernel
theorem dX0_hasEdit_0 : decode cX0_hasEdit 0 = .ok (.iload_n 1, 1) := by decide +kernel
theorem dX0_hasEdit_1 : decode cX0_hasEdit 1 = .ok (.ifCond .lt 15, 3) := by decide +kernel
theorem dX0_hasEdit_4 : decode cX0_hasEdit 4 = .ok (.iload_n 1, 1) := by decide +kernel
theorem dX0_hasEdit_5 : decode cX0_hasEdit 5 = .ok (.aload_n 0, 1) := by decide +kernel
theorem dX0_hasEdit_6 : decode cX0_hasEdit 6 = .ok (.getfield 50, 3) := by decide +kernel
theorem dX0_hasEdit_9 : decode cX0_hasEdit 9 = .ok (.if_icmp .ge 7, 3) := by decide +kernel
theorem dX0_hasEdit_12 : decode cX0_hasEdit 12 = .ok (.iconst 1, 1) := by decide +kernel
theorem dX0_hasEdit_13 : decode cX0_hasEdit 13 = .ok (.goto 4, 3) := by decide +kernel
theorem dX0_hasEdit_16 : decode cX0_hasEdit 16 = .ok (.iconst 0, 1) := by decide +kernel
theorem dX0_hasEdit_17 : decode cX0_hasEdit 17 = .ok (.ireturn, 1) := by decide +kernel
theorem dX0_hasEdits_0 : decode cX0_hasEdits 0 = .ok (.iload_n 1, 1) := by decide +kernel
theorem dX0_hasEdits_1 : decode cX0_hasEdits 1 = .ok (.ifCond .lt 16, 3) := by decide +kernel
theorem dX0_hasEdits_4 : decode cX0_hasEdits 4 = .ok (.iload_n 1, 1) := by decide +kernel
theorem dX0_hasEdits_5 : decode cX0_hasEdits 5 = .ok (.aload_n 0, 1) := by decide +kernel
theorem dX0_hasEdits_6 : decode cX0_hasEdits 6 = .ok (.getfield 50, 3) := by decide +kernel
theorem dX0_hasEdits_9 : decode cX0_hasEdits 9 = .ok (.ishr, 1) := by decide +kernel
theorem dX0_hasEdits_10 : decode cX0_hasEdits 10 = .ok (.ifCond .ne 7, 3) := by decide +kernel
theorem dX0_hasEdits_13 : decode cX0_hasEdits 13 = .ok (.iconst 1, 1) := by decide +kernel
theorem dX0_hasEdits_14 : decode cX0_hasEdits 14 = .ok (.goto 4, 3) := by decide +kernel
theorem dX0_hasEdits_17 : decode cX0_hasEdits 17 = .ok (.iconst 0, 1) := by decide +kernel
theorem dX0_hasEdits_18 : decode cX0_hasEdits 18 = .ok (.ireturn, 1) := by decide +kernel
set_option maxRecDepth 20000 in
theorem ggX0_basesOf_X0_hasEdit : GoodIn wsX0_basesOf wsX0_hasEdit := goodIn_r _ [6, 7, 8, 9, 10, 11, 12, 13, 14, 15, 16, 17, 18] (by decide +kernel) (by decide +kernel)
set_option maxRecDepth 20000 in
theorem gX0_basesOf_X0_hasEdit : GoodIn wsX0_basesOf (wsV RX0 103 RX0 yX0_hasEdit wsX0_hasEdit) := goodIn_app (goodIn_of _ (by decide +kernel)) ggX0_basesOf_X0_hasEdit
theorem dX0_basesOf_0 : decode cX0_basesOf 0 = .ok (.aload_n 0, 1) := by decide +kernel
theorem dX0_basesOf_1 : decode cX0_basesOf 1 = .ok (.iload_n 1, 1) := by decide +kernel
theorem dX0_basesOf_2 : decode cX0_basesOf 2 = .ok (.invokevirtual 103, 3) := by decide +kernel
theorem dX0_basesOf_5 : decode cX0_basesOf 5 = .ok (.ifCond .eq 12, 3) := by decide +kernel
theorem dX0_basesOf_8 : decode cX0_basesOf 8 = .ok (.aload_n 0, 1) := by decide +kernel
theorem dX0_basesOf_9 : decode cX0_basesOf 9 = .ok (.getfield 24, 3) := by decide +kernel
theorem dX0_basesOf_12 : decode cX0_basesOf 12 = .ok (.iload_n 1, 1) := by decide +kernel
theorem dX0_basesOf_13 : decode cX0_basesOf 13 = .ok (.iaload, 1) := by decide +kernel
theorem dX0_basesOf_14 : decode cX0_basesOf 14 = .ok (.goto 4, 3) := by decide +kernel
theorem dX0_basesOf_17 : decode cX0_basesOf 17 = .ok (.iconst 0, 1) := by decide +kernel
theorem dX0_basesOf_18 : decode cX0_basesOf 18 = .ok (.ireturn, 1) := by decide +kernel
set_option maxRecDepth 20000 in
theorem ggX0_basesThrough_X4_numberOf : GoodIn wsX0_basesThrough wsX4_numberOf := goodIn_r _ [3, 4, 5, 6, 7, 8, 9, 10] (by decide +kernel) (by decide +kernel)
set_option maxRecDepth 20000 in
theorem gX0_basesThrough_X4_numberOf_n106 : GoodIn wsX0_basesThrough (wsX4_numberOf) := ggX0_basesThrough_X4_numberOf
set_option maxRecDepth 20000 in
theorem ggX0_basesThrough_X0_basesOf : GoodIn wsX0_basesThrough wsX0_basesOf := goodIn_r _ [15, 16, 17, 18, 19, 14, 20, 21, 22, 23, 24, 25, 26, 27, 28, 29, 30, 31, 32] (by decide +kernel) (by decide +kernel)
set_option maxRecDepth 20000 in
theorem gX0_basesThrough_X0_basesOf : GoodIn wsX0_basesThrough (wsV RX0 109 RX0 yX0_basesOf wsX0_basesOf) := goodIn_app (goodIn_of _ (by decide +kernel)) ggX0_basesThrough_X0_basesOf
theorem dX0_basesThrough_0 : decode cX0_basesThrough 0 = .ok (.iload_n 1, 1) := by decide +kernel
theorem dX0_basesThrough_1 : decode cX0_basesThrough 1 = .ok (.ifCond .ne 7, 3) := by decide +kernel
theorem dX0_basesThrough_4 : decode cX0_basesThrough 4 = .ok (.iconst 0, 1) := by decide +kernel
theorem dX0_basesThrough_5 : decode cX0_basesThrough 5 = .ok (.goto 13, 3) := by decide +kernel
theorem dX0_basesThrough_8 : decode cX0_basesThrough 8 = .ok (.iload_n 1, 1) := by decide +kernel
theorem dX0_basesThrough_9 : decode cX0_basesThrough 9 = .ok (.aload_n 0, 1) := by decide +kernel
theorem dX0_basesThrough_10 : decode cX0_basesThrough 10 = .ok (.iload_n 1, 1) := by decide +kernel
theorem dX0_basesThrough_11 : decode cX0_basesThrough 11 = .ok (.invokestatic 106, 3) := by decide +kernel
theorem dX0_basesThrough_14 : decode cX0_basesThrough 14 = .ok (.invokevirtual 109, 3) := by decide +kernel
theorem dX0_basesThrough_17 : decode cX0_basesThrough 17 = .ok (.ior, 1) := by decide +kernel
theorem dX0_basesThrough_18 : decode cX0_basesThrough 18 = .ok (.ireturn, 1) := by decide +kernel
set_option maxRecDepth 20000 in
theorem ggX0_dependentsOf_X4_single : GoodIn wsX0_dependentsOf wsX4_single := goodIn_r _ [5] (by decide +kernel) (by decide +kernel)
set_option maxRecDepth 20000 in
theorem gX0_dependentsOf_X4_single_n79 : GoodIn wsX0_dependentsOf (wsX4_single) := ggX0_dependentsOf_X4_single
theorem dX0_dependentsOf_0 : decode cX0_dependentsOf 0 = .ok (.iconst 0, 1) := by decide +kernel
theorem dX0_dependentsOf_1 : decode cX0_dependentsOf 1 = .ok (.istore_n 2, 1) := by decide +kernel
theorem dX0_dependentsOf_2 : decode cX0_dependentsOf 2 = .ok (.iconst 0, 1) := by decide +kernel
theorem dX0_dependentsOf_3 : decode cX0_dependentsOf 3 = .ok (.istore_n 3, 1) := by decide +kernel
theorem dX0_dependentsOf_4 : decode cX0_dependentsOf 4 = .ok (.iload_n 3, 1) := by decide +kernel
theorem dX0_dependentsOf_5 : decode cX0_dependentsOf 5 = .ok (.aload_n 0, 1) := by decide +kernel
theorem dX0_dependentsOf_6 : decode cX0_dependentsOf 6 = .ok (.getfield 50, 3) := by decide +kernel
theorem dX0_dependentsOf_9 : decode cX0_dependentsOf 9 = .ok (.if_icmp .ge 27, 3) := by decide +kernel
theorem dX0_dependentsOf_12 : decode cX0_dependentsOf 12 = .ok (.aload_n 0, 1) := by decide +kernel
theorem dX0_dependentsOf_13 : decode cX0_dependentsOf 13 = .ok (.getfield 24, 3) := by decide +kernel
theorem dX0_dependentsOf_16 : decode cX0_dependentsOf 16 = .ok (.iload_n 3, 1) := by decide +kernel
theorem dX0_dependentsOf_17 : decode cX0_dependentsOf 17 = .ok (.iaload, 1) := by decide +kernel
theorem dX0_dependentsOf_18 : decode cX0_dependentsOf 18 = .ok (.iload_n 1, 1) := by decide +kernel
theorem dX0_dependentsOf_19 : decode cX0_dependentsOf 19 = .ok (.iand, 1) := by decide +kernel
theorem dX0_dependentsOf_20 : decode cX0_dependentsOf 20 = .ok (.ifCond .eq 10, 3) := by decide +kernel
theorem dX0_dependentsOf_23 : decode cX0_dependentsOf 23 = .ok (.iload_n 2, 1) := by decide +kernel
theorem dX0_dependentsOf_24 : decode cX0_dependentsOf 24 = .ok (.iload_n 3, 1) := by decide +kernel
theorem dX0_dependentsOf_25 : decode cX0_dependentsOf 25 = .ok (.invokestatic 79, 3) := by decide +kernel
theorem dX0_dependentsOf_28 : decode cX0_dependentsOf 28 = .ok (.ior, 1) := by decide +kernel
theorem dX0_dependentsOf_29 : decode cX0_dependentsOf 29 = .ok (.istore_n 2, 1) := by decide +kernel
theorem dX0_dependentsOf_30 : decode cX0_dependentsOf 30 = .ok (.iinc 3 1, 3) := by decide +kernel
theorem dX0_dependentsOf_33 : decode cX0_dependentsOf 33 = .ok (.goto (-29), 3) := by decide +kernel
theorem dX0_dependentsOf_36 : decode cX0_dependentsOf 36 = .ok (.iload_n 2, 1) := by decide +kernel
theorem dX0_dependentsOf_37 : decode cX0_dependentsOf 37 = .ok (.ireturn, 1) := by decide +kernel
set_option maxRecDepth 20000 in
theorem ggX0_withActiveDependents_X0_dependentsOf : GoodIn wsX0_withActiveDependents wsX0_dependentsOf := goodIn_r _ [6, 7, 8, 9, 10, 11, 12, 13, 14, 15, 16, 17, 18, 19, 20, 21, 22] (by decide +kernel) (by decide +kernel)
set_option maxRecDepth 20000 in
theorem gX0_withActiveDependents_X0_dependentsOf : GoodIn wsX0_withActiveDependents (wsV RX0 112 RX0 yX0_dependentsOf wsX0_dependentsOf) := goodIn_app (goodIn_of _ (by decide +kernel)) ggX0_withActiveDependents_X0_dependentsOf
theorem dX0_withActiveDependents_0 : decode cX0_withActiveDependents 0 = .ok (.iload_n 1, 1) := by decide +kernel
theorem dX0_withActiveDependents_1 : decode cX0_withActiveDependents 1 = .ok (.aload_n 0, 1) := by decide +kernel
theorem dX0_withActiveDependents_2 : decode cX0_withActiveDependents 2 = .ok (.iload_n 1, 1) := by decide +kernel
theorem dX0_withActiveDependents_3 : decode cX0_withActiveDependents 3 = .ok (.invokevirtual 112, 3) := by decide +kernel
theorem dX0_withActiveDependents_6 : decode cX0_withActiveDependents 6 = .ok (.aload_n 0, 1) := by decide +kernel
theorem dX0_withActiveDependents_7 : decode cX0_withActiveDependents 7 = .ok (.getfield 56, 3) := by decide +kernel
theorem dX0_withActiveDependents_10 : decode cX0_withActiveDependents 10 = .ok (.iand, 1) := by decide +kernel
theorem dX0_withActiveDependents_11 : decode cX0_withActiveDependents 11 = .ok (.ior, 1) := by decide +kernel
theorem dX0_withActiveDependents_12 : decode cX0_withActiveDependents 12 = .ok (.ireturn, 1) := by decide +kernel
set_option maxRecDepth 20000 in
theorem ggX0_canTakeBack_X0_dependentsOf : GoodIn wsX0_canTakeBack wsX0_dependentsOf := goodIn_r _ [6, 7, 8, 9, 10, 11, 12, 13, 14, 15, 16, 17, 18, 19, 20, 21, 22] (by decide +kernel) (by decide +kernel)
set_option maxRecDepth 20000 in
theorem gX0_canTakeBack_X0_dependentsOf : GoodIn wsX0_canTakeBack (wsV RX0 112 RX0 yX0_dependentsOf wsX0_dependentsOf) := goodIn_app (goodIn_of _ (by decide +kernel)) ggX0_canTakeBack_X0_dependentsOf
theorem dX0_canTakeBack_0 : decode cX0_canTakeBack 0 = .ok (.iload_n 1, 1) := by decide +kernel
theorem dX0_canTakeBack_1 : decode cX0_canTakeBack 1 = .ok (.aload_n 0, 1) := by decide +kernel
theorem dX0_canTakeBack_2 : decode cX0_canTakeBack 2 = .ok (.getfield 56, 3) := by decide +kernel
theorem dX0_canTakeBack_5 : decode cX0_canTakeBack 5 = .ok (.iconst (-1), 1) := by decide +kernel
theorem dX0_canTakeBack_6 : decode cX0_canTakeBack 6 = .ok (.ixor, 1) := by decide +kernel
theorem dX0_canTakeBack_7 : decode cX0_canTakeBack 7 = .ok (.iand, 1) := by decide +kernel
theorem dX0_canTakeBack_8 : decode cX0_canTakeBack 8 = .ok (.ifCond .ne 24, 3) := by decide +kernel
theorem dX0_canTakeBack_11 : decode cX0_canTakeBack 11 = .ok (.aload_n 0, 1) := by decide +kernel
theorem dX0_canTakeBack_12 : decode cX0_canTakeBack 12 = .ok (.iload_n 1, 1) := by decide +kernel
theorem dX0_canTakeBack_13 : decode cX0_canTakeBack 13 = .ok (.invokevirtual 112, 3) := by decide +kernel
theorem dX0_canTakeBack_16 : decode cX0_canTakeBack 16 = .ok (.aload_n 0, 1) := by decide +kernel
theorem dX0_canTakeBack_17 : decode cX0_canTakeBack 17 = .ok (.getfield 56, 3) := by decide +kernel
theorem dX0_canTakeBack_20 : decode cX0_canTakeBack 20 = .ok (.iand, 1) := by decide +kernel
theorem dX0_canTakeBack_21 : decode cX0_canTakeBack 21 = .ok (.iload_n 1, 1) := by decide +kernel
theorem dX0_canTakeBack_22 : decode cX0_canTakeBack 22 = .ok (.iconst (-1), 1) := by decide +kernel
theorem dX0_canTakeBack_23 : decode cX0_canTakeBack 23 = .ok (.ixor, 1) := by decide +kernel
theorem dX0_canTakeBack_24 : decode cX0_canTakeBack 24 = .ok (.iand, 1) := by decide +kernel
theorem dX0_canTakeBack_25 : decode cX0_canTakeBack 25 = .ok (.ifCond .ne 7, 3) := by decide +kernel
theorem dX0_canTakeBack_28 : decode cX0_canTakeBack 28 = .ok (.iconst 1, 1) := by decide +kernel
theorem dX0_canTakeBack_29 : decode cX0_canTakeBack 29 = .ok (.goto 4, 3) := by decide +kernel
theorem dX0_canTakeBack_32 : decode cX0_canTakeBack 32 = .ok (.iconst 0, 1) := by decide +kernel
theorem dX0_canTakeBack_33 : decode cX0_canTakeBack 33 = .ok (.ireturn, 1) := by decide +kernel
set_option maxRecDepth 20000 in
theorem ggX0_canBringBack_X4_has : GoodIn wsX0_canBringBack wsX4_has := goodIn_r _ [6] (by decide +kernel) (by decide +kernel)
set_option maxRecDepth 20000 in
theorem gX0_canBringBack_X4_has_n115 : GoodIn wsX0_canBringBack (wsX4_has) := ggX0_canBringBack_X4_has
theorem dX0_canBringBack_0 : decode cX0_canBringBack 0 = .ok (.iconst 0, 1) := by decide +kernel
theorem dX0_canBringBack_1 : decode cX0_canBringBack 1 = .ok (.istore_n 2, 1) := by decide +kernel
theorem dX0_canBringBack_2 : decode cX0_canBringBack 2 = .ok (.iconst 0, 1) := by decide +kernel
theorem dX0_canBringBack_3 : decode cX0_canBringBack 3 = .ok (.istore_n 3, 1) := by decide +kernel
theorem dX0_canBringBack_4 : decode cX0_canBringBack 4 = .ok (.iload_n 3, 1) := by decide +kernel
theorem dX0_canBringBack_5 : decode cX0_canBringBack 5 = .ok (.aload_n 0, 1) := by decide +kernel
theorem dX0_canBringBack_6 : decode cX0_canBringBack 6 = .ok (.getfield 50, 3) := by decide +kernel
theorem dX0_canBringBack_9 : decode cX0_canBringBack 9 = .ok (.if_icmp .ge 26, 3) := by decide +kernel
theorem dX0_canBringBack_12 : decode cX0_canBringBack 12 = .ok (.iload_n 1, 1) := by decide +kernel
theorem dX0_canBringBack_13 : decode cX0_canBringBack 13 = .ok (.iload_n 3, 1) := by decide +kernel
theorem dX0_canBringBack_14 : decode cX0_canBringBack 14 = .ok (.invokestatic 115, 3) := by decide +kernel
theorem dX0_canBringBack_17 : decode cX0_canBringBack 17 = .ok (.ifCond .eq 12, 3) := by decide +kernel
theorem dX0_canBringBack_20 : decode cX0_canBringBack 20 = .ok (.iload_n 2, 1) := by decide +kernel
theorem dX0_canBringBack_21 : decode cX0_canBringBack 21 = .ok (.aload_n 0, 1) := by decide +kernel
theorem dX0_canBringBack_22 : decode cX0_canBringBack 22 = .ok (.getfield 24, 3) := by decide +kernel
theorem dX0_canBringBack_25 : decode cX0_canBringBack 25 = .ok (.iload_n 3, 1) := by decide +kernel
theorem dX0_canBringBack_26 : decode cX0_canBringBack 26 = .ok (.iaload, 1) := by decide +kernel
theorem dX0_canBringBack_27 : decode cX0_canBringBack 27 = .ok (.ior, 1) := by decide +kernel
theorem dX0_canBringBack_28 : decode cX0_canBringBack 28 = .ok (.istore_n 2, 1) := by decide +kernel
theorem dX0_canBringBack_29 : decode cX0_canBringBack 29 = .ok (.iinc 3 1, 3) := by decide +kernel
theorem dX0_canBringBack_32 : decode cX0_canBringBack 32 = .ok (.goto (-28), 3) := by decide +kernel
theorem dX0_canBringBack_35 : decode cX0_canBringBack 35 = .ok (.iload_n 1, 1) := by decide +kernel
theorem dX0_canBringBack_36 : decode cX0_canBringBack 36 = .ok (.aload_n 0, 1) := by decide +kernel
theorem dX0_canBringBack_37 : decode cX0_canBringBack 37 = .ok (.getfield 56, 3) := by decide +kernel
theorem dX0_canBringBack_40 : decode cX0_canBringBack 40 = .ok (.iand, 1) := by decide +kernel
theorem dX0_canBringBack_41 : decode cX0_canBringBack 41 = .ok (.ifCond .ne 20, 3) := by decide +kernel
theorem dX0_canBringBack_44 : decode cX0_canBringBack 44 = .ok (.iload_n 2, 1) := by decide +kernel
theorem dX0_canBringBack_45 : decode cX0_canBringBack 45 = .ok (.aload_n 0, 1) := by decide +kernel
theorem dX0_canBringBack_46 : decode cX0_canBringBack 46 = .ok (.getfield 56, 3) := by decide +kernel
theorem dX0_canBringBack_49 : decode cX0_canBringBack 49 = .ok (.iload_n 1, 1) := by decide +kernel
theorem dX0_canBringBack_50 : decode cX0_canBringBack 50 = .ok (.ior, 1) := by decide +kernel
theorem dX0_canBringBack_51 : decode cX0_canBringBack 51 = .ok (.iconst (-1), 1) := by decide +kernel
theorem dX0_canBringBack_52 : decode cX0_canBringBack 52 = .ok (.ixor, 1) := by decide +kernel
theorem dX0_canBringBack_53 : decode cX0_canBringBack 53 = .ok (.iand, 1) := by decide +kernel
theorem dX0_canBringBack_54 : decode cX0_canBringBack 54 = .ok (.ifCond .ne 7, 3) := by decide +kernel
theorem dX0_canBringBack_57 : decode cX0_canBringBack 57 = .ok (.iconst 1, 1) := by decide +kernel
theorem dX0_canBringBack_58 : decode cX0_canBringBack 58 = .ok (.goto 4, 3) := by decide +kernel
theorem dX0_canBringBack_61 : decode cX0_canBringBack 61 = .ok (.iconst 0, 1) := by decide +kernel
theorem dX0_canBringBack_62 : decode cX0_canBringBack 62 = .ok (.ireturn, 1) := by decide +kernel
set_option maxRecDepth 20000 in
theorem ggX0_looseEdits_X4_single : GoodIn wsX0_looseEdits wsX4_single := goodIn_r _ [4] (by decide +kernel) (by decide +kernel)
set_option maxRecDepth 20000 in
theorem gX0_looseEdits_X4_single_n79 : GoodIn wsX0_looseEdits (wsX4_single) := ggX0_looseEdits_X4_single
set_option maxRecDepth 20000 in
theorem ggX0_looseEdits_X0_canTakeBack : GoodIn wsX0_looseEdits wsX0_canTakeBack := goodIn_r _ [9, 10, 11, 12, 13, 8, 14, 1, 15, 2, 3, 4, 16, 17, 18, 19, 20, 21, 22, 23, 24, 25, 26] (by decide +kernel) (by decide +kernel)
set_option maxRecDepth 20000 in
theorem gX0_looseEdits_X0_canTakeBack : GoodIn wsX0_looseEdits (wsV RX0 118 RX0 yX0_canTakeBack wsX0_canTakeBack) := goodIn_app (goodIn_of _ (by decide +kernel)) ggX0_looseEdits_X0_canTakeBack
theorem dX0_looseEdits_0 : decode cX0_looseEdits 0 = .ok (.iconst 0, 1) := by decide +kernel
theorem dX0_looseEdits_1 : decode cX0_looseEdits 1 = .ok (.istore_n 1, 1) := by decide +kernel
theorem dX0_looseEdits_2 : decode cX0_looseEdits 2 = .ok (.iconst 0, 1) := by decide +kernel
theorem dX0_looseEdits_3 : decode cX0_looseEdits 3 = .ok (.istore_n 2, 1) := by decide +kernel
theorem dX0_looseEdits_4 : decode cX0_looseEdits 4 = .ok (.iload_n 2, 1) := by decide +kernel
theorem dX0_looseEdits_5 : decode cX0_looseEdits 5 = .ok (.aload_n 0, 1) := by decide +kernel
theorem dX0_looseEdits_6 : decode cX0_looseEdits 6 = .ok (.getfield 50, 3) := by decide +kernel
theorem dX0_looseEdits_9 : decode cX0_looseEdits 9 = .ok (.if_icmp .ge 27, 3) := by decide +kernel
theorem dX0_looseEdits_12 : decode cX0_looseEdits 12 = .ok (.aload_n 0, 1) := by decide +kernel
theorem dX0_looseEdits_13 : decode cX0_looseEdits 13 = .ok (.iload_n 2, 1) := by decide +kernel
theorem dX0_looseEdits_14 : decode cX0_looseEdits 14 = .ok (.invokestatic 79, 3) := by decide +kernel
theorem dX0_looseEdits_17 : decode cX0_looseEdits 17 = .ok (.invokevirtual 118, 3) := by decide +kernel
theorem dX0_looseEdits_20 : decode cX0_looseEdits 20 = .ok (.ifCond .eq 10, 3) := by decide +kernel
theorem dX0_looseEdits_23 : decode cX0_looseEdits 23 = .ok (.iload_n 1, 1) := by decide +kernel
theorem dX0_looseEdits_24 : decode cX0_looseEdits 24 = .ok (.iload_n 2, 1) := by decide +kernel
theorem dX0_looseEdits_25 : decode cX0_looseEdits 25 = .ok (.invokestatic 79, 3) := by decide +kernel
theorem dX0_looseEdits_28 : decode cX0_looseEdits 28 = .ok (.ior, 1) := by decide +kernel
theorem dX0_looseEdits_29 : decode cX0_looseEdits 29 = .ok (.istore_n 1, 1) := by decide +kernel
theorem dX0_looseEdits_30 : decode cX0_looseEdits 30 = .ok (.iinc 2 1, 3) := by decide +kernel
theorem dX0_looseEdits_33 : decode cX0_looseEdits 33 = .ok (.goto (-29), 3) := by decide +kernel
theorem dX0_looseEdits_36 : decode cX0_looseEdits 36 = .ok (.iload_n 1, 1) := by decide +kernel
theorem dX0_looseEdits_37 : decode cX0_looseEdits 37 = .ok (.ireturn, 1) := by decide +kernel
set_option maxRecDepth 20000 in
theorem ggX0_areFree_X0_basesOf : GoodIn wsX0_areFree wsX0_basesOf := goodIn_r _ [5, 6, 7, 8, 9, 4, 10, 11, 15, 16, 17, 18, 19, 20, 21, 22, 23, 24, 25] (by decide +kernel) (by decide +kernel)
set_option maxRecDepth 20000 in
theorem gX0_areFree_X0_basesOf : GoodIn wsX0_areFree (wsV RX0 109 RX0 yX0_basesOf wsX0_basesOf) := goodIn_app (goodIn_of _ (by decide +kernel)) ggX0_areFree_X0_basesOf
set_option maxRecDepth 20000 in
theorem ggX0_areFree_X4_has : GoodIn wsX0_areFree wsX4_has := goodIn_r _ [14] (by decide +kernel) (by decide +kernel)
set_option maxRecDepth 20000 in
theorem gX0_areFree_X4_has_n115 : GoodIn wsX0_areFree (wsX4_has) := ggX0_areFree_X4_has
theorem dX0_areFree_0 : decode cX0_areFree 0 = .ok (.aload_n 0, 1) := by decide +kernel
theorem dX0_areFree_1 : decode cX0_areFree 1 = .ok (.iload_n 1, 1) := by decide +kernel
theorem dX0_areFree_2 : decode cX0_areFree 2 = .ok (.invokevirtual 109, 3) := by decide +kernel
theorem dX0_areFree_5 : decode cX0_areFree 5 = .ok (.iload_n 2, 1) := by decide +kernel
theorem dX0_areFree_6 : decode cX0_areFree 6 = .ok (.invokestatic 115, 3) := by decide +kernel
theorem dX0_areFree_9 : decode cX0_areFree 9 = .ok (.ifCond .ne 19, 3) := by decide +kernel
theorem dX0_areFree_12 : decode cX0_areFree 12 = .ok (.aload_n 0, 1) := by decide +kernel
theorem dX0_areFree_13 : decode cX0_areFree 13 = .ok (.iload_n 2, 1) := by decide +kernel
theorem dX0_areFree_14 : decode cX0_areFree 14 = .ok (.invokevirtual 109, 3) := by decide +kernel
theorem dX0_areFree_17 : decode cX0_areFree 17 = .ok (.iload_n 1, 1) := by decide +kernel
theorem dX0_areFree_18 : decode cX0_areFree 18 = .ok (.invokestatic 115, 3) := by decide +kernel
theorem dX0_areFree_21 : decode cX0_areFree 21 = .ok (.ifCond .ne 7, 3) := by decide +kernel
theorem dX0_areFree_24 : decode cX0_areFree 24 = .ok (.iconst 1, 1) := by decide +kernel
theorem dX0_areFree_25 : decode cX0_areFree 25 = .ok (.goto 4, 3) := by decide +kernel
theorem dX0_areFree_28 : decode cX0_areFree 28 = .ok (.iconst 0, 1) := by decide +kernel
theorem dX0_areFree_29 : decode cX0_areFree 29 = .ok (.ireturn, 1) := by decide +kernel
set_option maxRecDepth 20000 in
theorem ggX0_commutingPairs_X0_areFree : GoodIn wsX0_commutingPairs wsX0_areFree := goodIn_r _ [6, 7, 8, 9, 5, 10, 11, 12, 13, 14, 15, 1, 16, 17, 18, 19, 20, 21, 22, 23, 24, 25, 26, 27, 28, 29] (by decide +kernel) (by decide +kernel)
set_option maxRecDepth 20000 in
theorem gX0_commutingPairs_X0_areFree : GoodIn wsX0_commutingPairs (wsV RX0 121 RX0 yX0_areFree wsX0_areFree) := goodIn_app (goodIn_of _ (by decide +kernel)) ggX0_commutingPairs_X0_areFree
theorem dX0_commutingPairs_0 : decode cX0_commutingPairs 0 = .ok (.iconst 0, 1) := by decide +kernel
theorem dX0_commutingPairs_1 : decode cX0_commutingPairs 1 = .ok (.istore_n 1, 1) := by decide +kernel
theorem dX0_commutingPairs_2 : decode cX0_commutingPairs 2 = .ok (.iconst 0, 1) := by decide +kernel
theorem dX0_commutingPairs_3 : decode cX0_commutingPairs 3 = .ok (.istore_n 2, 1) := by decide +kernel
theorem dX0_commutingPairs_4 : decode cX0_commutingPairs 4 = .ok (.iload_n 2, 1) := by decide +kernel
theorem dX0_commutingPairs_5 : decode cX0_commutingPairs 5 = .ok (.aload_n 0, 1) := by decide +kernel
theorem dX0_commutingPairs_6 : decode cX0_commutingPairs 6 = .ok (.getfield 50, 3) := by decide +kernel
theorem dX0_commutingPairs_9 : decode cX0_commutingPairs 9 = .ok (.if_icmp .ge 34, 3) := by decide +kernel
theorem dX0_commutingPairs_12 : decode cX0_commutingPairs 12 = .ok (.iconst 0, 1) := by decide +kernel
theorem dX0_commutingPairs_13 : decode cX0_commutingPairs 13 = .ok (.istore_n 3, 1) := by decide +kernel
theorem dX0_commutingPairs_14 : decode cX0_commutingPairs 14 = .ok (.iload_n 3, 1) := by decide +kernel
theorem dX0_commutingPairs_15 : decode cX0_commutingPairs 15 = .ok (.iload_n 2, 1) := by decide +kernel
theorem dX0_commutingPairs_16 : decode cX0_commutingPairs 16 = .ok (.if_icmp .ge 21, 3) := by decide +kernel
theorem dX0_commutingPairs_19 : decode cX0_commutingPairs 19 = .ok (.aload_n 0, 1) := by decide +kernel
theorem dX0_commutingPairs_20 : decode cX0_commutingPairs 20 = .ok (.iload_n 3, 1) := by decide +kernel
theorem dX0_commutingPairs_21 : decode cX0_commutingPairs 21 = .ok (.iload_n 2, 1) := by decide +kernel
theorem dX0_commutingPairs_22 : decode cX0_commutingPairs 22 = .ok (.invokevirtual 121, 3) := by decide +kernel
theorem dX0_commutingPairs_25 : decode cX0_commutingPairs 25 = .ok (.ifCond .eq 6, 3) := by decide +kernel
theorem dX0_commutingPairs_28 : decode cX0_commutingPairs 28 = .ok (.iinc 1 1, 3) := by decide +kernel
theorem dX0_commutingPairs_31 : decode cX0_commutingPairs 31 = .ok (.iinc 3 1, 3) := by decide +kernel
theorem dX0_commutingPairs_34 : decode cX0_commutingPairs 34 = .ok (.goto (-20), 3) := by decide +kernel
theorem dX0_commutingPairs_37 : decode cX0_commutingPairs 37 = .ok (.iinc 2 1, 3) := by decide +kernel
theorem dX0_commutingPairs_40 : decode cX0_commutingPairs 40 = .ok (.goto (-36), 3) := by decide +kernel
theorem dX0_commutingPairs_43 : decode cX0_commutingPairs 43 = .ok (.iload_n 1, 1) := by decide +kernel
theorem dX0_commutingPairs_44 : decode cX0_commutingPairs 44 = .ok (.ireturn, 1) := by decide +kernel
set_option maxRecDepth 20000 in
theorem ggX0_touched_X4_has : GoodIn wsX0_touched wsX4_has := goodIn_r _ [5] (by decide +kernel) (by decide +kernel)
set_option maxRecDepth 20000 in
theorem gX0_touched_X4_has_n115 : GoodIn wsX0_touched (wsX4_has) := ggX0_touched_X4_has
theorem dX0_touched_0 : decode cX0_touched 0 = .ok (.aload_n 0, 1) := by decide +kernel
theorem dX0_touched_1 : decode cX0_touched 1 = .ok (.getfield 15, 3) := by decide +kernel
theorem dX0_touched_4 : decode cX0_touched 4 = .ok (.iload_n 1, 1) := by decide +kernel
theorem dX0_touched_5 : decode cX0_touched 5 = .ok (.iaload, 1) := by decide +kernel
theorem dX0_touched_6 : decode cX0_touched 6 = .ok (.aload_n 0, 1) := by decide +kernel
theorem dX0_touched_7 : decode cX0_touched 7 = .ok (.getfield 18, 3) := by decide +kernel
theorem dX0_touched_10 : decode cX0_touched 10 = .ok (.iload_n 1, 1) := by decide +kernel
theorem dX0_touched_11 : decode cX0_touched 11 = .ok (.iaload, 1) := by decide +kernel
theorem dX0_touched_12 : decode cX0_touched 12 = .ok (.ior, 1) := by decide +kernel
theorem dX0_touched_13 : decode cX0_touched 13 = .ok (.iload_n 2, 1) := by decide +kernel
theorem dX0_touched_14 : decode cX0_touched 14 = .ok (.invokestatic 115, 3) := by decide +kernel
theorem dX0_touched_17 : decode cX0_touched 17 = .ok (.ireturn, 1) := by decide +kernel
set_option maxRecDepth 20000 in
theorem ggX0_sizeOf_X0_touched : GoodIn wsX0_sizeOf wsX0_touched := goodIn_r _ [6, 7, 8, 9, 10, 11, 12, 13, 14, 15, 16, 17, 18, 19, 20, 21, 22] (by decide +kernel) (by decide +kernel)
set_option maxRecDepth 20000 in
theorem gX0_sizeOf_X0_touched : GoodIn wsX0_sizeOf (wsV RX0 124 RX0 yX0_touched wsX0_touched) := goodIn_app (goodIn_of _ (by decide +kernel)) ggX0_sizeOf_X0_touched
theorem dX0_sizeOf_0 : decode cX0_sizeOf 0 = .ok (.iconst 0, 1) := by decide +kernel
theorem dX0_sizeOf_1 : decode cX0_sizeOf 1 = .ok (.istore_n 2, 1) := by decide +kernel
theorem dX0_sizeOf_2 : decode cX0_sizeOf 2 = .ok (.iconst 0, 1) := by decide +kernel
theorem dX0_sizeOf_3 : decode cX0_sizeOf 3 = .ok (.istore_n 3, 1) := by decide +kernel
theorem dX0_sizeOf_4 : decode cX0_sizeOf 4 = .ok (.iload_n 3, 1) := by decide +kernel
theorem dX0_sizeOf_5 : decode cX0_sizeOf 5 = .ok (.aload_n 0, 1) := by decide +kernel
theorem dX0_sizeOf_6 : decode cX0_sizeOf 6 = .ok (.getfield 39, 3) := by decide +kernel
theorem dX0_sizeOf_9 : decode cX0_sizeOf 9 = .ok (.if_icmp .ge 21, 3) := by decide +kernel
theorem dX0_sizeOf_12 : decode cX0_sizeOf 12 = .ok (.aload_n 0, 1) := by decide +kernel
theorem dX0_sizeOf_13 : decode cX0_sizeOf 13 = .ok (.iload_n 3, 1) := by decide +kernel
theorem dX0_sizeOf_14 : decode cX0_sizeOf 14 = .ok (.iload_n 1, 1) := by decide +kernel
theorem dX0_sizeOf_15 : decode cX0_sizeOf 15 = .ok (.invokevirtual 124, 3) := by decide +kernel
theorem dX0_sizeOf_18 : decode cX0_sizeOf 18 = .ok (.ifCond .eq 6, 3) := by decide +kernel
theorem dX0_sizeOf_21 : decode cX0_sizeOf 21 = .ok (.iinc 2 1, 3) := by decide +kernel
theorem dX0_sizeOf_24 : decode cX0_sizeOf 24 = .ok (.iinc 3 1, 3) := by decide +kernel
theorem dX0_sizeOf_27 : decode cX0_sizeOf 27 = .ok (.goto (-23), 3) := by decide +kernel
theorem dX0_sizeOf_30 : decode cX0_sizeOf 30 = .ok (.iload_n 2, 1) := by decide +kernel
theorem dX0_sizeOf_31 : decode cX0_sizeOf 31 = .ok (.ireturn, 1) := by decide +kernel
set_option maxRecDepth 20000 in
theorem ggX0_placeOf_X0_touched : GoodIn wsX0_placeOf wsX0_touched := goodIn_r _ [7, 8, 9, 10, 11, 12, 21, 22, 23, 24, 25, 26, 27, 28, 29, 30, 31] (by decide +kernel) (by decide +kernel)
set_option maxRecDepth 20000 in
theorem gX0_placeOf_X0_touched : GoodIn wsX0_placeOf (wsV RX0 124 RX0 yX0_touched wsX0_touched) := goodIn_app (goodIn_of _ (by decide +kernel)) ggX0_placeOf_X0_touched
set_option maxRecDepth 20000 in
theorem ggX0_placeOf_X0_visibleAhead : GoodIn wsX0_placeOf wsX0_visibleAhead := goodIn_r _ [16, 1, 17, 18, 19, 6, 20, 8, 9, 21, 22, 23, 24, 25, 26, 27, 28, 29, 30, 31] (by decide +kernel) (by decide +kernel)
set_option maxRecDepth 20000 in
theorem gX0_placeOf_X0_visibleAhead : GoodIn wsX0_placeOf (wsV RX0 96 RX0 yX0_visibleAhead wsX0_visibleAhead) := goodIn_app (goodIn_of _ (by decide +kernel)) ggX0_placeOf_X0_visibleAhead
theorem dX0_placeOf_0 : decode cX0_placeOf 0 = .ok (.iconst 0, 1) := by decide +kernel
theorem dX0_placeOf_1 : decode cX0_placeOf 1 = .ok (.istore_n 2, 1) := by decide +kernel
theorem dX0_placeOf_2 : decode cX0_placeOf 2 = .ok (.iload_n 2, 1) := by decide +kernel
theorem dX0_placeOf_3 : decode cX0_placeOf 3 = .ok (.aload_n 0, 1) := by decide +kernel
theorem dX0_placeOf_4 : decode cX0_placeOf 4 = .ok (.getfield 39, 3) := by decide +kernel
theorem dX0_placeOf_7 : decode cX0_placeOf 7 = .ok (.if_icmp .ge 18, 3) := by decide +kernel
theorem dX0_placeOf_10 : decode cX0_placeOf 10 = .ok (.aload_n 0, 1) := by decide +kernel
theorem dX0_placeOf_11 : decode cX0_placeOf 11 = .ok (.iload_n 2, 1) := by decide +kernel
theorem dX0_placeOf_12 : decode cX0_placeOf 12 = .ok (.iload_n 1, 1) := by decide +kernel
theorem dX0_placeOf_13 : decode cX0_placeOf 13 = .ok (.invokevirtual 124, 3) := by decide +kernel
theorem dX0_placeOf_16 : decode cX0_placeOf 16 = .ok (.ifCond .ne 9, 3) := by decide +kernel
theorem dX0_placeOf_19 : decode cX0_placeOf 19 = .ok (.iinc 2 1, 3) := by decide +kernel
theorem dX0_placeOf_22 : decode cX0_placeOf 22 = .ok (.goto (-20), 3) := by decide +kernel
theorem dX0_placeOf_25 : decode cX0_placeOf 25 = .ok (.aload_n 0, 1) := by decide +kernel
theorem dX0_placeOf_26 : decode cX0_placeOf 26 = .ok (.iload_n 2, 1) := by decide +kernel
theorem dX0_placeOf_27 : decode cX0_placeOf 27 = .ok (.aload_n 0, 1) := by decide +kernel
theorem dX0_placeOf_28 : decode cX0_placeOf 28 = .ok (.getfield 56, 3) := by decide +kernel
theorem dX0_placeOf_31 : decode cX0_placeOf 31 = .ok (.invokevirtual 96, 3) := by decide +kernel
theorem dX0_placeOf_34 : decode cX0_placeOf 34 = .ok (.ireturn, 1) := by decide +kernel
set_option maxRecDepth 20000 in
theorem ggX0_priceOf_J6_bitCount_0f7a4 : GoodIn wsX0_priceOf wsJ6_bitCount_0f7a4 := goodIn_r _ [10, 11, 12, 13] (by decide +kernel) (by decide +kernel)
set_option maxRecDepth 20000 in
theorem gX0_priceOf_J6_bitCount_0f7a4 : GoodIn wsX0_priceOf (va_wsS RX0 127 yJ6_bitCount_0f7a4 wsJ6_bitCount_0f7a4) := goodIn_app (goodIn_of _ (by decide +kernel)) ggX0_priceOf_J6_bitCount_0f7a4
set_option maxRecDepth 20000 in
theorem ggX0_priceOf_X0_placeOf : GoodIn wsX0_priceOf wsX0_placeOf := goodIn_r _ [18, 19, 1, 20, 21, 22, 17, 23, 24, 25, 26, 27, 28, 29, 30, 31, 32, 33, 34, 35, 36, 37, 38, 39, 40, 41, 42, 43, 44, 45, 46, 47] (by decide +kernel) (by decide +kernel)
set_option maxRecDepth 20000 in
theorem gX0_priceOf_X0_placeOf : GoodIn wsX0_priceOf (wsV RX0 132 RX0 yX0_placeOf wsX0_placeOf) := goodIn_app (goodIn_of _ (by decide +kernel)) ggX0_priceOf_X0_placeOf
theorem dX0_priceOf_0 : decode cX0_priceOf 0 = .ok (.aload_n 0, 1) := by decide +kernel
theorem dX0_priceOf_1 : decode cX0_priceOf 1 = .ok (.getfield 56, 3) := by decide +kernel
theorem dX0_priceOf_4 : decode cX0_priceOf 4 = .ok (.iload_n 1, 1) := by decide +kernel
theorem dX0_priceOf_5 : decode cX0_priceOf 5 = .ok (.iconst 1, 1) := by decide +kernel
theorem dX0_priceOf_6 : decode cX0_priceOf 6 = .ok (.iadd, 1) := by decide +kernel
theorem dX0_priceOf_7 : decode cX0_priceOf 7 = .ok (.ishr, 1) := by decide +kernel
theorem dX0_priceOf_8 : decode cX0_priceOf 8 = .ok (.invokestatic 127, 3) := by decide +kernel
theorem dX0_priceOf_11 : decode cX0_priceOf 11 = .ok (.istore 4, 2) := by decide +kernel
theorem dX0_priceOf_13 : decode cX0_priceOf 13 = .ok (.aload_n 0, 1) := by decide +kernel
theorem dX0_priceOf_14 : decode cX0_priceOf 14 = .ok (.iload_n 1, 1) := by decide +kernel
theorem dX0_priceOf_15 : decode cX0_priceOf 15 = .ok (.invokevirtual 132, 3) := by decide +kernel
theorem dX0_priceOf_18 : decode cX0_priceOf 18 = .ok (.aload_n 0, 1) := by decide +kernel
theorem dX0_priceOf_19 : decode cX0_priceOf 19 = .ok (.getfield 59, 3) := by decide +kernel
theorem dX0_priceOf_22 : decode cX0_priceOf 22 = .ok (.isub, 1) := by decide +kernel
theorem dX0_priceOf_23 : decode cX0_priceOf 23 = .ok (.invokestatic 135, 3) := by decide +kernel
theorem dX0_priceOf_26 : decode cX0_priceOf 26 = .ok (.istore 5, 2) := by decide +kernel
theorem dX0_priceOf_28 : decode cX0_priceOf 28 = .ok (.iconst 1, 1) := by decide +kernel
theorem dX0_priceOf_29 : decode cX0_priceOf 29 = .ok (.iload_n 2, 1) := by decide +kernel
theorem dX0_priceOf_30 : decode cX0_priceOf 30 = .ok (.iload 4, 2) := by decide +kernel
theorem dX0_priceOf_32 : decode cX0_priceOf 32 = .ok (.imul, 1) := by decide +kernel
theorem dX0_priceOf_33 : decode cX0_priceOf 33 = .ok (.iadd, 1) := by decide +kernel
theorem dX0_priceOf_34 : decode cX0_priceOf 34 = .ok (.iload_n 3, 1) := by decide +kernel
theorem dX0_priceOf_35 : decode cX0_priceOf 35 = .ok (.iload 5, 2) := by decide +kernel
theorem dX0_priceOf_37 : decode cX0_priceOf 37 = .ok (.iconst 4, 1) := by decide +kernel
theorem dX0_priceOf_38 : decode cX0_priceOf 38 = .ok (.idiv, 1) := by decide +kernel
theorem dX0_priceOf_39 : decode cX0_priceOf 39 = .ok (.imul, 1) := by decide +kernel
theorem dX0_priceOf_40 : decode cX0_priceOf 40 = .ok (.iadd, 1) := by decide +kernel
theorem dX0_priceOf_41 : decode cX0_priceOf 41 = .ok (.ireturn, 1) := by decide +kernel
set_option maxRecDepth 20000 in
theorem ggX0_priceOfSet_X4_has : GoodIn wsX0_priceOfSet wsX4_has := goodIn_r _ [4] (by decide +kernel) (by decide +kernel)
set_option maxRecDepth 20000 in
theorem gX0_priceOfSet_X4_has_n115 : GoodIn wsX0_priceOfSet (wsX4_has) := ggX0_priceOfSet_X4_has
set_option maxRecDepth 20000 in
theorem ggX0_priceOfSet_X0_priceOf : GoodIn wsX0_priceOfSet wsX0_priceOf := goodIn_r _ [9, 10, 11, 12, 13, 14, 15, 16, 17, 18, 19, 20, 21, 22, 23, 24, 25, 8, 26, 27, 28, 29, 30, 31, 32, 33, 2, 3, 4, 34, 35, 36, 37, 38, 39, 40, 41, 42, 43, 44, 45, 46, 47, 48, 49, 50, 51, 52] (by decide +kernel) (by decide +kernel)
set_option maxRecDepth 20000 in
theorem gX0_priceOfSet_X0_priceOf : GoodIn wsX0_priceOfSet (wsV RX0 138 RX0 yX0_priceOf wsX0_priceOf) := goodIn_app (goodIn_of _ (by decide +kernel)) ggX0_priceOfSet_X0_priceOf
theorem dX0_priceOfSet_0 : decode cX0_priceOfSet 0 = .ok (.iconst 0, 1) := by decide +kernel
theorem dX0_priceOfSet_1 : decode cX0_priceOfSet 1 = .ok (.istore 4, 2) := by decide +kernel
theorem dX0_priceOfSet_3 : decode cX0_priceOfSet 3 = .ok (.iconst 0, 1) := by decide +kernel
theorem dX0_priceOfSet_4 : decode cX0_priceOfSet 4 = .ok (.istore 5, 2) := by decide +kernel
theorem dX0_priceOfSet_6 : decode cX0_priceOfSet 6 = .ok (.iload 5, 2) := by decide +kernel
theorem dX0_priceOfSet_8 : decode cX0_priceOfSet 8 = .ok (.aload_n 0, 1) := by decide +kernel
theorem dX0_priceOfSet_9 : decode cX0_priceOfSet 9 = .ok (.getfield 50, 3) := by decide +kernel
theorem dX0_priceOfSet_12 : decode cX0_priceOfSet 12 = .ok (.if_icmp .ge 31, 3) := by decide +kernel
theorem dX0_priceOfSet_15 : decode cX0_priceOfSet 15 = .ok (.iload_n 1, 1) := by decide +kernel
theorem dX0_priceOfSet_16 : decode cX0_priceOfSet 16 = .ok (.iload 5, 2) := by decide +kernel
theorem dX0_priceOfSet_18 : decode cX0_priceOfSet 18 = .ok (.invokestatic 115, 3) := by decide +kernel
theorem dX0_priceOfSet_21 : decode cX0_priceOfSet 21 = .ok (.ifCond .eq 16, 3) := by decide +kernel
theorem dX0_priceOfSet_24 : decode cX0_priceOfSet 24 = .ok (.iload 4, 2) := by decide +kernel
theorem dX0_priceOfSet_26 : decode cX0_priceOfSet 26 = .ok (.aload_n 0, 1) := by decide +kernel
theorem dX0_priceOfSet_27 : decode cX0_priceOfSet 27 = .ok (.iload 5, 2) := by decide +kernel
theorem dX0_priceOfSet_29 : decode cX0_priceOfSet 29 = .ok (.iload_n 2, 1) := by decide +kernel
theorem dX0_priceOfSet_30 : decode cX0_priceOfSet 30 = .ok (.iload_n 3, 1) := by decide +kernel
theorem dX0_priceOfSet_31 : decode cX0_priceOfSet 31 = .ok (.invokevirtual 138, 3) := by decide +kernel
theorem dX0_priceOfSet_34 : decode cX0_priceOfSet 34 = .ok (.iadd, 1) := by decide +kernel
theorem dX0_priceOfSet_35 : decode cX0_priceOfSet 35 = .ok (.istore 4, 2) := by decide +kernel
theorem dX0_priceOfSet_37 : decode cX0_priceOfSet 37 = .ok (.iinc 5 1, 3) := by decide +kernel
theorem dX0_priceOfSet_40 : decode cX0_priceOfSet 40 = .ok (.goto (-34), 3) := by decide +kernel
theorem dX0_priceOfSet_43 : decode cX0_priceOfSet 43 = .ok (.iload 4, 2) := by decide +kernel
theorem dX0_priceOfSet_45 : decode cX0_priceOfSet 45 = .ok (.ireturn, 1) := by decide +kernel
set_option maxRecDepth 20000 in
theorem ggX0_stretchFrom_X0_ownerAt : GoodIn wsX0_stretchFrom wsX0_ownerAt := goodIn_r _ [6, 7, 8, 9, 10, 11, 5, 12, 1, 13, 14, 15, 16, 17, 18, 19, 20, 21, 22, 23] (by decide +kernel) (by decide +kernel)
set_option maxRecDepth 20000 in
theorem gX0_stretchFrom_X0_ownerAt : GoodIn wsX0_stretchFrom (wsV RX0 90 RX0 yX0_ownerAt wsX0_ownerAt) := goodIn_app (goodIn_of _ (by decide +kernel)) ggX0_stretchFrom_X0_ownerAt
theorem dX0_stretchFrom_0 : decode cX0_stretchFrom 0 = .ok (.iload_n 1, 1) := by decide +kernel
theorem dX0_stretchFrom_1 : decode cX0_stretchFrom 1 = .ok (.istore_n 3, 1) := by decide +kernel
theorem dX0_stretchFrom_2 : decode cX0_stretchFrom 2 = .ok (.iload_n 3, 1) := by decide +kernel
theorem dX0_stretchFrom_3 : decode cX0_stretchFrom 3 = .ok (.aload_n 0, 1) := by decide +kernel
theorem dX0_stretchFrom_4 : decode cX0_stretchFrom 4 = .ok (.getfield 71, 3) := by decide +kernel
theorem dX0_stretchFrom_7 : decode cX0_stretchFrom 7 = .ok (.if_icmp .ge 18, 3) := by decide +kernel
theorem dX0_stretchFrom_10 : decode cX0_stretchFrom 10 = .ok (.aload_n 0, 1) := by decide +kernel
theorem dX0_stretchFrom_11 : decode cX0_stretchFrom 11 = .ok (.iload_n 3, 1) := by decide +kernel
theorem dX0_stretchFrom_12 : decode cX0_stretchFrom 12 = .ok (.invokevirtual 90, 3) := by decide +kernel
theorem dX0_stretchFrom_15 : decode cX0_stretchFrom 15 = .ok (.iload_n 2, 1) := by decide +kernel
theorem dX0_stretchFrom_16 : decode cX0_stretchFrom 16 = .ok (.if_icmp .ne 9, 3) := by decide +kernel
theorem dX0_stretchFrom_19 : decode cX0_stretchFrom 19 = .ok (.iinc 3 1, 3) := by decide +kernel
theorem dX0_stretchFrom_22 : decode cX0_stretchFrom 22 = .ok (.goto (-20), 3) := by decide +kernel
theorem dX0_stretchFrom_25 : decode cX0_stretchFrom 25 = .ok (.iload_n 3, 1) := by decide +kernel
theorem dX0_stretchFrom_26 : decode cX0_stretchFrom 26 = .ok (.iload_n 1, 1) := by decide +kernel
theorem dX0_stretchFrom_27 : decode cX0_stretchFrom 27 = .ok (.isub, 1) := by decide +kernel
theorem dX0_stretchFrom_28 : decode cX0_stretchFrom 28 = .ok (.ireturn, 1) := by decide +kernel
set_option maxRecDepth 20000 in
theorem ggX0_longestStretch_X0_stretchFrom : GoodIn wsX0_longestStretch wsX0_stretchFrom := goodIn_r _ [10, 1, 11, 12, 13, 9, 14, 15, 16, 17, 18, 19, 20, 21, 22, 23, 24, 25, 26, 27, 28, 29, 30, 31] (by decide +kernel) (by decide +kernel)
set_option maxRecDepth 20000 in
theorem gX0_longestStretch_X0_stretchFrom : GoodIn wsX0_longestStretch (wsV RX0 142 RX0 yX0_stretchFrom wsX0_stretchFrom) := goodIn_app (goodIn_of _ (by decide +kernel)) ggX0_longestStretch_X0_stretchFrom
theorem dX0_longestStretch_0 : decode cX0_longestStretch 0 = .ok (.iconst 0, 1) := by decide +kernel
theorem dX0_longestStretch_1 : decode cX0_longestStretch 1 = .ok (.istore_n 2, 1) := by decide +kernel
theorem dX0_longestStretch_2 : decode cX0_longestStretch 2 = .ok (.iconst 0, 1) := by decide +kernel
theorem dX0_longestStretch_3 : decode cX0_longestStretch 3 = .ok (.istore_n 3, 1) := by decide +kernel
theorem dX0_longestStretch_4 : decode cX0_longestStretch 4 = .ok (.iconst 0, 1) := by decide +kernel
theorem dX0_longestStretch_5 : decode cX0_longestStretch 5 = .ok (.istore 4, 2) := by decide +kernel
theorem dX0_longestStretch_7 : decode cX0_longestStretch 7 = .ok (.iload 4, 2) := by decide +kernel
theorem dX0_longestStretch_9 : decode cX0_longestStretch 9 = .ok (.aload_n 0, 1) := by decide +kernel
theorem dX0_longestStretch_10 : decode cX0_longestStretch 10 = .ok (.getfield 71, 3) := by decide +kernel
theorem dX0_longestStretch_13 : decode cX0_longestStretch 13 = .ok (.if_icmp .ge 38, 3) := by decide +kernel
theorem dX0_longestStretch_16 : decode cX0_longestStretch 16 = .ok (.aload_n 0, 1) := by decide +kernel
theorem dX0_longestStretch_17 : decode cX0_longestStretch 17 = .ok (.iload 4, 2) := by decide +kernel
theorem dX0_longestStretch_19 : decode cX0_longestStretch 19 = .ok (.iload_n 1, 1) := by decide +kernel
theorem dX0_longestStretch_20 : decode cX0_longestStretch 20 = .ok (.invokevirtual 142, 3) := by decide +kernel
theorem dX0_longestStretch_23 : decode cX0_longestStretch 23 = .ok (.istore 5, 2) := by decide +kernel
theorem dX0_longestStretch_25 : decode cX0_longestStretch 25 = .ok (.iload 5, 2) := by decide +kernel
theorem dX0_longestStretch_27 : decode cX0_longestStretch 27 = .ok (.iload_n 3, 1) := by decide +kernel
theorem dX0_longestStretch_28 : decode cX0_longestStretch 28 = .ok (.if_icmp .le 9, 3) := by decide +kernel
theorem dX0_longestStretch_31 : decode cX0_longestStretch 31 = .ok (.iload 5, 2) := by decide +kernel
theorem dX0_longestStretch_33 : decode cX0_longestStretch 33 = .ok (.istore_n 3, 1) := by decide +kernel
theorem dX0_longestStretch_34 : decode cX0_longestStretch 34 = .ok (.iload 4, 2) := by decide +kernel
theorem dX0_longestStretch_36 : decode cX0_longestStretch 36 = .ok (.istore_n 2, 1) := by decide +kernel
theorem dX0_longestStretch_37 : decode cX0_longestStretch 37 = .ok (.iload 4, 2) := by decide +kernel
theorem dX0_longestStretch_39 : decode cX0_longestStretch 39 = .ok (.iload 5, 2) := by decide +kernel
theorem dX0_longestStretch_41 : decode cX0_longestStretch 41 = .ok (.iconst 1, 1) := by decide +kernel
theorem dX0_longestStretch_42 : decode cX0_longestStretch 42 = .ok (.invokestatic 145, 3) := by decide +kernel
theorem dX0_longestStretch_45 : decode cX0_longestStretch 45 = .ok (.iadd, 1) := by decide +kernel
theorem dX0_longestStretch_46 : decode cX0_longestStretch 46 = .ok (.istore 4, 2) := by decide +kernel
theorem dX0_longestStretch_48 : decode cX0_longestStretch 48 = .ok (.goto (-41), 3) := by decide +kernel
theorem dX0_longestStretch_51 : decode cX0_longestStretch 51 = .ok (.iload_n 2, 1) := by decide +kernel
theorem dX0_longestStretch_52 : decode cX0_longestStretch 52 = .ok (.ireturn, 1) := by decide +kernel
set_option maxRecDepth 20000 in
theorem ggX0_editsWithin_X0_hasStretch : GoodIn wsX0_editsWithin wsX0_hasStretch := goodIn_r _ [9, 10, 15, 16, 17, 18, 19, 20, 21, 22, 23, 24, 25] (by decide +kernel) (by decide +kernel)
set_option maxRecDepth 20000 in
theorem gX0_editsWithin_X0_hasStretch : GoodIn wsX0_editsWithin (wsV RX0 86 RX0 yX0_hasStretch wsX0_hasStretch) := goodIn_app (goodIn_of _ (by decide +kernel)) ggX0_editsWithin_X0_hasStretch
set_option maxRecDepth 20000 in
theorem ggX0_editsWithin_X0_isVisible : GoodIn wsX0_editsWithin wsX0_isVisible := goodIn_r _ [14, 4, 2, 15, 16, 17, 18, 19, 20, 21, 22, 23, 24, 25] (by decide +kernel) (by decide +kernel)
set_option maxRecDepth 20000 in
theorem gX0_editsWithin_X0_isVisible : GoodIn wsX0_editsWithin (wsV RX0 93 RX0 yX0_isVisible wsX0_isVisible) := goodIn_app (goodIn_of _ (by decide +kernel)) ggX0_editsWithin_X0_isVisible
theorem dX0_editsWithin_0 : decode cX0_editsWithin 0 = .ok (.aload_n 0, 1) := by decide +kernel
theorem dX0_editsWithin_1 : decode cX0_editsWithin 1 = .ok (.iload_n 1, 1) := by decide +kernel
theorem dX0_editsWithin_2 : decode cX0_editsWithin 2 = .ok (.iload_n 2, 1) := by decide +kernel
theorem dX0_editsWithin_3 : decode cX0_editsWithin 3 = .ok (.invokevirtual 86, 3) := by decide +kernel
theorem dX0_editsWithin_6 : decode cX0_editsWithin 6 = .ok (.ifCond .ne 5, 3) := by decide +kernel
theorem dX0_editsWithin_9 : decode cX0_editsWithin 9 = .ok (.iconst 0, 1) := by decide +kernel
theorem dX0_editsWithin_10 : decode cX0_editsWithin 10 = .ok (.ireturn, 1) := by decide +kernel
theorem dX0_editsWithin_11 : decode cX0_editsWithin 11 = .ok (.iconst 0, 1) := by decide +kernel
theorem dX0_editsWithin_12 : decode cX0_editsWithin 12 = .ok (.istore_n 3, 1) := by decide +kernel
theorem dX0_editsWithin_13 : decode cX0_editsWithin 13 = .ok (.aload_n 0, 1) := by decide +kernel
theorem dX0_editsWithin_14 : decode cX0_editsWithin 14 = .ok (.getfield 21, 3) := by decide +kernel
theorem dX0_editsWithin_17 : decode cX0_editsWithin 17 = .ok (.iload_n 1, 1) := by decide +kernel
theorem dX0_editsWithin_18 : decode cX0_editsWithin 18 = .ok (.iaload, 1) := by decide +kernel
theorem dX0_editsWithin_19 : decode cX0_editsWithin 19 = .ok (.istore 4, 2) := by decide +kernel
theorem dX0_editsWithin_21 : decode cX0_editsWithin 21 = .ok (.iload 4, 2) := by decide +kernel
theorem dX0_editsWithin_23 : decode cX0_editsWithin 23 = .ok (.aload_n 0, 1) := by decide +kernel
theorem dX0_editsWithin_24 : decode cX0_editsWithin 24 = .ok (.getfield 21, 3) := by decide +kernel
theorem dX0_editsWithin_27 : decode cX0_editsWithin 27 = .ok (.iload_n 2, 1) := by decide +kernel
theorem dX0_editsWithin_28 : decode cX0_editsWithin 28 = .ok (.iconst 1, 1) := by decide +kernel
theorem dX0_editsWithin_29 : decode cX0_editsWithin 29 = .ok (.isub, 1) := by decide +kernel
theorem dX0_editsWithin_30 : decode cX0_editsWithin 30 = .ok (.iaload, 1) := by decide +kernel
theorem dX0_editsWithin_31 : decode cX0_editsWithin 31 = .ok (.if_icmp .gt 47, 3) := by decide +kernel
theorem dX0_editsWithin_34 : decode cX0_editsWithin 34 = .ok (.iload_n 3, 1) := by decide +kernel
theorem dX0_editsWithin_35 : decode cX0_editsWithin 35 = .ok (.aload_n 0, 1) := by decide +kernel
theorem dX0_editsWithin_36 : decode cX0_editsWithin 36 = .ok (.getfield 18, 3) := by decide +kernel
theorem dX0_editsWithin_39 : decode cX0_editsWithin 39 = .ok (.iload 4, 2) := by decide +kernel
theorem dX0_editsWithin_41 : decode cX0_editsWithin 41 = .ok (.iaload, 1) := by decide +kernel
theorem dX0_editsWithin_42 : decode cX0_editsWithin 42 = .ok (.aload_n 0, 1) := by decide +kernel
theorem dX0_editsWithin_43 : decode cX0_editsWithin 43 = .ok (.getfield 56, 3) := by decide +kernel
theorem dX0_editsWithin_46 : decode cX0_editsWithin 46 = .ok (.iand, 1) := by decide +kernel
theorem dX0_editsWithin_47 : decode cX0_editsWithin 47 = .ok (.ior, 1) := by decide +kernel
theorem dX0_editsWithin_48 : decode cX0_editsWithin 48 = .ok (.istore_n 3, 1) := by decide +kernel
theorem dX0_editsWithin_49 : decode cX0_editsWithin 49 = .ok (.aload_n 0, 1) := by decide +kernel
theorem dX0_editsWithin_50 : decode cX0_editsWithin 50 = .ok (.iload 4, 2) := by decide +kernel
theorem dX0_editsWithin_52 : decode cX0_editsWithin 52 = .ok (.aload_n 0, 1) := by decide +kernel
theorem dX0_editsWithin_53 : decode cX0_editsWithin 53 = .ok (.getfield 56, 3) := by decide +kernel
theorem dX0_editsWithin_56 : decode cX0_editsWithin 56 = .ok (.invokevirtual 93, 3) := by decide +kernel
theorem dX0_editsWithin_59 : decode cX0_editsWithin 59 = .ok (.ifCond .eq 13, 3) := by decide +kernel
theorem dX0_editsWithin_62 : decode cX0_editsWithin 62 = .ok (.iload_n 3, 1) := by decide +kernel
theorem dX0_editsWithin_63 : decode cX0_editsWithin 63 = .ok (.aload_n 0, 1) := by decide +kernel
theorem dX0_editsWithin_64 : decode cX0_editsWithin 64 = .ok (.getfield 15, 3) := by decide +kernel
theorem dX0_editsWithin_67 : decode cX0_editsWithin 67 = .ok (.iload 4, 2) := by decide +kernel
theorem dX0_editsWithin_69 : decode cX0_editsWithin 69 = .ok (.iaload, 1) := by decide +kernel
theorem dX0_editsWithin_70 : decode cX0_editsWithin 70 = .ok (.ior, 1) := by decide +kernel
theorem dX0_editsWithin_71 : decode cX0_editsWithin 71 = .ok (.istore_n 3, 1) := by decide +kernel
theorem dX0_editsWithin_72 : decode cX0_editsWithin 72 = .ok (.iinc 4 1, 3) := by decide +kernel
theorem dX0_editsWithin_75 : decode cX0_editsWithin 75 = .ok (.goto (-54), 3) := by decide +kernel
theorem dX0_editsWithin_78 : decode cX0_editsWithin 78 = .ok (.iload_n 3, 1) := by decide +kernel
theorem dX0_editsWithin_79 : decode cX0_editsWithin 79 = .ok (.ireturn, 1) := by decide +kernel
set_option maxRecDepth 20000 in
theorem ggX0_differencesFrom_X0_codeAt : GoodIn wsX0_differencesFrom wsX0_codeAt := goodIn_r _ [13, 14, 15, 16, 17, 18, 12, 19, 1, 20, 21, 22, 23, 24, 25, 26, 27, 28, 29, 30] (by decide +kernel) (by decide +kernel)
set_option maxRecDepth 20000 in
theorem gX0_differencesFrom_X0_codeAt : GoodIn wsX0_differencesFrom (wsV RX0 148 RX0 yX0_codeAt wsX0_codeAt) := goodIn_app (goodIn_of _ (by decide +kernel)) ggX0_differencesFrom_X0_codeAt
theorem dX0_differencesFrom_0 : decode cX0_differencesFrom 0 = .ok (.aload_n 0, 1) := by decide +kernel
theorem dX0_differencesFrom_1 : decode cX0_differencesFrom 1 = .ok (.getfield 71, 3) := by decide +kernel
theorem dX0_differencesFrom_4 : decode cX0_differencesFrom 4 = .ok (.aload_n 1, 1) := by decide +kernel
theorem dX0_differencesFrom_5 : decode cX0_differencesFrom 5 = .ok (.getfield 71, 3) := by decide +kernel
theorem dX0_differencesFrom_8 : decode cX0_differencesFrom 8 = .ok (.invokestatic 33, 3) := by decide +kernel
theorem dX0_differencesFrom_11 : decode cX0_differencesFrom 11 = .ok (.istore_n 2, 1) := by decide +kernel
theorem dX0_differencesFrom_12 : decode cX0_differencesFrom 12 = .ok (.aload_n 0, 1) := by decide +kernel
theorem dX0_differencesFrom_13 : decode cX0_differencesFrom 13 = .ok (.getfield 71, 3) := by decide +kernel
theorem dX0_differencesFrom_16 : decode cX0_differencesFrom 16 = .ok (.aload_n 1, 1) := by decide +kernel
theorem dX0_differencesFrom_17 : decode cX0_differencesFrom 17 = .ok (.getfield 71, 3) := by decide +kernel
theorem dX0_differencesFrom_20 : decode cX0_differencesFrom 20 = .ok (.isub, 1) := by decide +kernel
theorem dX0_differencesFrom_21 : decode cX0_differencesFrom 21 = .ok (.invokestatic 135, 3) := by decide +kernel
theorem dX0_differencesFrom_24 : decode cX0_differencesFrom 24 = .ok (.istore_n 3, 1) := by decide +kernel
theorem dX0_differencesFrom_25 : decode cX0_differencesFrom 25 = .ok (.iconst 0, 1) := by decide +kernel
theorem dX0_differencesFrom_26 : decode cX0_differencesFrom 26 = .ok (.istore 4, 2) := by decide +kernel
theorem dX0_differencesFrom_28 : decode cX0_differencesFrom 28 = .ok (.iload 4, 2) := by decide +kernel
theorem dX0_differencesFrom_30 : decode cX0_differencesFrom 30 = .ok (.iload_n 2, 1) := by decide +kernel
theorem dX0_differencesFrom_31 : decode cX0_differencesFrom 31 = .ok (.if_icmp .ge 27, 3) := by decide +kernel
theorem dX0_differencesFrom_34 : decode cX0_differencesFrom 34 = .ok (.aload_n 0, 1) := by decide +kernel
theorem dX0_differencesFrom_35 : decode cX0_differencesFrom 35 = .ok (.iload 4, 2) := by decide +kernel
theorem dX0_differencesFrom_37 : decode cX0_differencesFrom 37 = .ok (.invokevirtual 148, 3) := by decide +kernel
theorem dX0_differencesFrom_40 : decode cX0_differencesFrom 40 = .ok (.aload_n 1, 1) := by decide +kernel
theorem dX0_differencesFrom_41 : decode cX0_differencesFrom 41 = .ok (.iload 4, 2) := by decide +kernel
theorem dX0_differencesFrom_43 : decode cX0_differencesFrom 43 = .ok (.invokevirtual 148, 3) := by decide +kernel
theorem dX0_differencesFrom_46 : decode cX0_differencesFrom 46 = .ok (.if_icmp .eq 6, 3) := by decide +kernel
theorem dX0_differencesFrom_49 : decode cX0_differencesFrom 49 = .ok (.iinc 3 1, 3) := by decide +kernel
theorem dX0_differencesFrom_52 : decode cX0_differencesFrom 52 = .ok (.iinc 4 1, 3) := by decide +kernel
theorem dX0_differencesFrom_55 : decode cX0_differencesFrom 55 = .ok (.goto (-27), 3) := by decide +kernel
theorem dX0_differencesFrom_58 : decode cX0_differencesFrom 58 = .ok (.iload_n 3, 1) := by decide +kernel
theorem dX0_differencesFrom_59 : decode cX0_differencesFrom 59 = .ok (.ireturn, 1) := by decide +kernel
