theorem dX3_init_0 : decode cX3_init 0 = .ok (.aload_n 0, 1) := by decide +kernel
theorem dX3_init_1 : decode cX3_init 1 = .ok (.invokespecial 3, 3) := by decide +kernel
theorem dX3_init_4 : decode cX3_init 4 = .ok (.aload_n 0, 1) := by decide +kernel
theorem dX3_init_5 : decode cX3_init 5 = .ok (.sipush 160, 3) := by decide +kernel
theorem dX3_init_8 : decode cX3_init 8 = .ok (.newarray .int, 2) := by decide +kernel
theorem dX3_init_10 : decode cX3_init 10 = .ok (.putfield 9, 3) := by decide +kernel
theorem dX3_init_13 : decode cX3_init 13 = .ok (.aload_n 0, 1) := by decide +kernel
theorem dX3_init_14 : decode cX3_init 14 = .ok (.sipush 160, 3) := by decide +kernel
theorem dX3_init_17 : decode cX3_init 17 = .ok (.newarray .int, 2) := by decide +kernel
theorem dX3_init_19 : decode cX3_init 19 = .ok (.putfield 15, 3) := by decide +kernel
theorem dX3_init_22 : decode cX3_init 22 = .ok (.aload_n 0, 1) := by decide +kernel
theorem dX3_init_23 : decode cX3_init 23 = .ok (.sipush 160, 3) := by decide +kernel
theorem dX3_init_26 : decode cX3_init 26 = .ok (.newarray .int, 2) := by decide +kernel
theorem dX3_init_28 : decode cX3_init 28 = .ok (.putfield 18, 3) := by decide +kernel
theorem dX3_init_31 : decode cX3_init 31 = .ok (.aload_n 0, 1) := by decide +kernel
theorem dX3_init_32 : decode cX3_init 32 = .ok (.sipush 160, 3) := by decide +kernel
theorem dX3_init_35 : decode cX3_init 35 = .ok (.newarray .int, 2) := by decide +kernel
theorem dX3_init_37 : decode cX3_init 37 = .ok (.putfield 21, 3) := by decide +kernel
theorem dX3_init_40 : decode cX3_init 40 = .ok (.aload_n 0, 1) := by decide +kernel
theorem dX3_init_41 : decode cX3_init 41 = .ok (.bipush 16, 2) := by decide +kernel
theorem dX3_init_43 : decode cX3_init 43 = .ok (.newarray .int, 2) := by decide +kernel
theorem dX3_init_45 : decode cX3_init 45 = .ok (.putfield 24, 3) := by decide +kernel
theorem dX3_init_48 : decode cX3_init 48 = .ok (.return_, 1) := by decide +kernel
theorem dX3_setGoal_0 : decode cX3_setGoal 0 = .ok (.aload_n 0, 1) := by decide +kernel
theorem dX3_setGoal_1 : decode cX3_setGoal 1 = .ok (.iload_n 1, 1) := by decide +kernel
theorem dX3_setGoal_2 : decode cX3_setGoal 2 = .ok (.putfield 27, 3) := by decide +kernel
theorem dX3_setGoal_5 : decode cX3_setGoal 5 = .ok (.aload_n 0, 1) := by decide +kernel
theorem dX3_setGoal_6 : decode cX3_setGoal 6 = .ok (.iload_n 2, 1) := by decide +kernel
theorem dX3_setGoal_7 : decode cX3_setGoal 7 = .ok (.putfield 31, 3) := by decide +kernel
theorem dX3_setGoal_10 : decode cX3_setGoal 10 = .ok (.return_, 1) := by decide +kernel
set_option maxRecDepth 20000 in
theorem ggX3_readState_X4_has : GoodIn wsX3_readState wsX4_has := goodIn_r _ [7] (by decide +kernel) (by decide +kernel)
set_option maxRecDepth 20000 in
theorem gX3_readState_X4_has_n44 : GoodIn wsX3_readState (wsX4_has) := ggX3_readState_X4_has
set_option maxRecDepth 20000 in
theorem ggX3_readState_X0_priceOf : GoodIn wsX3_readState wsX0_priceOf := goodIn_r _ [12, 13, 14, 15, 16, 17, 18, 19, 20, 21, 22, 23, 24, 25, 26, 27, 28, 11, 29, 30, 31, 32, 33, 34, 35, 36, 5, 6, 7, 37, 38, 39, 40, 41, 42, 43, 44, 60, 61, 62, 63, 64, 65, 66, 67, 68, 69, 70] (by decide +kernel) (by decide +kernel)
set_option maxRecDepth 20000 in
theorem gX3_readState_X0_priceOf : GoodIn wsX3_readState (wsV RX3 48 RX0 yX0_priceOf wsX0_priceOf) := goodIn_app (goodIn_of _ (by decide +kernel)) ggX3_readState_X0_priceOf
set_option maxRecDepth 20000 in
theorem ggX3_readState_X3_matters : GoodIn wsX3_readState wsX3_matters := goodIn_r _ [49, 2, 50, 51, 71, 72, 73, 74, 75, 76, 77, 78, 79, 80, 81, 82] (by decide +kernel) (by decide +kernel)
set_option maxRecDepth 20000 in
theorem gX3_readState_X3_matters : GoodIn wsX3_readState (wsV RX3 62 RX3 yX3_matters wsX3_matters) := goodIn_app (goodIn_of _ (by decide +kernel)) ggX3_readState_X3_matters
set_option maxRecDepth 20000 in
theorem ggX3_readState_X3_addToPieces : GoodIn wsX3_readState wsX3_addToPieces := goodIn_r _ [55, 4, 56, 57, 58, 59, 71, 72, 73, 74, 75, 76, 77, 78, 79, 80, 81, 82] (by decide +kernel) (by decide +kernel)
set_option maxRecDepth 20000 in
theorem gX3_readState_X3_addToPieces : GoodIn wsX3_readState (wsV RX3 68 RX3 yX3_addToPieces wsX3_addToPieces) := goodIn_app (goodIn_of _ (by decide +kernel)) ggX3_readState_X3_addToPieces
theorem dX3_readState_0 : decode cX3_readState 0 = .ok (.aload_n 0, 1) := by decide +kernel
theorem dX3_readState_1 : decode cX3_readState 1 = .ok (.aload_n 1, 1) := by decide +kernel
theorem dX3_readState_2 : decode cX3_readState 2 = .ok (.getfield 34, 3) := by decide +kernel
theorem dX3_readState_5 : decode cX3_readState 5 = .ok (.putfield 39, 3) := by decide +kernel
theorem dX3_readState_8 : decode cX3_readState 8 = .ok (.aload_n 0, 1) := by decide +kernel
theorem dX3_readState_9 : decode cX3_readState 9 = .ok (.aload_n 1, 1) := by decide +kernel
theorem dX3_readState_10 : decode cX3_readState 10 = .ok (.getfield 40, 3) := by decide +kernel
theorem dX3_readState_13 : decode cX3_readState 13 = .ok (.putfield 43, 3) := by decide +kernel
theorem dX3_readState_16 : decode cX3_readState 16 = .ok (.iconst 0, 1) := by decide +kernel
theorem dX3_readState_17 : decode cX3_readState 17 = .ok (.istore 4, 2) := by decide +kernel
theorem dX3_readState_19 : decode cX3_readState 19 = .ok (.iload 4, 2) := by decide +kernel
theorem dX3_readState_21 : decode cX3_readState 21 = .ok (.aload_n 0, 1) := by decide +kernel
theorem dX3_readState_22 : decode cX3_readState 22 = .ok (.getfield 39, 3) := by decide +kernel
theorem dX3_readState_25 : decode cX3_readState 25 = .ok (.if_icmp .ge 40, 3) := by decide +kernel
theorem dX3_readState_28 : decode cX3_readState 28 = .ok (.aload_n 0, 1) := by decide +kernel
theorem dX3_readState_29 : decode cX3_readState 29 = .ok (.getfield 24, 3) := by decide +kernel
theorem dX3_readState_32 : decode cX3_readState 32 = .ok (.iload 4, 2) := by decide +kernel
theorem dX3_readState_34 : decode cX3_readState 34 = .ok (.aload_n 0, 1) := by decide +kernel
theorem dX3_readState_35 : decode cX3_readState 35 = .ok (.getfield 43, 3) := by decide +kernel
theorem dX3_readState_38 : decode cX3_readState 38 = .ok (.iload 4, 2) := by decide +kernel
theorem dX3_readState_40 : decode cX3_readState 40 = .ok (.invokestatic 44, 3) := by decide +kernel
theorem dX3_readState_43 : decode cX3_readState 43 = .ok (.ifCond .eq 14, 3) := by decide +kernel
theorem dX3_readState_46 : decode cX3_readState 46 = .ok (.aload_n 1, 1) := by decide +kernel
theorem dX3_readState_47 : decode cX3_readState 47 = .ok (.iload 4, 2) := by decide +kernel
theorem dX3_readState_49 : decode cX3_readState 49 = .ok (.iload_n 2, 1) := by decide +kernel
theorem dX3_readState_50 : decode cX3_readState 50 = .ok (.iload_n 3, 1) := by decide +kernel
theorem dX3_readState_51 : decode cX3_readState 51 = .ok (.invokevirtual 48, 3) := by decide +kernel
theorem dX3_readState_54 : decode cX3_readState 54 = .ok (.goto 4, 3) := by decide +kernel
theorem dX3_readState_57 : decode cX3_readState 57 = .ok (.iconst 0, 1) := by decide +kernel
theorem dX3_readState_58 : decode cX3_readState 58 = .ok (.iastore, 1) := by decide +kernel
theorem dX3_readState_59 : decode cX3_readState 59 = .ok (.iinc 4 1, 3) := by decide +kernel
theorem dX3_readState_62 : decode cX3_readState 62 = .ok (.goto (-43), 3) := by decide +kernel
theorem dX3_readState_65 : decode cX3_readState 65 = .ok (.aload_n 0, 1) := by decide +kernel
theorem dX3_readState_66 : decode cX3_readState 66 = .ok (.iconst 0, 1) := by decide +kernel
theorem dX3_readState_67 : decode cX3_readState 67 = .ok (.putfield 52, 3) := by decide +kernel
theorem dX3_readState_70 : decode cX3_readState 70 = .ok (.iconst 0, 1) := by decide +kernel
theorem dX3_readState_71 : decode cX3_readState 71 = .ok (.istore 4, 2) := by decide +kernel
theorem dX3_readState_73 : decode cX3_readState 73 = .ok (.iload 4, 2) := by decide +kernel
theorem dX3_readState_75 : decode cX3_readState 75 = .ok (.aload_n 1, 1) := by decide +kernel
theorem dX3_readState_76 : decode cX3_readState 76 = .ok (.getfield 55, 3) := by decide +kernel
theorem dX3_readState_79 : decode cX3_readState 79 = .ok (.if_icmp .ge 60, 3) := by decide +kernel
theorem dX3_readState_82 : decode cX3_readState 82 = .ok (.aload_n 0, 1) := by decide +kernel
theorem dX3_readState_83 : decode cX3_readState 83 = .ok (.aload_n 1, 1) := by decide +kernel
theorem dX3_readState_84 : decode cX3_readState 84 = .ok (.getfield 58, 3) := by decide +kernel
theorem dX3_readState_87 : decode cX3_readState 87 = .ok (.iload 4, 2) := by decide +kernel
theorem dX3_readState_89 : decode cX3_readState 89 = .ok (.iaload, 1) := by decide +kernel
theorem dX3_readState_90 : decode cX3_readState 90 = .ok (.aload_n 1, 1) := by decide +kernel
theorem dX3_readState_91 : decode cX3_readState 91 = .ok (.getfield 61, 3) := by decide +kernel
theorem dX3_readState_94 : decode cX3_readState 94 = .ok (.iload 4, 2) := by decide +kernel
theorem dX3_readState_96 : decode cX3_readState 96 = .ok (.iaload, 1) := by decide +kernel
theorem dX3_readState_97 : decode cX3_readState 97 = .ok (.invokevirtual 62, 3) := by decide +kernel
theorem dX3_readState_100 : decode cX3_readState 100 = .ok (.ifCond .eq 33, 3) := by decide +kernel
theorem dX3_readState_103 : decode cX3_readState 103 = .ok (.aload_n 0, 1) := by decide +kernel
theorem dX3_readState_104 : decode cX3_readState 104 = .ok (.aload_n 1, 1) := by decide +kernel
theorem dX3_readState_105 : decode cX3_readState 105 = .ok (.getfield 61, 3) := by decide +kernel
theorem dX3_readState_108 : decode cX3_readState 108 = .ok (.iload 4, 2) := by decide +kernel
theorem dX3_readState_110 : decode cX3_readState 110 = .ok (.iaload, 1) := by decide +kernel
theorem dX3_readState_111 : decode cX3_readState 111 = .ok (.aload_n 1, 1) := by decide +kernel
theorem dX3_readState_112 : decode cX3_readState 112 = .ok (.getfield 65, 3) := by decide +kernel
theorem dX3_readState_115 : decode cX3_readState 115 = .ok (.iload 4, 2) := by decide +kernel
theorem dX3_readState_117 : decode cX3_readState 117 = .ok (.iaload, 1) := by decide +kernel
theorem dX3_readState_118 : decode cX3_readState 118 = .ok (.aload_n 0, 1) := by decide +kernel
theorem dX3_readState_119 : decode cX3_readState 119 = .ok (.getfield 43, 3) := by decide +kernel
theorem dX3_readState_122 : decode cX3_readState 122 = .ok (.iand, 1) := by decide +kernel
theorem dX3_readState_123 : decode cX3_readState 123 = .ok (.aload_n 1, 1) := by decide +kernel
theorem dX3_readState_124 : decode cX3_readState 124 = .ok (.getfield 58, 3) := by decide +kernel
theorem dX3_readState_127 : decode cX3_readState 127 = .ok (.iload 4, 2) := by decide +kernel
theorem dX3_readState_129 : decode cX3_readState 129 = .ok (.iaload, 1) := by decide +kernel
theorem dX3_readState_130 : decode cX3_readState 130 = .ok (.invokevirtual 68, 3) := by decide +kernel
theorem dX3_readState_133 : decode cX3_readState 133 = .ok (.iinc 4 1, 3) := by decide +kernel
theorem dX3_readState_136 : decode cX3_readState 136 = .ok (.goto (-63), 3) := by decide +kernel
theorem dX3_readState_139 : decode cX3_readState 139 = .ok (.return_, 1) := by decide +kernel
theorem dX3_matters_0 : decode cX3_matters 0 = .ok (.iload_n 2, 1) := by decide +kernel
theorem dX3_matters_1 : decode cX3_matters 1 = .ok (.aload_n 0, 1) := by decide +kernel
theorem dX3_matters_2 : decode cX3_matters 2 = .ok (.getfield 43, 3) := by decide +kernel
theorem dX3_matters_5 : decode cX3_matters 5 = .ok (.iconst (-1), 1) := by decide +kernel
theorem dX3_matters_6 : decode cX3_matters 6 = .ok (.ixor, 1) := by decide +kernel
theorem dX3_matters_7 : decode cX3_matters 7 = .ok (.iand, 1) := by decide +kernel
theorem dX3_matters_8 : decode cX3_matters 8 = .ok (.ifCond .ne 23, 3) := by decide +kernel
theorem dX3_matters_11 : decode cX3_matters 11 = .ok (.aload_n 0, 1) := by decide +kernel
theorem dX3_matters_12 : decode cX3_matters 12 = .ok (.getfield 27, 3) := by decide +kernel
theorem dX3_matters_15 : decode cX3_matters 15 = .ok (.iconst 1, 1) := by decide +kernel
theorem dX3_matters_16 : decode cX3_matters 16 = .ok (.if_icmp .ne 11, 3) := by decide +kernel
theorem dX3_matters_19 : decode cX3_matters 19 = .ok (.iload_n 1, 1) := by decide +kernel
theorem dX3_matters_20 : decode cX3_matters 20 = .ok (.aload_n 0, 1) := by decide +kernel
theorem dX3_matters_21 : decode cX3_matters 21 = .ok (.getfield 31, 3) := by decide +kernel
theorem dX3_matters_24 : decode cX3_matters 24 = .ok (.if_icmp .ne 7, 3) := by decide +kernel
theorem dX3_matters_27 : decode cX3_matters 27 = .ok (.iconst 1, 1) := by decide +kernel
theorem dX3_matters_28 : decode cX3_matters 28 = .ok (.goto 4, 3) := by decide +kernel
theorem dX3_matters_31 : decode cX3_matters 31 = .ok (.iconst 0, 1) := by decide +kernel
theorem dX3_matters_32 : decode cX3_matters 32 = .ok (.ireturn, 1) := by decide +kernel
theorem dX3_addToPieces_0 : decode cX3_addToPieces 0 = .ok (.aload_n 0, 1) := by decide +kernel
theorem dX3_addToPieces_1 : decode cX3_addToPieces 1 = .ok (.getfield 52, 3) := by decide +kernel
theorem dX3_addToPieces_4 : decode cX3_addToPieces 4 = .ok (.iconst 1, 1) := by decide +kernel
theorem dX3_addToPieces_5 : decode cX3_addToPieces 5 = .ok (.isub, 1) := by decide +kernel
theorem dX3_addToPieces_6 : decode cX3_addToPieces 6 = .ok (.istore 4, 2) := by decide +kernel
theorem dX3_addToPieces_8 : decode cX3_addToPieces 8 = .ok (.iload 4, 2) := by decide +kernel
theorem dX3_addToPieces_10 : decode cX3_addToPieces 10 = .ok (.ifCond .lt 39, 3) := by decide +kernel
theorem dX3_addToPieces_13 : decode cX3_addToPieces 13 = .ok (.aload_n 0, 1) := by decide +kernel
theorem dX3_addToPieces_14 : decode cX3_addToPieces 14 = .ok (.getfield 9, 3) := by decide +kernel
theorem dX3_addToPieces_17 : decode cX3_addToPieces 17 = .ok (.iload 4, 2) := by decide +kernel
theorem dX3_addToPieces_19 : decode cX3_addToPieces 19 = .ok (.iaload, 1) := by decide +kernel
theorem dX3_addToPieces_20 : decode cX3_addToPieces 20 = .ok (.iload_n 1, 1) := by decide +kernel
theorem dX3_addToPieces_21 : decode cX3_addToPieces 21 = .ok (.if_icmp .ne 28, 3) := by decide +kernel
theorem dX3_addToPieces_24 : decode cX3_addToPieces 24 = .ok (.aload_n 0, 1) := by decide +kernel
theorem dX3_addToPieces_25 : decode cX3_addToPieces 25 = .ok (.getfield 15, 3) := by decide +kernel
theorem dX3_addToPieces_28 : decode cX3_addToPieces 28 = .ok (.iload 4, 2) := by decide +kernel
theorem dX3_addToPieces_30 : decode cX3_addToPieces 30 = .ok (.iaload, 1) := by decide +kernel
theorem dX3_addToPieces_31 : decode cX3_addToPieces 31 = .ok (.iload_n 2, 1) := by decide +kernel
theorem dX3_addToPieces_32 : decode cX3_addToPieces 32 = .ok (.if_icmp .ne 17, 3) := by decide +kernel
theorem dX3_addToPieces_35 : decode cX3_addToPieces 35 = .ok (.aload_n 0, 1) := by decide +kernel
theorem dX3_addToPieces_36 : decode cX3_addToPieces 36 = .ok (.getfield 18, 3) := by decide +kernel
theorem dX3_addToPieces_39 : decode cX3_addToPieces 39 = .ok (.iload 4, 2) := by decide +kernel
theorem dX3_addToPieces_41 : decode cX3_addToPieces 41 = .ok (.dup2, 1) := by decide +kernel
theorem dX3_addToPieces_42 : decode cX3_addToPieces 42 = .ok (.iaload, 1) := by decide +kernel
theorem dX3_addToPieces_43 : decode cX3_addToPieces 43 = .ok (.iconst 1, 1) := by decide +kernel
theorem dX3_addToPieces_44 : decode cX3_addToPieces 44 = .ok (.iadd, 1) := by decide +kernel
theorem dX3_addToPieces_45 : decode cX3_addToPieces 45 = .ok (.iastore, 1) := by decide +kernel
theorem dX3_addToPieces_46 : decode cX3_addToPieces 46 = .ok (.goto 63, 3) := by decide +kernel
theorem dX3_addToPieces_49 : decode cX3_addToPieces 49 = .ok (.aload_n 0, 1) := by decide +kernel
theorem dX3_addToPieces_50 : decode cX3_addToPieces 50 = .ok (.getfield 52, 3) := by decide +kernel
theorem dX3_addToPieces_53 : decode cX3_addToPieces 53 = .ok (.sipush 160, 3) := by decide +kernel
theorem dX3_addToPieces_56 : decode cX3_addToPieces 56 = .ok (.if_icmp .ge 53, 3) := by decide +kernel
theorem dX3_addToPieces_59 : decode cX3_addToPieces 59 = .ok (.aload_n 0, 1) := by decide +kernel
theorem dX3_addToPieces_60 : decode cX3_addToPieces 60 = .ok (.getfield 9, 3) := by decide +kernel
theorem dX3_addToPieces_63 : decode cX3_addToPieces 63 = .ok (.aload_n 0, 1) := by decide +kernel
theorem dX3_addToPieces_64 : decode cX3_addToPieces 64 = .ok (.getfield 52, 3) := by decide +kernel
theorem dX3_addToPieces_67 : decode cX3_addToPieces 67 = .ok (.iload_n 1, 1) := by decide +kernel
theorem dX3_addToPieces_68 : decode cX3_addToPieces 68 = .ok (.iastore, 1) := by decide +kernel
theorem dX3_addToPieces_69 : decode cX3_addToPieces 69 = .ok (.aload_n 0, 1) := by decide +kernel
theorem dX3_addToPieces_70 : decode cX3_addToPieces 70 = .ok (.getfield 15, 3) := by decide +kernel
theorem dX3_addToPieces_73 : decode cX3_addToPieces 73 = .ok (.aload_n 0, 1) := by decide +kernel
theorem dX3_addToPieces_74 : decode cX3_addToPieces 74 = .ok (.getfield 52, 3) := by decide +kernel
theorem dX3_addToPieces_77 : decode cX3_addToPieces 77 = .ok (.iload_n 2, 1) := by decide +kernel
theorem dX3_addToPieces_78 : decode cX3_addToPieces 78 = .ok (.iastore, 1) := by decide +kernel
theorem dX3_addToPieces_79 : decode cX3_addToPieces 79 = .ok (.aload_n 0, 1) := by decide +kernel
theorem dX3_addToPieces_80 : decode cX3_addToPieces 80 = .ok (.getfield 18, 3) := by decide +kernel
theorem dX3_addToPieces_83 : decode cX3_addToPieces 83 = .ok (.aload_n 0, 1) := by decide +kernel
theorem dX3_addToPieces_84 : decode cX3_addToPieces 84 = .ok (.getfield 52, 3) := by decide +kernel
theorem dX3_addToPieces_87 : decode cX3_addToPieces 87 = .ok (.iconst 1, 1) := by decide +kernel
theorem dX3_addToPieces_88 : decode cX3_addToPieces 88 = .ok (.iastore, 1) := by decide +kernel
theorem dX3_addToPieces_89 : decode cX3_addToPieces 89 = .ok (.aload_n 0, 1) := by decide +kernel
theorem dX3_addToPieces_90 : decode cX3_addToPieces 90 = .ok (.getfield 21, 3) := by decide +kernel
theorem dX3_addToPieces_93 : decode cX3_addToPieces 93 = .ok (.aload_n 0, 1) := by decide +kernel
theorem dX3_addToPieces_94 : decode cX3_addToPieces 94 = .ok (.getfield 52, 3) := by decide +kernel
theorem dX3_addToPieces_97 : decode cX3_addToPieces 97 = .ok (.iload_n 3, 1) := by decide +kernel
theorem dX3_addToPieces_98 : decode cX3_addToPieces 98 = .ok (.iastore, 1) := by decide +kernel
theorem dX3_addToPieces_99 : decode cX3_addToPieces 99 = .ok (.aload_n 0, 1) := by decide +kernel
theorem dX3_addToPieces_100 : decode cX3_addToPieces 100 = .ok (.dup, 1) := by decide +kernel
theorem dX3_addToPieces_101 : decode cX3_addToPieces 101 = .ok (.getfield 52, 3) := by decide +kernel
theorem dX3_addToPieces_104 : decode cX3_addToPieces 104 = .ok (.iconst 1, 1) := by decide +kernel
theorem dX3_addToPieces_105 : decode cX3_addToPieces 105 = .ok (.iadd, 1) := by decide +kernel
theorem dX3_addToPieces_106 : decode cX3_addToPieces 106 = .ok (.putfield 52, 3) := by decide +kernel
theorem dX3_addToPieces_109 : decode cX3_addToPieces 109 = .ok (.return_, 1) := by decide +kernel
set_option maxRecDepth 20000 in
theorem ggX3_findBest_J6_bitCount_0f7a4 : GoodIn wsX3_findBest wsJ6_bitCount_0f7a4 := goodIn_r _ [7, 8, 9, 10] (by decide +kernel) (by decide +kernel)
set_option maxRecDepth 20000 in
theorem gX3_findBest_J6_bitCount_0f7a4 : GoodIn wsX3_findBest (va_wsS RX3 72 yJ6_bitCount_0f7a4 wsJ6_bitCount_0f7a4) := goodIn_app (goodIn_of _ (by decide +kernel)) ggX3_findBest_J6_bitCount_0f7a4
set_option maxRecDepth 20000 in
theorem ggX3_findBest_X3_costOf : GoodIn wsX3_findBest wsX3_costOf := goodIn_r _ [15, 16, 17, 18, 19, 20, 69, 70, 71, 72, 73, 74, 75, 76, 77, 78, 79, 80] (by decide +kernel) (by decide +kernel)
set_option maxRecDepth 20000 in
theorem gX3_findBest_X3_costOf : GoodIn wsX3_findBest (wsV RX3 78 RX3 yX3_costOf wsX3_costOf) := goodIn_app (goodIn_of _ (by decide +kernel)) ggX3_findBest_X3_costOf
set_option maxRecDepth 20000 in
theorem ggX3_findBest_X3_isBetter : GoodIn wsX3_findBest wsX3_isBetter := goodIn_r _ [24, 2, 3, 4, 5, 6, 7, 8, 9, 10, 69, 70, 71, 72, 73, 74, 75, 76, 77, 78, 79, 80] (by decide +kernel) (by decide +kernel)
set_option maxRecDepth 20000 in
theorem gX3_findBest_X3_isBetter : GoodIn wsX3_findBest (wsV RX3 81 RX3 yX3_isBetter wsX3_isBetter) := goodIn_app (goodIn_of _ (by decide +kernel)) ggX3_findBest_X3_isBetter
set_option maxRecDepth 20000 in
theorem ggX3_findBest_X0_canTakeBack : GoodIn wsX3_findBest wsX0_canTakeBack := goodIn_r _ [29, 30, 31, 32, 33, 28, 34, 35, 36, 37, 19, 38, 81, 82, 83, 84, 85, 86, 87, 88, 89, 90, 91] (by decide +kernel) (by decide +kernel)
set_option maxRecDepth 20000 in
theorem gX3_findBest_X0_canTakeBack : GoodIn wsX3_findBest (wsV RX3 84 RX0 yX0_canTakeBack wsX0_canTakeBack) := goodIn_app (goodIn_of _ (by decide +kernel)) ggX3_findBest_X0_canTakeBack
set_option maxRecDepth 20000 in
theorem ggX3_findBest_X3_isReached : GoodIn wsX3_findBest wsX3_isReached := goodIn_r _ [42, 43, 44, 1, 45, 46, 47, 14, 48, 49, 50, 51, 52, 53, 54, 55, 56, 57, 58, 59, 60, 61, 62, 63, 64, 65, 66, 67, 68, 37, 19, 38, 69, 70, 71, 72, 73, 74, 75, 76, 77, 78, 79, 80] (by decide +kernel) (by decide +kernel)
set_option maxRecDepth 20000 in
theorem gX3_findBest_X3_isReached : GoodIn wsX3_findBest (wsV RX3 88 RX3 yX3_isReached wsX3_isReached) := goodIn_app (goodIn_of _ (by decide +kernel)) ggX3_findBest_X3_isReached
theorem dX3_findBest_0 : decode cX3_findBest 0 = .ok (.iconst 0, 1) := by decide +kernel
theorem dX3_findBest_1 : decode cX3_findBest 1 = .ok (.istore_n 2, 1) := by decide +kernel
theorem dX3_findBest_2 : decode cX3_findBest 2 = .ok (.iconst 1, 1) := by decide +kernel
theorem dX3_findBest_3 : decode cX3_findBest 3 = .ok (.aload_n 0, 1) := by decide +kernel
theorem dX3_findBest_4 : decode cX3_findBest 4 = .ok (.getfield 43, 3) := by decide +kernel
theorem dX3_findBest_7 : decode cX3_findBest 7 = .ok (.invokestatic 72, 3) := by decide +kernel
theorem dX3_findBest_10 : decode cX3_findBest 10 = .ok (.ishl, 1) := by decide +kernel
theorem dX3_findBest_11 : decode cX3_findBest 11 = .ok (.istore_n 3, 1) := by decide +kernel
theorem dX3_findBest_12 : decode cX3_findBest 12 = .ok (.iconst 0, 1) := by decide +kernel
theorem dX3_findBest_13 : decode cX3_findBest 13 = .ok (.istore 4, 2) := by decide +kernel
theorem dX3_findBest_15 : decode cX3_findBest 15 = .ok (.iconst 0, 1) := by decide +kernel
theorem dX3_findBest_16 : decode cX3_findBest 16 = .ok (.istore 5, 2) := by decide +kernel
theorem dX3_findBest_18 : decode cX3_findBest 18 = .ok (.iload 5, 2) := by decide +kernel
theorem dX3_findBest_20 : decode cX3_findBest 20 = .ok (.iload_n 3, 1) := by decide +kernel
theorem dX3_findBest_21 : decode cX3_findBest 21 = .ok (.if_icmp .ge 78, 3) := by decide +kernel
theorem dX3_findBest_24 : decode cX3_findBest 24 = .ok (.aload_n 0, 1) := by decide +kernel
theorem dX3_findBest_25 : decode cX3_findBest 25 = .ok (.iload 4, 2) := by decide +kernel
theorem dX3_findBest_27 : decode cX3_findBest 27 = .ok (.invokevirtual 78, 3) := by decide +kernel
theorem dX3_findBest_30 : decode cX3_findBest 30 = .ok (.istore 6, 2) := by decide +kernel
theorem dX3_findBest_32 : decode cX3_findBest 32 = .ok (.iload_n 2, 1) := by decide +kernel
theorem dX3_findBest_33 : decode cX3_findBest 33 = .ok (.ifCond .eq 14, 3) := by decide +kernel
theorem dX3_findBest_36 : decode cX3_findBest 36 = .ok (.aload_n 0, 1) := by decide +kernel
theorem dX3_findBest_37 : decode cX3_findBest 37 = .ok (.iload 4, 2) := by decide +kernel
theorem dX3_findBest_39 : decode cX3_findBest 39 = .ok (.iload 6, 2) := by decide +kernel
theorem dX3_findBest_41 : decode cX3_findBest 41 = .ok (.invokevirtual 81, 3) := by decide +kernel
theorem dX3_findBest_44 : decode cX3_findBest 44 = .ok (.ifCond .eq 35, 3) := by decide +kernel
theorem dX3_findBest_47 : decode cX3_findBest 47 = .ok (.aload_n 1, 1) := by decide +kernel
theorem dX3_findBest_48 : decode cX3_findBest 48 = .ok (.iload 4, 2) := by decide +kernel
theorem dX3_findBest_50 : decode cX3_findBest 50 = .ok (.invokevirtual 84, 3) := by decide +kernel
theorem dX3_findBest_53 : decode cX3_findBest 53 = .ok (.ifCond .eq 26, 3) := by decide +kernel
theorem dX3_findBest_56 : decode cX3_findBest 56 = .ok (.aload_n 0, 1) := by decide +kernel
theorem dX3_findBest_57 : decode cX3_findBest 57 = .ok (.iload 4, 2) := by decide +kernel
theorem dX3_findBest_59 : decode cX3_findBest 59 = .ok (.invokevirtual 88, 3) := by decide +kernel
theorem dX3_findBest_62 : decode cX3_findBest 62 = .ok (.ifCond .eq 17, 3) := by decide +kernel
theorem dX3_findBest_65 : decode cX3_findBest 65 = .ok (.iconst 1, 1) := by decide +kernel
theorem dX3_findBest_66 : decode cX3_findBest 66 = .ok (.istore_n 2, 1) := by decide +kernel
theorem dX3_findBest_67 : decode cX3_findBest 67 = .ok (.aload_n 0, 1) := by decide +kernel
theorem dX3_findBest_68 : decode cX3_findBest 68 = .ok (.iload 4, 2) := by decide +kernel
theorem dX3_findBest_70 : decode cX3_findBest 70 = .ok (.putfield 91, 3) := by decide +kernel
theorem dX3_findBest_73 : decode cX3_findBest 73 = .ok (.aload_n 0, 1) := by decide +kernel
theorem dX3_findBest_74 : decode cX3_findBest 74 = .ok (.iload 6, 2) := by decide +kernel
theorem dX3_findBest_76 : decode cX3_findBest 76 = .ok (.putfield 94, 3) := by decide +kernel
theorem dX3_findBest_79 : decode cX3_findBest 79 = .ok (.iload 4, 2) := by decide +kernel
theorem dX3_findBest_81 : decode cX3_findBest 81 = .ok (.aload_n 0, 1) := by decide +kernel
theorem dX3_findBest_82 : decode cX3_findBest 82 = .ok (.getfield 43, 3) := by decide +kernel
theorem dX3_findBest_85 : decode cX3_findBest 85 = .ok (.isub, 1) := by decide +kernel
theorem dX3_findBest_86 : decode cX3_findBest 86 = .ok (.aload_n 0, 1) := by decide +kernel
theorem dX3_findBest_87 : decode cX3_findBest 87 = .ok (.getfield 43, 3) := by decide +kernel
theorem dX3_findBest_90 : decode cX3_findBest 90 = .ok (.iand, 1) := by decide +kernel
theorem dX3_findBest_91 : decode cX3_findBest 91 = .ok (.istore 4, 2) := by decide +kernel
theorem dX3_findBest_93 : decode cX3_findBest 93 = .ok (.iinc 5 1, 3) := by decide +kernel
theorem dX3_findBest_96 : decode cX3_findBest 96 = .ok (.goto (-78), 3) := by decide +kernel
theorem dX3_findBest_99 : decode cX3_findBest 99 = .ok (.iload_n 2, 1) := by decide +kernel
theorem dX3_findBest_100 : decode cX3_findBest 100 = .ok (.ireturn, 1) := by decide +kernel
set_option maxRecDepth 20000 in
theorem ggX3_isBetter_J6_bitCount_0f7a4 : GoodIn wsX3_isBetter wsJ6_bitCount_0f7a4 := goodIn_r _ [6, 7, 8, 9] (by decide +kernel) (by decide +kernel)
set_option maxRecDepth 20000 in
theorem gX3_isBetter_J6_bitCount_0f7a4 : GoodIn wsX3_isBetter (va_wsS RX3 72 yJ6_bitCount_0f7a4 wsJ6_bitCount_0f7a4) := goodIn_app (goodIn_of _ (by decide +kernel)) ggX3_isBetter_J6_bitCount_0f7a4
theorem dX3_isBetter_0 : decode cX3_isBetter 0 = .ok (.iload_n 1, 1) := by decide +kernel
theorem dX3_isBetter_1 : decode cX3_isBetter 1 = .ok (.invokestatic 72, 3) := by decide +kernel
theorem dX3_isBetter_4 : decode cX3_isBetter 4 = .ok (.aload_n 0, 1) := by decide +kernel
theorem dX3_isBetter_5 : decode cX3_isBetter 5 = .ok (.getfield 91, 3) := by decide +kernel
theorem dX3_isBetter_8 : decode cX3_isBetter 8 = .ok (.invokestatic 72, 3) := by decide +kernel
theorem dX3_isBetter_11 : decode cX3_isBetter 11 = .ok (.if_icmp .ge 7, 3) := by decide +kernel
theorem dX3_isBetter_14 : decode cX3_isBetter 14 = .ok (.iconst 1, 1) := by decide +kernel
theorem dX3_isBetter_15 : decode cX3_isBetter 15 = .ok (.goto 4, 3) := by decide +kernel
theorem dX3_isBetter_18 : decode cX3_isBetter 18 = .ok (.iconst 0, 1) := by decide +kernel
theorem dX3_isBetter_19 : decode cX3_isBetter 19 = .ok (.istore_n 3, 1) := by decide +kernel
theorem dX3_isBetter_20 : decode cX3_isBetter 20 = .ok (.iload_n 2, 1) := by decide +kernel
theorem dX3_isBetter_21 : decode cX3_isBetter 21 = .ok (.aload_n 0, 1) := by decide +kernel
theorem dX3_isBetter_22 : decode cX3_isBetter 22 = .ok (.getfield 94, 3) := by decide +kernel
theorem dX3_isBetter_25 : decode cX3_isBetter 25 = .ok (.if_icmp .lt 15, 3) := by decide +kernel
theorem dX3_isBetter_28 : decode cX3_isBetter 28 = .ok (.iload_n 2, 1) := by decide +kernel
theorem dX3_isBetter_29 : decode cX3_isBetter 29 = .ok (.aload_n 0, 1) := by decide +kernel
theorem dX3_isBetter_30 : decode cX3_isBetter 30 = .ok (.getfield 94, 3) := by decide +kernel
theorem dX3_isBetter_33 : decode cX3_isBetter 33 = .ok (.if_icmp .ne 11, 3) := by decide +kernel
theorem dX3_isBetter_36 : decode cX3_isBetter 36 = .ok (.iload_n 3, 1) := by decide +kernel
theorem dX3_isBetter_37 : decode cX3_isBetter 37 = .ok (.ifCond .eq 7, 3) := by decide +kernel
theorem dX3_isBetter_40 : decode cX3_isBetter 40 = .ok (.iconst 1, 1) := by decide +kernel
theorem dX3_isBetter_41 : decode cX3_isBetter 41 = .ok (.goto 4, 3) := by decide +kernel
theorem dX3_isBetter_44 : decode cX3_isBetter 44 = .ok (.iconst 0, 1) := by decide +kernel
theorem dX3_isBetter_45 : decode cX3_isBetter 45 = .ok (.ireturn, 1) := by decide +kernel
set_option maxRecDepth 20000 in
theorem ggX3_costOf_X4_has : GoodIn wsX3_costOf wsX4_has := goodIn_r _ [5] (by decide +kernel) (by decide +kernel)
set_option maxRecDepth 20000 in
theorem gX3_costOf_X4_has_n44 : GoodIn wsX3_costOf (wsX4_has) := ggX3_costOf_X4_has
theorem dX3_costOf_0 : decode cX3_costOf 0 = .ok (.iconst 0, 1) := by decide +kernel
theorem dX3_costOf_1 : decode cX3_costOf 1 = .ok (.istore_n 2, 1) := by decide +kernel
theorem dX3_costOf_2 : decode cX3_costOf 2 = .ok (.iconst 0, 1) := by decide +kernel
theorem dX3_costOf_3 : decode cX3_costOf 3 = .ok (.istore_n 3, 1) := by decide +kernel
theorem dX3_costOf_4 : decode cX3_costOf 4 = .ok (.iload_n 3, 1) := by decide +kernel
theorem dX3_costOf_5 : decode cX3_costOf 5 = .ok (.aload_n 0, 1) := by decide +kernel
theorem dX3_costOf_6 : decode cX3_costOf 6 = .ok (.getfield 39, 3) := by decide +kernel
theorem dX3_costOf_9 : decode cX3_costOf 9 = .ok (.if_icmp .ge 26, 3) := by decide +kernel
theorem dX3_costOf_12 : decode cX3_costOf 12 = .ok (.iload_n 1, 1) := by decide +kernel
theorem dX3_costOf_13 : decode cX3_costOf 13 = .ok (.iload_n 3, 1) := by decide +kernel
theorem dX3_costOf_14 : decode cX3_costOf 14 = .ok (.invokestatic 44, 3) := by decide +kernel
theorem dX3_costOf_17 : decode cX3_costOf 17 = .ok (.ifCond .eq 12, 3) := by decide +kernel
theorem dX3_costOf_20 : decode cX3_costOf 20 = .ok (.iload_n 2, 1) := by decide +kernel
theorem dX3_costOf_21 : decode cX3_costOf 21 = .ok (.aload_n 0, 1) := by decide +kernel
theorem dX3_costOf_22 : decode cX3_costOf 22 = .ok (.getfield 24, 3) := by decide +kernel
theorem dX3_costOf_25 : decode cX3_costOf 25 = .ok (.iload_n 3, 1) := by decide +kernel
theorem dX3_costOf_26 : decode cX3_costOf 26 = .ok (.iaload, 1) := by decide +kernel
theorem dX3_costOf_27 : decode cX3_costOf 27 = .ok (.iadd, 1) := by decide +kernel
theorem dX3_costOf_28 : decode cX3_costOf 28 = .ok (.istore_n 2, 1) := by decide +kernel
theorem dX3_costOf_29 : decode cX3_costOf 29 = .ok (.iinc 3 1, 3) := by decide +kernel
theorem dX3_costOf_32 : decode cX3_costOf 32 = .ok (.goto (-28), 3) := by decide +kernel
theorem dX3_costOf_35 : decode cX3_costOf 35 = .ok (.iload_n 2, 1) := by decide +kernel
theorem dX3_costOf_36 : decode cX3_costOf 36 = .ok (.ireturn, 1) := by decide +kernel
set_option maxRecDepth 20000 in
theorem ggX3_isReached_X3_visibleWithout : GoodIn wsX3_isReached wsX3_visibleWithout := goodIn_r _ [8, 9, 10, 11, 12, 13, 7, 14, 15, 16, 32, 33, 34, 35, 36, 37, 38, 39, 40, 41, 42, 43] (by decide +kernel) (by decide +kernel)
set_option maxRecDepth 20000 in
theorem gX3_isReached_X3_visibleWithout : GoodIn wsX3_isReached (wsV RX3 97 RX3 yX3_visibleWithout wsX3_visibleWithout) := goodIn_app (goodIn_of _ (by decide +kernel)) ggX3_isReached_X3_visibleWithout
set_option maxRecDepth 20000 in
theorem ggX3_isReached_X3_firstCodeWithout : GoodIn wsX3_isReached wsX3_firstCodeWithout := goodIn_r _ [20, 9, 21, 11, 12, 13, 7, 14, 15, 16, 32, 33, 34, 35, 36, 37, 38, 39, 40, 41, 42, 43] (by decide +kernel) (by decide +kernel)
set_option maxRecDepth 20000 in
theorem gX3_isReached_X3_firstCodeWithout : GoodIn wsX3_isReached (wsV RX3 100 RX3 yX3_firstCodeWithout wsX3_firstCodeWithout) := goodIn_app (goodIn_of _ (by decide +kernel)) ggX3_isReached_X3_firstCodeWithout
set_option maxRecDepth 20000 in
theorem ggX3_isReached_X3_editsBelow : GoodIn wsX3_isReached wsX3_editsBelow := goodIn_r _ [24, 25, 26, 27, 28, 29, 30, 31] (by decide +kernel) (by decide +kernel)
set_option maxRecDepth 20000 in
theorem gX3_isReached_X3_editsBelow : GoodIn wsX3_isReached (va_wsS RX3 103 yX3_editsBelow wsX3_editsBelow) := goodIn_app (goodIn_of _ (by decide +kernel)) ggX3_isReached_X3_editsBelow
theorem dX3_isReached_0 : decode cX3_isReached 0 = .ok (.aload_n 0, 1) := by decide +kernel
theorem dX3_isReached_1 : decode cX3_isReached 1 = .ok (.getfield 27, 3) := by decide +kernel
theorem dX3_isReached_4 : decode cX3_isReached 4 = .ok (.tableswitch 78 0 2 #[28, 46, 60], 28) := by decide +kernel
theorem dX3_isReached_32 : decode cX3_isReached 32 = .ok (.aload_n 0, 1) := by decide +kernel
theorem dX3_isReached_33 : decode cX3_isReached 33 = .ok (.iload_n 1, 1) := by decide +kernel
theorem dX3_isReached_34 : decode cX3_isReached 34 = .ok (.invokevirtual 97, 3) := by decide +kernel
theorem dX3_isReached_37 : decode cX3_isReached 37 = .ok (.aload_n 0, 1) := by decide +kernel
theorem dX3_isReached_38 : decode cX3_isReached 38 = .ok (.getfield 31, 3) := by decide +kernel
theorem dX3_isReached_41 : decode cX3_isReached 41 = .ok (.if_icmp .ne 7, 3) := by decide +kernel
theorem dX3_isReached_44 : decode cX3_isReached 44 = .ok (.iconst 1, 1) := by decide +kernel
theorem dX3_isReached_45 : decode cX3_isReached 45 = .ok (.goto 4, 3) := by decide +kernel
theorem dX3_isReached_48 : decode cX3_isReached 48 = .ok (.iconst 0, 1) := by decide +kernel
theorem dX3_isReached_49 : decode cX3_isReached 49 = .ok (.ireturn, 1) := by decide +kernel
theorem dX3_isReached_50 : decode cX3_isReached 50 = .ok (.aload_n 0, 1) := by decide +kernel
theorem dX3_isReached_51 : decode cX3_isReached 51 = .ok (.iload_n 1, 1) := by decide +kernel
theorem dX3_isReached_52 : decode cX3_isReached 52 = .ok (.invokevirtual 97, 3) := by decide +kernel
theorem dX3_isReached_55 : decode cX3_isReached 55 = .ok (.ifCond .ne 7, 3) := by decide +kernel
theorem dX3_isReached_58 : decode cX3_isReached 58 = .ok (.iconst 1, 1) := by decide +kernel
theorem dX3_isReached_59 : decode cX3_isReached 59 = .ok (.goto 4, 3) := by decide +kernel
theorem dX3_isReached_62 : decode cX3_isReached 62 = .ok (.iconst 0, 1) := by decide +kernel
theorem dX3_isReached_63 : decode cX3_isReached 63 = .ok (.ireturn, 1) := by decide +kernel
theorem dX3_isReached_64 : decode cX3_isReached 64 = .ok (.aload_n 0, 1) := by decide +kernel
theorem dX3_isReached_65 : decode cX3_isReached 65 = .ok (.iload_n 1, 1) := by decide +kernel
theorem dX3_isReached_66 : decode cX3_isReached 66 = .ok (.invokevirtual 100, 3) := by decide +kernel
theorem dX3_isReached_69 : decode cX3_isReached 69 = .ok (.aload_n 0, 1) := by decide +kernel
theorem dX3_isReached_70 : decode cX3_isReached 70 = .ok (.getfield 31, 3) := by decide +kernel
theorem dX3_isReached_73 : decode cX3_isReached 73 = .ok (.if_icmp .ne 7, 3) := by decide +kernel
theorem dX3_isReached_76 : decode cX3_isReached 76 = .ok (.iconst 1, 1) := by decide +kernel
theorem dX3_isReached_77 : decode cX3_isReached 77 = .ok (.goto 4, 3) := by decide +kernel
theorem dX3_isReached_80 : decode cX3_isReached 80 = .ok (.iconst 0, 1) := by decide +kernel
theorem dX3_isReached_81 : decode cX3_isReached 81 = .ok (.ireturn, 1) := by decide +kernel
theorem dX3_isReached_82 : decode cX3_isReached 82 = .ok (.aload_n 0, 1) := by decide +kernel
theorem dX3_isReached_83 : decode cX3_isReached 83 = .ok (.getfield 43, 3) := by decide +kernel
theorem dX3_isReached_86 : decode cX3_isReached 86 = .ok (.iload_n 1, 1) := by decide +kernel
theorem dX3_isReached_87 : decode cX3_isReached 87 = .ok (.iconst (-1), 1) := by decide +kernel
theorem dX3_isReached_88 : decode cX3_isReached 88 = .ok (.ixor, 1) := by decide +kernel
theorem dX3_isReached_89 : decode cX3_isReached 89 = .ok (.iand, 1) := by decide +kernel
theorem dX3_isReached_90 : decode cX3_isReached 90 = .ok (.aload_n 0, 1) := by decide +kernel
theorem dX3_isReached_91 : decode cX3_isReached 91 = .ok (.getfield 31, 3) := by decide +kernel
theorem dX3_isReached_94 : decode cX3_isReached 94 = .ok (.invokestatic 103, 3) := by decide +kernel
theorem dX3_isReached_97 : decode cX3_isReached 97 = .ok (.iand, 1) := by decide +kernel
theorem dX3_isReached_98 : decode cX3_isReached 98 = .ok (.ifCond .ne 7, 3) := by decide +kernel
theorem dX3_isReached_101 : decode cX3_isReached 101 = .ok (.iconst 1, 1) := by decide +kernel
theorem dX3_isReached_102 : decode cX3_isReached 102 = .ok (.goto 4, 3) := by decide +kernel
theorem dX3_isReached_105 : decode cX3_isReached 105 = .ok (.iconst 0, 1) := by decide +kernel
theorem dX3_isReached_106 : decode cX3_isReached 106 = .ok (.ireturn, 1) := by decide +kernel
theorem dX3_isPieceVisible_0 : decode cX3_isPieceVisible 0 = .ok (.aload_n 0, 1) := by decide +kernel
theorem dX3_isPieceVisible_1 : decode cX3_isPieceVisible 1 = .ok (.getfield 9, 3) := by decide +kernel
theorem dX3_isPieceVisible_4 : decode cX3_isPieceVisible 4 = .ok (.iload_n 1, 1) := by decide +kernel
theorem dX3_isPieceVisible_5 : decode cX3_isPieceVisible 5 = .ok (.iaload, 1) := by decide +kernel
theorem dX3_isPieceVisible_6 : decode cX3_isPieceVisible 6 = .ok (.iload_n 2, 1) := by decide +kernel
theorem dX3_isPieceVisible_7 : decode cX3_isPieceVisible 7 = .ok (.iand, 1) := by decide +kernel
theorem dX3_isPieceVisible_8 : decode cX3_isPieceVisible 8 = .ok (.ifCond .ne 20, 3) := by decide +kernel
theorem dX3_isPieceVisible_11 : decode cX3_isPieceVisible 11 = .ok (.aload_n 0, 1) := by decide +kernel
theorem dX3_isPieceVisible_12 : decode cX3_isPieceVisible 12 = .ok (.getfield 15, 3) := by decide +kernel
theorem dX3_isPieceVisible_15 : decode cX3_isPieceVisible 15 = .ok (.iload_n 1, 1) := by decide +kernel
theorem dX3_isPieceVisible_16 : decode cX3_isPieceVisible 16 = .ok (.iaload, 1) := by decide +kernel
theorem dX3_isPieceVisible_17 : decode cX3_isPieceVisible 17 = .ok (.iload_n 2, 1) := by decide +kernel
theorem dX3_isPieceVisible_18 : decode cX3_isPieceVisible 18 = .ok (.iconst (-1), 1) := by decide +kernel
theorem dX3_isPieceVisible_19 : decode cX3_isPieceVisible 19 = .ok (.ixor, 1) := by decide +kernel
theorem dX3_isPieceVisible_20 : decode cX3_isPieceVisible 20 = .ok (.iand, 1) := by decide +kernel
theorem dX3_isPieceVisible_21 : decode cX3_isPieceVisible 21 = .ok (.ifCond .ne 7, 3) := by decide +kernel
theorem dX3_isPieceVisible_24 : decode cX3_isPieceVisible 24 = .ok (.iconst 1, 1) := by decide +kernel
theorem dX3_isPieceVisible_25 : decode cX3_isPieceVisible 25 = .ok (.goto 4, 3) := by decide +kernel
theorem dX3_isPieceVisible_28 : decode cX3_isPieceVisible 28 = .ok (.iconst 0, 1) := by decide +kernel
theorem dX3_isPieceVisible_29 : decode cX3_isPieceVisible 29 = .ok (.ireturn, 1) := by decide +kernel
set_option maxRecDepth 20000 in
theorem ggX3_visibleWithout_X3_isPieceVisible : GoodIn wsX3_visibleWithout wsX3_isPieceVisible := goodIn_r _ [7, 8, 9, 10, 11, 12, 13, 14, 15, 16, 17, 18, 19, 20, 21] (by decide +kernel) (by decide +kernel)
set_option maxRecDepth 20000 in
theorem gX3_visibleWithout_X3_isPieceVisible : GoodIn wsX3_visibleWithout (wsV RX3 106 RX3 yX3_isPieceVisible wsX3_isPieceVisible) := goodIn_app (goodIn_of _ (by decide +kernel)) ggX3_visibleWithout_X3_isPieceVisible
theorem dX3_visibleWithout_0 : decode cX3_visibleWithout 0 = .ok (.iconst 0, 1) := by decide +kernel
theorem dX3_visibleWithout_1 : decode cX3_visibleWithout 1 = .ok (.istore_n 2, 1) := by decide +kernel
theorem dX3_visibleWithout_2 : decode cX3_visibleWithout 2 = .ok (.iconst 0, 1) := by decide +kernel
theorem dX3_visibleWithout_3 : decode cX3_visibleWithout 3 = .ok (.istore_n 3, 1) := by decide +kernel
theorem dX3_visibleWithout_4 : decode cX3_visibleWithout 4 = .ok (.iload_n 3, 1) := by decide +kernel
theorem dX3_visibleWithout_5 : decode cX3_visibleWithout 5 = .ok (.aload_n 0, 1) := by decide +kernel
theorem dX3_visibleWithout_6 : decode cX3_visibleWithout 6 = .ok (.getfield 52, 3) := by decide +kernel
theorem dX3_visibleWithout_9 : decode cX3_visibleWithout 9 = .ok (.if_icmp .ge 27, 3) := by decide +kernel
theorem dX3_visibleWithout_12 : decode cX3_visibleWithout 12 = .ok (.aload_n 0, 1) := by decide +kernel
theorem dX3_visibleWithout_13 : decode cX3_visibleWithout 13 = .ok (.iload_n 3, 1) := by decide +kernel
theorem dX3_visibleWithout_14 : decode cX3_visibleWithout 14 = .ok (.iload_n 1, 1) := by decide +kernel
theorem dX3_visibleWithout_15 : decode cX3_visibleWithout 15 = .ok (.invokevirtual 106, 3) := by decide +kernel
theorem dX3_visibleWithout_18 : decode cX3_visibleWithout 18 = .ok (.ifCond .eq 12, 3) := by decide +kernel
theorem dX3_visibleWithout_21 : decode cX3_visibleWithout 21 = .ok (.iload_n 2, 1) := by decide +kernel
theorem dX3_visibleWithout_22 : decode cX3_visibleWithout 22 = .ok (.aload_n 0, 1) := by decide +kernel
theorem dX3_visibleWithout_23 : decode cX3_visibleWithout 23 = .ok (.getfield 18, 3) := by decide +kernel
theorem dX3_visibleWithout_26 : decode cX3_visibleWithout 26 = .ok (.iload_n 3, 1) := by decide +kernel
theorem dX3_visibleWithout_27 : decode cX3_visibleWithout 27 = .ok (.iaload, 1) := by decide +kernel
theorem dX3_visibleWithout_28 : decode cX3_visibleWithout 28 = .ok (.iadd, 1) := by decide +kernel
theorem dX3_visibleWithout_29 : decode cX3_visibleWithout 29 = .ok (.istore_n 2, 1) := by decide +kernel
theorem dX3_visibleWithout_30 : decode cX3_visibleWithout 30 = .ok (.iinc 3 1, 3) := by decide +kernel
theorem dX3_visibleWithout_33 : decode cX3_visibleWithout 33 = .ok (.goto (-29), 3) := by decide +kernel
theorem dX3_visibleWithout_36 : decode cX3_visibleWithout 36 = .ok (.iload_n 2, 1) := by decide +kernel
theorem dX3_visibleWithout_37 : decode cX3_visibleWithout 37 = .ok (.ireturn, 1) := by decide +kernel
set_option maxRecDepth 20000 in
theorem ggX3_firstCodeWithout_X3_isPieceVisible : GoodIn wsX3_firstCodeWithout wsX3_isPieceVisible := goodIn_r _ [7, 8, 9, 10, 11, 12, 13, 14, 15, 16, 17, 18, 19, 20, 21] (by decide +kernel) (by decide +kernel)
set_option maxRecDepth 20000 in
theorem gX3_firstCodeWithout_X3_isPieceVisible : GoodIn wsX3_firstCodeWithout (wsV RX3 106 RX3 yX3_isPieceVisible wsX3_isPieceVisible) := goodIn_app (goodIn_of _ (by decide +kernel)) ggX3_firstCodeWithout_X3_isPieceVisible
theorem dX3_firstCodeWithout_0 : decode cX3_firstCodeWithout 0 = .ok (.iconst 0, 1) := by decide +kernel
theorem dX3_firstCodeWithout_1 : decode cX3_firstCodeWithout 1 = .ok (.istore_n 2, 1) := by decide +kernel
theorem dX3_firstCodeWithout_2 : decode cX3_firstCodeWithout 2 = .ok (.iload_n 2, 1) := by decide +kernel
theorem dX3_firstCodeWithout_3 : decode cX3_firstCodeWithout 3 = .ok (.aload_n 0, 1) := by decide +kernel
theorem dX3_firstCodeWithout_4 : decode cX3_firstCodeWithout 4 = .ok (.getfield 52, 3) := by decide +kernel
theorem dX3_firstCodeWithout_7 : decode cX3_firstCodeWithout 7 = .ok (.if_icmp .ge 25, 3) := by decide +kernel
theorem dX3_firstCodeWithout_10 : decode cX3_firstCodeWithout 10 = .ok (.aload_n 0, 1) := by decide +kernel
theorem dX3_firstCodeWithout_11 : decode cX3_firstCodeWithout 11 = .ok (.iload_n 2, 1) := by decide +kernel
theorem dX3_firstCodeWithout_12 : decode cX3_firstCodeWithout 12 = .ok (.iload_n 1, 1) := by decide +kernel
theorem dX3_firstCodeWithout_13 : decode cX3_firstCodeWithout 13 = .ok (.invokevirtual 106, 3) := by decide +kernel
theorem dX3_firstCodeWithout_16 : decode cX3_firstCodeWithout 16 = .ok (.ifCond .eq 10, 3) := by decide +kernel
theorem dX3_firstCodeWithout_19 : decode cX3_firstCodeWithout 19 = .ok (.aload_n 0, 1) := by decide +kernel
theorem dX3_firstCodeWithout_20 : decode cX3_firstCodeWithout 20 = .ok (.getfield 21, 3) := by decide +kernel
theorem dX3_firstCodeWithout_23 : decode cX3_firstCodeWithout 23 = .ok (.iload_n 2, 1) := by decide +kernel
theorem dX3_firstCodeWithout_24 : decode cX3_firstCodeWithout 24 = .ok (.iaload, 1) := by decide +kernel
theorem dX3_firstCodeWithout_25 : decode cX3_firstCodeWithout 25 = .ok (.ireturn, 1) := by decide +kernel
theorem dX3_firstCodeWithout_26 : decode cX3_firstCodeWithout 26 = .ok (.iinc 2 1, 3) := by decide +kernel
theorem dX3_firstCodeWithout_29 : decode cX3_firstCodeWithout 29 = .ok (.goto (-27), 3) := by decide +kernel
theorem dX3_firstCodeWithout_32 : decode cX3_firstCodeWithout 32 = .ok (.bipush (-9), 2) := by decide +kernel
theorem dX3_firstCodeWithout_34 : decode cX3_firstCodeWithout 34 = .ok (.ireturn, 1) := by decide +kernel
set_option maxRecDepth 20000 in
theorem ggX3_editsBelow_X4_single : GoodIn wsX3_editsBelow wsX4_single := goodIn_r _ [7] (by decide +kernel) (by decide +kernel)
set_option maxRecDepth 20000 in
theorem gX3_editsBelow_X4_single_n115 : GoodIn wsX3_editsBelow (wsX4_single) := ggX3_editsBelow_X4_single
theorem dX3_editsBelow_0 : decode cX3_editsBelow 0 = .ok (.iload_n 0, 1) := by decide +kernel
theorem dX3_editsBelow_1 : decode cX3_editsBelow 1 = .ok (.bipush 16, 2) := by decide +kernel
theorem dX3_editsBelow_3 : decode cX3_editsBelow 3 = .ok (.invokestatic 109, 3) := by decide +kernel
theorem dX3_editsBelow_6 : decode cX3_editsBelow 6 = .ok (.invokestatic 115, 3) := by decide +kernel
theorem dX3_editsBelow_9 : decode cX3_editsBelow 9 = .ok (.iconst 1, 1) := by decide +kernel
theorem dX3_editsBelow_10 : decode cX3_editsBelow 10 = .ok (.isub, 1) := by decide +kernel
theorem dX3_editsBelow_11 : decode cX3_editsBelow 11 = .ok (.ireturn, 1) := by decide +kernel
