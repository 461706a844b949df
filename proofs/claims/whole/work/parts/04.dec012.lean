set_option maxRecDepth 20000 in
theorem ggX0_init_X1_init : GoodIn wsX0_init wsX1_init := goodIn_r _ [18, 19, 2, 3, 20, 21, 22, 23, 24, 25, 26, 27, 28, 29, 30, 31, 32, 33] (by decide +kernel) (by decide +kernel)
set_option maxRecDepth 20000 in
theorem gX0_init_X1_init_n11 : GoodIn wsX0_init (wsX1_init) := ggX0_init_X1_init
theorem dX0_init_0 : decode cX0_init 0 = .ok (.aload_n 0, 1) := by decide +kernel
theorem dX0_init_1 : decode cX0_init 1 = .ok (.invokespecial 3, 3) := by decide +kernel
theorem dX0_init_4 : decode cX0_init 4 = .ok (.aload_n 0, 1) := by decide +kernel
theorem dX0_init_5 : decode cX0_init 5 = .ok (.new 9, 3) := by decide +kernel
theorem dX0_init_8 : decode cX0_init 8 = .ok (.dup, 1) := by decide +kernel
theorem dX0_init_9 : decode cX0_init 9 = .ok (.invokespecial 11, 3) := by decide +kernel
theorem dX0_init_12 : decode cX0_init 12 = .ok (.putfield 12, 3) := by decide +kernel
theorem dX0_init_15 : decode cX0_init 15 = .ok (.aload_n 0, 1) := by decide +kernel
theorem dX0_init_16 : decode cX0_init 16 = .ok (.new 9, 3) := by decide +kernel
theorem dX0_init_19 : decode cX0_init 19 = .ok (.dup, 1) := by decide +kernel
theorem dX0_init_20 : decode cX0_init 20 = .ok (.invokespecial 11, 3) := by decide +kernel
theorem dX0_init_23 : decode cX0_init 23 = .ok (.putfield 18, 3) := by decide +kernel
theorem dX0_init_26 : decode cX0_init 26 = .ok (.aload_n 0, 1) := by decide +kernel
theorem dX0_init_27 : decode cX0_init 27 = .ok (.new 9, 3) := by decide +kernel
theorem dX0_init_30 : decode cX0_init 30 = .ok (.dup, 1) := by decide +kernel
theorem dX0_init_31 : decode cX0_init 31 = .ok (.invokespecial 11, 3) := by decide +kernel
theorem dX0_init_34 : decode cX0_init 34 = .ok (.putfield 21, 3) := by decide +kernel
theorem dX0_init_37 : decode cX0_init 37 = .ok (.aload_n 0, 1) := by decide +kernel
theorem dX0_init_38 : decode cX0_init 38 = .ok (.new 9, 3) := by decide +kernel
theorem dX0_init_41 : decode cX0_init 41 = .ok (.dup, 1) := by decide +kernel
theorem dX0_init_42 : decode cX0_init 42 = .ok (.invokespecial 11, 3) := by decide +kernel
theorem dX0_init_45 : decode cX0_init 45 = .ok (.putfield 24, 3) := by decide +kernel
theorem dX0_init_48 : decode cX0_init 48 = .ok (.aload_n 0, 1) := by decide +kernel
theorem dX0_init_49 : decode cX0_init 49 = .ok (.iconst 0, 1) := by decide +kernel
theorem dX0_init_50 : decode cX0_init 50 = .ok (.putfield 27, 3) := by decide +kernel
theorem dX0_init_53 : decode cX0_init 53 = .ok (.aload_n 0, 1) := by decide +kernel
theorem dX0_init_54 : decode cX0_init 54 = .ok (.iconst 0, 1) := by decide +kernel
theorem dX0_init_55 : decode cX0_init 55 = .ok (.putfield 31, 3) := by decide +kernel
theorem dX0_init_58 : decode cX0_init 58 = .ok (.aload_n 0, 1) := by decide +kernel
theorem dX0_init_59 : decode cX0_init 59 = .ok (.iconst 0, 1) := by decide +kernel
theorem dX0_init_60 : decode cX0_init 60 = .ok (.putfield 34, 3) := by decide +kernel
theorem dX0_init_63 : decode cX0_init 63 = .ok (.aload_n 0, 1) := by decide +kernel
theorem dX0_init_64 : decode cX0_init 64 = .ok (.iconst 0, 1) := by decide +kernel
theorem dX0_init_65 : decode cX0_init 65 = .ok (.putfield 37, 3) := by decide +kernel
theorem dX0_init_68 : decode cX0_init 68 = .ok (.aload_n 0, 1) := by decide +kernel
theorem dX0_init_69 : decode cX0_init 69 = .ok (.iconst 0, 1) := by decide +kernel
theorem dX0_init_70 : decode cX0_init 70 = .ok (.putfield 40, 3) := by decide +kernel
theorem dX0_init_73 : decode cX0_init 73 = .ok (.aload_n 0, 1) := by decide +kernel
theorem dX0_init_74 : decode cX0_init 74 = .ok (.iconst 0, 1) := by decide +kernel
theorem dX0_init_75 : decode cX0_init 75 = .ok (.putfield 43, 3) := by decide +kernel
theorem dX0_init_78 : decode cX0_init 78 = .ok (.return_, 1) := by decide +kernel
set_option maxRecDepth 20000 in
theorem ggX0_begin_X2_wordAt : GoodIn wsX0_begin wsX2_wordAt := goodIn_r _ [12, 13, 14, 15, 16, 10, 17, 18, 19, 70, 71] (by decide +kernel) (by decide +kernel)
set_option maxRecDepth 20000 in
theorem gX0_begin_X2_wordAt_n47 : GoodIn wsX0_begin (wsX2_wordAt) := ggX0_begin_X2_wordAt
set_option maxRecDepth 20000 in
theorem ggX0_begin_X1_takeFile : GoodIn wsX0_begin wsX1_takeFile := goodIn_r _ [23, 24, 25, 26, 21, 27, 28, 29, 15, 10, 16, 17, 18, 19, 30, 31, 32, 33, 70, 71, 72, 73, 74, 75, 76, 77] (by decide +kernel) (by decide +kernel)
set_option maxRecDepth 20000 in
theorem gX0_begin_X1_takeFile_n53 : GoodIn wsX0_begin (wsX1_takeFile) := ggX0_begin_X1_takeFile
set_option maxRecDepth 20000 in
theorem ggX0_begin_X1_copyFrom : GoodIn wsX0_begin wsX1_copyFrom := goodIn_r _ [36, 37, 38, 39, 21, 40, 28, 41, 42, 43, 44, 45, 46, 47, 29, 48, 49, 50, 51, 52, 53, 54, 55, 72, 73, 74, 75, 76, 77] (by decide +kernel) (by decide +kernel)
set_option maxRecDepth 20000 in
theorem gX0_begin_X1_copyFrom_n57 : GoodIn wsX0_begin (wsX1_copyFrom) := ggX0_begin_X1_copyFrom
set_option maxRecDepth 20000 in
theorem ggX0_begin_X2_rightSum : GoodIn wsX0_begin wsX2_rightSum := goodIn_r _ [58, 18, 13, 59, 9, 11, 10, 12, 14, 15, 16, 17, 19, 70, 71] (by decide +kernel) (by decide +kernel)
set_option maxRecDepth 20000 in
theorem gX0_begin_X2_rightSum_n61 : GoodIn wsX0_begin (wsX2_rightSum) := ggX0_begin_X2_rightSum
theorem dX0_begin_0 : decode cX0_begin 0 = .ok (.aload_n 0, 1) := by decide +kernel
theorem dX0_begin_1 : decode cX0_begin 1 = .ok (.getfield 12, 3) := by decide +kernel
theorem dX0_begin_4 : decode cX0_begin 4 = .ok (.aload_n 1, 1) := by decide +kernel
theorem dX0_begin_5 : decode cX0_begin 5 = .ok (.aload_n 1, 1) := by decide +kernel
theorem dX0_begin_6 : decode cX0_begin 6 = .ok (.bipush 16, 2) := by decide +kernel
theorem dX0_begin_8 : decode cX0_begin 8 = .ok (.invokevirtual 47, 3) := by decide +kernel
theorem dX0_begin_11 : decode cX0_begin 11 = .ok (.l2i, 1) := by decide +kernel
theorem dX0_begin_12 : decode cX0_begin 12 = .ok (.invokevirtual 53, 3) := by decide +kernel
theorem dX0_begin_15 : decode cX0_begin 15 = .ok (.aload_n 0, 1) := by decide +kernel
theorem dX0_begin_16 : decode cX0_begin 16 = .ok (.getfield 18, 3) := by decide +kernel
theorem dX0_begin_19 : decode cX0_begin 19 = .ok (.aload_n 0, 1) := by decide +kernel
theorem dX0_begin_20 : decode cX0_begin 20 = .ok (.getfield 12, 3) := by decide +kernel
theorem dX0_begin_23 : decode cX0_begin 23 = .ok (.invokevirtual 57, 3) := by decide +kernel
theorem dX0_begin_26 : decode cX0_begin 26 = .ok (.aload_n 0, 1) := by decide +kernel
theorem dX0_begin_27 : decode cX0_begin 27 = .ok (.aload_n 1, 1) := by decide +kernel
theorem dX0_begin_28 : decode cX0_begin 28 = .ok (.invokevirtual 61, 3) := by decide +kernel
theorem dX0_begin_31 : decode cX0_begin 31 = .ok (.aload_n 1, 1) := by decide +kernel
theorem dX0_begin_32 : decode cX0_begin 32 = .ok (.bipush 32, 2) := by decide +kernel
theorem dX0_begin_34 : decode cX0_begin 34 = .ok (.invokevirtual 47, 3) := by decide +kernel
theorem dX0_begin_37 : decode cX0_begin 37 = .ok (.lcmp, 1) := by decide +kernel
theorem dX0_begin_38 : decode cX0_begin 38 = .ok (.ifCond .ne 7, 3) := by decide +kernel
theorem dX0_begin_41 : decode cX0_begin 41 = .ok (.iconst 1, 1) := by decide +kernel
theorem dX0_begin_42 : decode cX0_begin 42 = .ok (.goto 4, 3) := by decide +kernel
theorem dX0_begin_45 : decode cX0_begin 45 = .ok (.iconst 0, 1) := by decide +kernel
theorem dX0_begin_46 : decode cX0_begin 46 = .ok (.putfield 43, 3) := by decide +kernel
theorem dX0_begin_49 : decode cX0_begin 49 = .ok (.aload_n 0, 1) := by decide +kernel
theorem dX0_begin_50 : decode cX0_begin 50 = .ok (.iconst 0, 1) := by decide +kernel
theorem dX0_begin_51 : decode cX0_begin 51 = .ok (.putfield 27, 3) := by decide +kernel
theorem dX0_begin_54 : decode cX0_begin 54 = .ok (.aload_n 0, 1) := by decide +kernel
theorem dX0_begin_55 : decode cX0_begin 55 = .ok (.iconst 0, 1) := by decide +kernel
theorem dX0_begin_56 : decode cX0_begin 56 = .ok (.putfield 31, 3) := by decide +kernel
theorem dX0_begin_59 : decode cX0_begin 59 = .ok (.aload_n 0, 1) := by decide +kernel
theorem dX0_begin_60 : decode cX0_begin 60 = .ok (.iconst 0, 1) := by decide +kernel
theorem dX0_begin_61 : decode cX0_begin 61 = .ok (.putfield 34, 3) := by decide +kernel
theorem dX0_begin_64 : decode cX0_begin 64 = .ok (.aload_n 0, 1) := by decide +kernel
theorem dX0_begin_65 : decode cX0_begin 65 = .ok (.iconst 0, 1) := by decide +kernel
theorem dX0_begin_66 : decode cX0_begin 66 = .ok (.putfield 37, 3) := by decide +kernel
theorem dX0_begin_69 : decode cX0_begin 69 = .ok (.aload_n 0, 1) := by decide +kernel
theorem dX0_begin_70 : decode cX0_begin 70 = .ok (.iconst 0, 1) := by decide +kernel
theorem dX0_begin_71 : decode cX0_begin 71 = .ok (.putfield 40, 3) := by decide +kernel
theorem dX0_begin_74 : decode cX0_begin 74 = .ok (.return_, 1) := by decide +kernel
theorem dX0_tell_0 : decode cX0_tell 0 = .ok (.iload_n 1, 1) := by decide +kernel
theorem dX0_tell_1 : decode cX0_tell 1 = .ok (.tableswitch 101 9 15 #[43, 52, 61, 70, 76, 82, 88], 43) := by decide +kernel
theorem dX0_tell_44 : decode cX0_tell 44 = .ok (.aload_n 0, 1) := by decide +kernel
theorem dX0_tell_45 : decode cX0_tell 45 = .ok (.getfield 18, 3) := by decide +kernel
theorem dX0_tell_48 : decode cX0_tell 48 = .ok (.getfield 65, 3) := by decide +kernel
theorem dX0_tell_51 : decode cX0_tell 51 = .ok (.i2l, 1) := by decide +kernel
theorem dX0_tell_52 : decode cX0_tell 52 = .ok (.lreturn, 1) := by decide +kernel
theorem dX0_tell_53 : decode cX0_tell 53 = .ok (.aload_n 0, 1) := by decide +kernel
theorem dX0_tell_54 : decode cX0_tell 54 = .ok (.getfield 18, 3) := by decide +kernel
theorem dX0_tell_57 : decode cX0_tell 57 = .ok (.getfield 68, 3) := by decide +kernel
theorem dX0_tell_60 : decode cX0_tell 60 = .ok (.i2l, 1) := by decide +kernel
theorem dX0_tell_61 : decode cX0_tell 61 = .ok (.lreturn, 1) := by decide +kernel
theorem dX0_tell_62 : decode cX0_tell 62 = .ok (.aload_n 0, 1) := by decide +kernel
theorem dX0_tell_63 : decode cX0_tell 63 = .ok (.getfield 18, 3) := by decide +kernel
theorem dX0_tell_66 : decode cX0_tell 66 = .ok (.getfield 71, 3) := by decide +kernel
theorem dX0_tell_69 : decode cX0_tell 69 = .ok (.i2l, 1) := by decide +kernel
theorem dX0_tell_70 : decode cX0_tell 70 = .ok (.lreturn, 1) := by decide +kernel
theorem dX0_tell_71 : decode cX0_tell 71 = .ok (.aload_n 0, 1) := by decide +kernel
theorem dX0_tell_72 : decode cX0_tell 72 = .ok (.getfield 27, 3) := by decide +kernel
theorem dX0_tell_75 : decode cX0_tell 75 = .ok (.i2l, 1) := by decide +kernel
theorem dX0_tell_76 : decode cX0_tell 76 = .ok (.lreturn, 1) := by decide +kernel
theorem dX0_tell_77 : decode cX0_tell 77 = .ok (.aload_n 0, 1) := by decide +kernel
theorem dX0_tell_78 : decode cX0_tell 78 = .ok (.getfield 31, 3) := by decide +kernel
theorem dX0_tell_81 : decode cX0_tell 81 = .ok (.i2l, 1) := by decide +kernel
theorem dX0_tell_82 : decode cX0_tell 82 = .ok (.lreturn, 1) := by decide +kernel
theorem dX0_tell_83 : decode cX0_tell 83 = .ok (.aload_n 0, 1) := by decide +kernel
theorem dX0_tell_84 : decode cX0_tell 84 = .ok (.getfield 34, 3) := by decide +kernel
theorem dX0_tell_87 : decode cX0_tell 87 = .ok (.i2l, 1) := by decide +kernel
theorem dX0_tell_88 : decode cX0_tell 88 = .ok (.lreturn, 1) := by decide +kernel
theorem dX0_tell_89 : decode cX0_tell 89 = .ok (.aload_n 0, 1) := by decide +kernel
theorem dX0_tell_90 : decode cX0_tell 90 = .ok (.getfield 43, 3) := by decide +kernel
theorem dX0_tell_93 : decode cX0_tell 93 = .ok (.ifCond .eq 7, 3) := by decide +kernel
theorem dX0_tell_96 : decode cX0_tell 96 = .ok (.lconst 1, 1) := by decide +kernel
theorem dX0_tell_97 : decode cX0_tell 97 = .ok (.goto 4, 3) := by decide +kernel
theorem dX0_tell_100 : decode cX0_tell 100 = .ok (.lconst 0, 1) := by decide +kernel
theorem dX0_tell_101 : decode cX0_tell 101 = .ok (.lreturn, 1) := by decide +kernel
theorem dX0_tell_102 : decode cX0_tell 102 = .ok (.ldc2_w 74, 3) := by decide +kernel
theorem dX0_tell_105 : decode cX0_tell 105 = .ok (.lreturn, 1) := by decide +kernel
theorem dX0_noteFault_0 : decode cX0_noteFault 0 = .ok (.aload_n 0, 1) := by decide +kernel
theorem dX0_noteFault_1 : decode cX0_noteFault 1 = .ok (.iload_n 1, 1) := by decide +kernel
theorem dX0_noteFault_2 : decode cX0_noteFault 2 = .ok (.putfield 31, 3) := by decide +kernel
theorem dX0_noteFault_5 : decode cX0_noteFault 5 = .ok (.aload_n 0, 1) := by decide +kernel
theorem dX0_noteFault_6 : decode cX0_noteFault 6 = .ok (.iload_n 2, 1) := by decide +kernel
theorem dX0_noteFault_7 : decode cX0_noteFault 7 = .ok (.putfield 34, 3) := by decide +kernel
theorem dX0_noteFault_10 : decode cX0_noteFault 10 = .ok (.return_, 1) := by decide +kernel
set_option maxRecDepth 20000 in
theorem ggX0_writeFault_X1_valueAt : GoodIn wsX0_writeFault wsX1_valueAt := goodIn_r _ [6, 7, 8, 9, 4, 10, 11, 12, 26, 27, 28, 29, 30, 31] (by decide +kernel) (by decide +kernel)
set_option maxRecDepth 20000 in
theorem gX0_writeFault_X1_valueAt_n76 : GoodIn wsX0_writeFault (wsX1_valueAt) := ggX0_writeFault_X1_valueAt
set_option maxRecDepth 20000 in
theorem ggX0_writeFault_X1_holds : GoodIn wsX0_writeFault wsX1_holds := goodIn_r _ [15, 11, 26, 27, 28, 29, 30, 31] (by decide +kernel) (by decide +kernel)
set_option maxRecDepth 20000 in
theorem gX0_writeFault_X1_holds_n80 : GoodIn wsX0_writeFault (wsX1_holds) := ggX0_writeFault_X1_holds
theorem dX0_writeFault_0 : decode cX0_writeFault 0 = .ok (.iload_n 2, 1) := by decide +kernel
theorem dX0_writeFault_1 : decode cX0_writeFault 1 = .ok (.i2l, 1) := by decide +kernel
theorem dX0_writeFault_2 : decode cX0_writeFault 2 = .ok (.aload_n 0, 1) := by decide +kernel
theorem dX0_writeFault_3 : decode cX0_writeFault 3 = .ok (.getfield 12, 3) := by decide +kernel
theorem dX0_writeFault_6 : decode cX0_writeFault 6 = .ok (.iconst 4, 1) := by decide +kernel
theorem dX0_writeFault_7 : decode cX0_writeFault 7 = .ok (.bipush 8, 2) := by decide +kernel
theorem dX0_writeFault_9 : decode cX0_writeFault 9 = .ok (.invokevirtual 76, 3) := by decide +kernel
theorem dX0_writeFault_12 : decode cX0_writeFault 12 = .ok (.lcmp, 1) := by decide +kernel
theorem dX0_writeFault_13 : decode cX0_writeFault 13 = .ok (.ifCond .ge 5, 3) := by decide +kernel
theorem dX0_writeFault_16 : decode cX0_writeFault 16 = .ok (.iconst 2, 1) := by decide +kernel
theorem dX0_writeFault_17 : decode cX0_writeFault 17 = .ok (.ireturn, 1) := by decide +kernel
theorem dX0_writeFault_18 : decode cX0_writeFault 18 = .ok (.aload_n 0, 1) := by decide +kernel
theorem dX0_writeFault_19 : decode cX0_writeFault 19 = .ok (.getfield 18, 3) := by decide +kernel
theorem dX0_writeFault_22 : decode cX0_writeFault 22 = .ok (.iload_n 2, 1) := by decide +kernel
theorem dX0_writeFault_23 : decode cX0_writeFault 23 = .ok (.iload_n 1, 1) := by decide +kernel
theorem dX0_writeFault_24 : decode cX0_writeFault 24 = .ok (.invokevirtual 80, 3) := by decide +kernel
theorem dX0_writeFault_27 : decode cX0_writeFault 27 = .ok (.ifCond .eq 7, 3) := by decide +kernel
theorem dX0_writeFault_30 : decode cX0_writeFault 30 = .ok (.iconst 0, 1) := by decide +kernel
theorem dX0_writeFault_31 : decode cX0_writeFault 31 = .ok (.goto 4, 3) := by decide +kernel
theorem dX0_writeFault_34 : decode cX0_writeFault 34 = .ok (.iconst 3, 1) := by decide +kernel
theorem dX0_writeFault_35 : decode cX0_writeFault 35 = .ok (.ireturn, 1) := by decide +kernel
set_option maxRecDepth 20000 in
theorem ggX0_goBackTo_X1_copyAround : GoodIn wsX0_goBackTo wsX1_copyAround := goodIn_r _ [7, 8, 9, 10, 11, 12, 13, 14, 15, 16, 17, 18, 19, 20, 21, 22, 23, 24, 35, 36, 37, 38, 39, 40] (by decide +kernel) (by decide +kernel)
set_option maxRecDepth 20000 in
theorem gX0_goBackTo_X1_copyAround_n84 : GoodIn wsX0_goBackTo (wsX1_copyAround) := ggX0_goBackTo_X1_copyAround
theorem dX0_goBackTo_0 : decode cX0_goBackTo 0 = .ok (.aload_n 0, 1) := by decide +kernel
theorem dX0_goBackTo_1 : decode cX0_goBackTo 1 = .ok (.getfield 18, 3) := by decide +kernel
theorem dX0_goBackTo_4 : decode cX0_goBackTo 4 = .ok (.aload_n 1, 1) := by decide +kernel
theorem dX0_goBackTo_5 : decode cX0_goBackTo 5 = .ok (.aload_n 0, 1) := by decide +kernel
theorem dX0_goBackTo_6 : decode cX0_goBackTo 6 = .ok (.getfield 37, 3) := by decide +kernel
theorem dX0_goBackTo_9 : decode cX0_goBackTo 9 = .ok (.aload_n 0, 1) := by decide +kernel
theorem dX0_goBackTo_10 : decode cX0_goBackTo 10 = .ok (.getfield 40, 3) := by decide +kernel
theorem dX0_goBackTo_13 : decode cX0_goBackTo 13 = .ok (.invokevirtual 84, 3) := by decide +kernel
theorem dX0_goBackTo_16 : decode cX0_goBackTo 16 = .ok (.return_, 1) := by decide +kernel
set_option maxRecDepth 20000 in
theorem ggX0_keepState_X0_swapStates : GoodIn wsX0_keepState wsX0_swapStates := goodIn_r _ [12, 1, 13, 36, 37, 38, 39, 40, 41, 42, 43, 44, 45] (by decide +kernel) (by decide +kernel)
set_option maxRecDepth 20000 in
theorem gX0_keepState_X0_swapStates : GoodIn wsX0_keepState (wsV RX0 88 RX0 yX0_swapStates wsX0_swapStates) := goodIn_app (goodIn_of _ (by decide +kernel)) ggX0_keepState_X0_swapStates
set_option maxRecDepth 20000 in
theorem ggX0_keepState_X1_copyFrom : GoodIn wsX0_keepState wsX1_copyFrom := goodIn_r _ [17, 18, 19, 20, 15, 21, 22, 23, 5, 6, 7, 24, 25, 26, 27, 28, 29, 30, 31, 32, 33, 34, 35, 46, 47, 48, 49, 50, 51] (by decide +kernel) (by decide +kernel)
set_option maxRecDepth 20000 in
theorem gX0_keepState_X1_copyFrom_n57 : GoodIn wsX0_keepState (wsX1_copyFrom) := ggX0_keepState_X1_copyFrom
theorem dX0_keepState_0 : decode cX0_keepState 0 = .ok (.aload_n 0, 1) := by decide +kernel
theorem dX0_keepState_1 : decode cX0_keepState 1 = .ok (.invokevirtual 88, 3) := by decide +kernel
theorem dX0_keepState_4 : decode cX0_keepState 4 = .ok (.aload_n 0, 1) := by decide +kernel
theorem dX0_keepState_5 : decode cX0_keepState 5 = .ok (.getfield 21, 3) := by decide +kernel
theorem dX0_keepState_8 : decode cX0_keepState 8 = .ok (.aload_n 0, 1) := by decide +kernel
theorem dX0_keepState_9 : decode cX0_keepState 9 = .ok (.getfield 18, 3) := by decide +kernel
theorem dX0_keepState_12 : decode cX0_keepState 12 = .ok (.invokevirtual 57, 3) := by decide +kernel
theorem dX0_keepState_15 : decode cX0_keepState 15 = .ok (.aload_n 0, 1) := by decide +kernel
theorem dX0_keepState_16 : decode cX0_keepState 16 = .ok (.iconst 2, 1) := by decide +kernel
theorem dX0_keepState_17 : decode cX0_keepState 17 = .ok (.aload_n 0, 1) := by decide +kernel
theorem dX0_keepState_18 : decode cX0_keepState 18 = .ok (.getfield 27, 3) := by decide +kernel
theorem dX0_keepState_21 : decode cX0_keepState 21 = .ok (.iconst 1, 1) := by decide +kernel
theorem dX0_keepState_22 : decode cX0_keepState 22 = .ok (.iadd, 1) := by decide +kernel
theorem dX0_keepState_23 : decode cX0_keepState 23 = .ok (.invokestatic 91, 3) := by decide +kernel
theorem dX0_keepState_26 : decode cX0_keepState 26 = .ok (.putfield 27, 3) := by decide +kernel
theorem dX0_keepState_29 : decode cX0_keepState 29 = .ok (.return_, 1) := by decide +kernel
set_option maxRecDepth 20000 in
theorem ggX0_takeStateBack_X0_goBackTo : GoodIn wsX0_takeStateBack wsX0_goBackTo := goodIn_r _ [7, 8, 9, 10, 11, 12, 13, 14, 15, 16, 17, 18, 19, 20, 21, 22, 23, 24, 25, 26, 27, 28, 29, 30, 31, 37, 38, 39, 40, 41, 42, 43, 44, 45, 46, 47, 48, 49, 50, 51, 52] (by decide +kernel) (by decide +kernel)
set_option maxRecDepth 20000 in
theorem gX0_takeStateBack_X0_goBackTo : GoodIn wsX0_takeStateBack (wsV RX0 97 RX0 yX0_goBackTo wsX0_goBackTo) := goodIn_app (goodIn_of _ (by decide +kernel)) ggX0_takeStateBack_X0_goBackTo
set_option maxRecDepth 20000 in
theorem ggX0_takeStateBack_X0_swapStates : GoodIn wsX0_takeStateBack wsX0_swapStates := goodIn_r _ [35, 1, 36, 37, 38, 39, 40, 41, 42, 43, 44, 45, 46] (by decide +kernel) (by decide +kernel)
set_option maxRecDepth 20000 in
theorem gX0_takeStateBack_X0_swapStates : GoodIn wsX0_takeStateBack (wsV RX0 88 RX0 yX0_swapStates wsX0_swapStates) := goodIn_app (goodIn_of _ (by decide +kernel)) ggX0_takeStateBack_X0_swapStates
theorem dX0_takeStateBack_0 : decode cX0_takeStateBack 0 = .ok (.aload_n 0, 1) := by decide +kernel
theorem dX0_takeStateBack_1 : decode cX0_takeStateBack 1 = .ok (.aload_n 0, 1) := by decide +kernel
theorem dX0_takeStateBack_2 : decode cX0_takeStateBack 2 = .ok (.getfield 21, 3) := by decide +kernel
theorem dX0_takeStateBack_5 : decode cX0_takeStateBack 5 = .ok (.invokevirtual 97, 3) := by decide +kernel
theorem dX0_takeStateBack_8 : decode cX0_takeStateBack 8 = .ok (.aload_n 0, 1) := by decide +kernel
theorem dX0_takeStateBack_9 : decode cX0_takeStateBack 9 = .ok (.invokevirtual 88, 3) := by decide +kernel
theorem dX0_takeStateBack_12 : decode cX0_takeStateBack 12 = .ok (.aload_n 0, 1) := by decide +kernel
theorem dX0_takeStateBack_13 : decode cX0_takeStateBack 13 = .ok (.dup, 1) := by decide +kernel
theorem dX0_takeStateBack_14 : decode cX0_takeStateBack 14 = .ok (.getfield 27, 3) := by decide +kernel
theorem dX0_takeStateBack_17 : decode cX0_takeStateBack 17 = .ok (.iconst 1, 1) := by decide +kernel
theorem dX0_takeStateBack_18 : decode cX0_takeStateBack 18 = .ok (.isub, 1) := by decide +kernel
theorem dX0_takeStateBack_19 : decode cX0_takeStateBack 19 = .ok (.putfield 27, 3) := by decide +kernel
theorem dX0_takeStateBack_22 : decode cX0_takeStateBack 22 = .ok (.return_, 1) := by decide +kernel
theorem dX0_swapStates_0 : decode cX0_swapStates 0 = .ok (.aload_n 0, 1) := by decide +kernel
theorem dX0_swapStates_1 : decode cX0_swapStates 1 = .ok (.getfield 21, 3) := by decide +kernel
theorem dX0_swapStates_4 : decode cX0_swapStates 4 = .ok (.astore_n 1, 1) := by decide +kernel
theorem dX0_swapStates_5 : decode cX0_swapStates 5 = .ok (.aload_n 0, 1) := by decide +kernel
theorem dX0_swapStates_6 : decode cX0_swapStates 6 = .ok (.aload_n 0, 1) := by decide +kernel
theorem dX0_swapStates_7 : decode cX0_swapStates 7 = .ok (.getfield 24, 3) := by decide +kernel
theorem dX0_swapStates_10 : decode cX0_swapStates 10 = .ok (.putfield 21, 3) := by decide +kernel
theorem dX0_swapStates_13 : decode cX0_swapStates 13 = .ok (.aload_n 0, 1) := by decide +kernel
theorem dX0_swapStates_14 : decode cX0_swapStates 14 = .ok (.aload_n 1, 1) := by decide +kernel
theorem dX0_swapStates_15 : decode cX0_swapStates 15 = .ok (.putfield 24, 3) := by decide +kernel
theorem dX0_swapStates_18 : decode cX0_swapStates 18 = .ok (.return_, 1) := by decide +kernel
set_option maxRecDepth 20000 in
theorem ggX0_differsOnPage_X1_byteAt : GoodIn wsX0_differsOnPage wsX1_byteAt := goodIn_r _ [6, 7, 8, 19, 20, 21, 22, 23, 24] (by decide +kernel) (by decide +kernel)
set_option maxRecDepth 20000 in
theorem gX0_differsOnPage_X1_byteAt_n100 : GoodIn wsX0_differsOnPage (wsX1_byteAt) := ggX0_differsOnPage_X1_byteAt
theorem dX0_differsOnPage_0 : decode cX0_differsOnPage 0 = .ok (.iload_n 1, 1) := by decide +kernel
theorem dX0_differsOnPage_1 : decode cX0_differsOnPage 1 = .ok (.sipush 256, 3) := by decide +kernel
theorem dX0_differsOnPage_4 : decode cX0_differsOnPage 4 = .ok (.imul, 1) := by decide +kernel
theorem dX0_differsOnPage_5 : decode cX0_differsOnPage 5 = .ok (.istore_n 2, 1) := by decide +kernel
theorem dX0_differsOnPage_6 : decode cX0_differsOnPage 6 = .ok (.iconst 0, 1) := by decide +kernel
theorem dX0_differsOnPage_7 : decode cX0_differsOnPage 7 = .ok (.istore_n 3, 1) := by decide +kernel
theorem dX0_differsOnPage_8 : decode cX0_differsOnPage 8 = .ok (.iload_n 3, 1) := by decide +kernel
theorem dX0_differsOnPage_9 : decode cX0_differsOnPage 9 = .ok (.sipush 256, 3) := by decide +kernel
theorem dX0_differsOnPage_12 : decode cX0_differsOnPage 12 = .ok (.if_icmp .ge 34, 3) := by decide +kernel
theorem dX0_differsOnPage_15 : decode cX0_differsOnPage 15 = .ok (.aload_n 0, 1) := by decide +kernel
theorem dX0_differsOnPage_16 : decode cX0_differsOnPage 16 = .ok (.getfield 18, 3) := by decide +kernel
theorem dX0_differsOnPage_19 : decode cX0_differsOnPage 19 = .ok (.iload_n 2, 1) := by decide +kernel
theorem dX0_differsOnPage_20 : decode cX0_differsOnPage 20 = .ok (.iload_n 3, 1) := by decide +kernel
theorem dX0_differsOnPage_21 : decode cX0_differsOnPage 21 = .ok (.iadd, 1) := by decide +kernel
theorem dX0_differsOnPage_22 : decode cX0_differsOnPage 22 = .ok (.invokevirtual 100, 3) := by decide +kernel
theorem dX0_differsOnPage_25 : decode cX0_differsOnPage 25 = .ok (.aload_n 0, 1) := by decide +kernel
theorem dX0_differsOnPage_26 : decode cX0_differsOnPage 26 = .ok (.getfield 12, 3) := by decide +kernel
theorem dX0_differsOnPage_29 : decode cX0_differsOnPage 29 = .ok (.iload_n 2, 1) := by decide +kernel
theorem dX0_differsOnPage_30 : decode cX0_differsOnPage 30 = .ok (.iload_n 3, 1) := by decide +kernel
theorem dX0_differsOnPage_31 : decode cX0_differsOnPage 31 = .ok (.iadd, 1) := by decide +kernel
theorem dX0_differsOnPage_32 : decode cX0_differsOnPage 32 = .ok (.invokevirtual 100, 3) := by decide +kernel
theorem dX0_differsOnPage_35 : decode cX0_differsOnPage 35 = .ok (.if_icmp .eq 5, 3) := by decide +kernel
theorem dX0_differsOnPage_38 : decode cX0_differsOnPage 38 = .ok (.iconst 1, 1) := by decide +kernel
theorem dX0_differsOnPage_39 : decode cX0_differsOnPage 39 = .ok (.ireturn, 1) := by decide +kernel
theorem dX0_differsOnPage_40 : decode cX0_differsOnPage 40 = .ok (.iinc 3 1, 3) := by decide +kernel
theorem dX0_differsOnPage_43 : decode cX0_differsOnPage 43 = .ok (.goto (-35), 3) := by decide +kernel
theorem dX0_differsOnPage_46 : decode cX0_differsOnPage 46 = .ok (.iconst 0, 1) := by decide +kernel
theorem dX0_differsOnPage_47 : decode cX0_differsOnPage 47 = .ok (.ireturn, 1) := by decide +kernel
theorem dX1_init_0 : decode cX1_init 0 = .ok (.aload_n 0, 1) := by decide +kernel
theorem dX1_init_1 : decode cX1_init 1 = .ok (.invokespecial 3, 3) := by decide +kernel
theorem dX1_init_4 : decode cX1_init 4 = .ok (.aload_n 0, 1) := by decide +kernel
theorem dX1_init_5 : decode cX1_init 5 = .ok (.sipush 8192, 3) := by decide +kernel
theorem dX1_init_8 : decode cX1_init 8 = .ok (.newarray .byte, 2) := by decide +kernel
theorem dX1_init_10 : decode cX1_init 10 = .ok (.putfield 9, 3) := by decide +kernel
theorem dX1_init_13 : decode cX1_init 13 = .ok (.aload_n 0, 1) := by decide +kernel
theorem dX1_init_14 : decode cX1_init 14 = .ok (.iconst 0, 1) := by decide +kernel
theorem dX1_init_15 : decode cX1_init 15 = .ok (.putfield 15, 3) := by decide +kernel
theorem dX1_init_18 : decode cX1_init 18 = .ok (.aload_n 0, 1) := by decide +kernel
theorem dX1_init_19 : decode cX1_init 19 = .ok (.bipush 16, 2) := by decide +kernel
theorem dX1_init_21 : decode cX1_init 21 = .ok (.newarray .int, 2) := by decide +kernel
theorem dX1_init_23 : decode cX1_init 23 = .ok (.putfield 19, 3) := by decide +kernel
theorem dX1_init_26 : decode cX1_init 26 = .ok (.aload_n 0, 1) := by decide +kernel
theorem dX1_init_27 : decode cX1_init 27 = .ok (.bipush 16, 2) := by decide +kernel
theorem dX1_init_29 : decode cX1_init 29 = .ok (.newarray .int, 2) := by decide +kernel
theorem dX1_init_31 : decode cX1_init 31 = .ok (.putfield 23, 3) := by decide +kernel
theorem dX1_init_34 : decode cX1_init 34 = .ok (.aload_n 0, 1) := by decide +kernel
theorem dX1_init_35 : decode cX1_init 35 = .ok (.iconst 0, 1) := by decide +kernel
theorem dX1_init_36 : decode cX1_init 36 = .ok (.putfield 26, 3) := by decide +kernel
theorem dX1_init_39 : decode cX1_init 39 = .ok (.aload_n 0, 1) := by decide +kernel
theorem dX1_init_40 : decode cX1_init 40 = .ok (.iconst 0, 1) := by decide +kernel
theorem dX1_init_41 : decode cX1_init 41 = .ok (.putfield 29, 3) := by decide +kernel
theorem dX1_init_44 : decode cX1_init 44 = .ok (.return_, 1) := by decide +kernel
theorem dX1_holds_0 : decode cX1_holds 0 = .ok (.iload_n 1, 1) := by decide +kernel
theorem dX1_holds_1 : decode cX1_holds 1 = .ok (.ifCond .lt 29, 3) := by decide +kernel
theorem dX1_holds_4 : decode cX1_holds 4 = .ok (.iload_n 2, 1) := by decide +kernel
theorem dX1_holds_5 : decode cX1_holds 5 = .ok (.ifCond .lt 25, 3) := by decide +kernel
theorem dX1_holds_8 : decode cX1_holds 8 = .ok (.iload_n 2, 1) := by decide +kernel
theorem dX1_holds_9 : decode cX1_holds 9 = .ok (.aload_n 0, 1) := by decide +kernel
theorem dX1_holds_10 : decode cX1_holds 10 = .ok (.getfield 15, 3) := by decide +kernel
theorem dX1_holds_13 : decode cX1_holds 13 = .ok (.if_icmp .gt 17, 3) := by decide +kernel
theorem dX1_holds_16 : decode cX1_holds 16 = .ok (.iload_n 1, 1) := by decide +kernel
theorem dX1_holds_17 : decode cX1_holds 17 = .ok (.aload_n 0, 1) := by decide +kernel
theorem dX1_holds_18 : decode cX1_holds 18 = .ok (.getfield 15, 3) := by decide +kernel
theorem dX1_holds_21 : decode cX1_holds 21 = .ok (.iload_n 2, 1) := by decide +kernel
theorem dX1_holds_22 : decode cX1_holds 22 = .ok (.isub, 1) := by decide +kernel
theorem dX1_holds_23 : decode cX1_holds 23 = .ok (.if_icmp .gt 7, 3) := by decide +kernel
theorem dX1_holds_26 : decode cX1_holds 26 = .ok (.iconst 1, 1) := by decide +kernel
theorem dX1_holds_27 : decode cX1_holds 27 = .ok (.goto 4, 3) := by decide +kernel
theorem dX1_holds_30 : decode cX1_holds 30 = .ok (.iconst 0, 1) := by decide +kernel
theorem dX1_holds_31 : decode cX1_holds 31 = .ok (.ireturn, 1) := by decide +kernel
theorem dX1_byteAt_0 : decode cX1_byteAt 0 = .ok (.iload_n 1, 1) := by decide +kernel
theorem dX1_byteAt_1 : decode cX1_byteAt 1 = .ok (.ifCond .lt 31, 3) := by decide +kernel
theorem dX1_byteAt_4 : decode cX1_byteAt 4 = .ok (.iload_n 1, 1) := by decide +kernel
theorem dX1_byteAt_5 : decode cX1_byteAt 5 = .ok (.aload_n 0, 1) := by decide +kernel
theorem dX1_byteAt_6 : decode cX1_byteAt 6 = .ok (.getfield 15, 3) := by decide +kernel
theorem dX1_byteAt_9 : decode cX1_byteAt 9 = .ok (.if_icmp .ge 23, 3) := by decide +kernel
theorem dX1_byteAt_12 : decode cX1_byteAt 12 = .ok (.iload_n 1, 1) := by decide +kernel
theorem dX1_byteAt_13 : decode cX1_byteAt 13 = .ok (.sipush 8192, 3) := by decide +kernel
theorem dX1_byteAt_16 : decode cX1_byteAt 16 = .ok (.if_icmp .ge 16, 3) := by decide +kernel
theorem dX1_byteAt_19 : decode cX1_byteAt 19 = .ok (.aload_n 0, 1) := by decide +kernel
theorem dX1_byteAt_20 : decode cX1_byteAt 20 = .ok (.getfield 9, 3) := by decide +kernel
theorem dX1_byteAt_23 : decode cX1_byteAt 23 = .ok (.iload_n 1, 1) := by decide +kernel
theorem dX1_byteAt_24 : decode cX1_byteAt 24 = .ok (.baload, 1) := by decide +kernel
theorem dX1_byteAt_25 : decode cX1_byteAt 25 = .ok (.sipush 255, 3) := by decide +kernel
theorem dX1_byteAt_28 : decode cX1_byteAt 28 = .ok (.iand, 1) := by decide +kernel
theorem dX1_byteAt_29 : decode cX1_byteAt 29 = .ok (.goto 4, 3) := by decide +kernel
theorem dX1_byteAt_32 : decode cX1_byteAt 32 = .ok (.iconst 0, 1) := by decide +kernel
theorem dX1_byteAt_33 : decode cX1_byteAt 33 = .ok (.ireturn, 1) := by decide +kernel
theorem dX1_putByte_0 : decode cX1_putByte 0 = .ok (.iload_n 1, 1) := by decide +kernel
theorem dX1_putByte_1 : decode cX1_putByte 1 = .ok (.ifCond .lt 26, 3) := by decide +kernel
theorem dX1_putByte_4 : decode cX1_putByte 4 = .ok (.iload_n 1, 1) := by decide +kernel
theorem dX1_putByte_5 : decode cX1_putByte 5 = .ok (.aload_n 0, 1) := by decide +kernel
theorem dX1_putByte_6 : decode cX1_putByte 6 = .ok (.getfield 15, 3) := by decide +kernel
theorem dX1_putByte_9 : decode cX1_putByte 9 = .ok (.if_icmp .ge 18, 3) := by decide +kernel
theorem dX1_putByte_12 : decode cX1_putByte 12 = .ok (.iload_n 1, 1) := by decide +kernel
theorem dX1_putByte_13 : decode cX1_putByte 13 = .ok (.sipush 8192, 3) := by decide +kernel
theorem dX1_putByte_16 : decode cX1_putByte 16 = .ok (.if_icmp .ge 11, 3) := by decide +kernel
theorem dX1_putByte_19 : decode cX1_putByte 19 = .ok (.aload_n 0, 1) := by decide +kernel
theorem dX1_putByte_20 : decode cX1_putByte 20 = .ok (.getfield 9, 3) := by decide +kernel
theorem dX1_putByte_23 : decode cX1_putByte 23 = .ok (.iload_n 1, 1) := by decide +kernel
theorem dX1_putByte_24 : decode cX1_putByte 24 = .ok (.iload_n 2, 1) := by decide +kernel
theorem dX1_putByte_25 : decode cX1_putByte 25 = .ok (.i2b, 1) := by decide +kernel
theorem dX1_putByte_26 : decode cX1_putByte 26 = .ok (.bastore, 1) := by decide +kernel
theorem dX1_putByte_27 : decode cX1_putByte 27 = .ok (.return_, 1) := by decide +kernel
set_option maxRecDepth 20000 in
theorem ggX1_valueAt_X1_byteAt : GoodIn wsX1_valueAt wsX1_byteAt := goodIn_r _ [5, 6, 7, 8, 9, 10, 11, 12, 13] (by decide +kernel) (by decide +kernel)
set_option maxRecDepth 20000 in
theorem gX1_valueAt_X1_byteAt : GoodIn wsX1_valueAt (wsV RX1 32 RX1 yX1_byteAt wsX1_byteAt) := goodIn_app (goodIn_of _ (by decide +kernel)) ggX1_valueAt_X1_byteAt
theorem dX1_valueAt_0 : decode cX1_valueAt 0 = .ok (.lconst 0, 1) := by decide +kernel
theorem dX1_valueAt_1 : decode cX1_valueAt 1 = .ok (.lstore_n 3, 1) := by decide +kernel
theorem dX1_valueAt_2 : decode cX1_valueAt 2 = .ok (.iconst 0, 1) := by decide +kernel
theorem dX1_valueAt_3 : decode cX1_valueAt 3 = .ok (.istore 5, 2) := by decide +kernel
theorem dX1_valueAt_5 : decode cX1_valueAt 5 = .ok (.iload 5, 2) := by decide +kernel
theorem dX1_valueAt_7 : decode cX1_valueAt 7 = .ok (.iload_n 1, 1) := by decide +kernel
theorem dX1_valueAt_8 : decode cX1_valueAt 8 = .ok (.if_icmp .ge 24, 3) := by decide +kernel
theorem dX1_valueAt_11 : decode cX1_valueAt 11 = .ok (.lload_n 3, 1) := by decide +kernel
theorem dX1_valueAt_12 : decode cX1_valueAt 12 = .ok (.bipush 8, 2) := by decide +kernel
theorem dX1_valueAt_14 : decode cX1_valueAt 14 = .ok (.lshl, 1) := by decide +kernel
theorem dX1_valueAt_15 : decode cX1_valueAt 15 = .ok (.aload_n 0, 1) := by decide +kernel
theorem dX1_valueAt_16 : decode cX1_valueAt 16 = .ok (.iload_n 2, 1) := by decide +kernel
theorem dX1_valueAt_17 : decode cX1_valueAt 17 = .ok (.iload 5, 2) := by decide +kernel
theorem dX1_valueAt_19 : decode cX1_valueAt 19 = .ok (.iadd, 1) := by decide +kernel
theorem dX1_valueAt_20 : decode cX1_valueAt 20 = .ok (.invokevirtual 32, 3) := by decide +kernel
theorem dX1_valueAt_23 : decode cX1_valueAt 23 = .ok (.i2l, 1) := by decide +kernel
theorem dX1_valueAt_24 : decode cX1_valueAt 24 = .ok (.lor, 1) := by decide +kernel
theorem dX1_valueAt_25 : decode cX1_valueAt 25 = .ok (.lstore_n 3, 1) := by decide +kernel
theorem dX1_valueAt_26 : decode cX1_valueAt 26 = .ok (.iinc 5 1, 3) := by decide +kernel
theorem dX1_valueAt_29 : decode cX1_valueAt 29 = .ok (.goto (-24), 3) := by decide +kernel
theorem dX1_valueAt_32 : decode cX1_valueAt 32 = .ok (.lload_n 3, 1) := by decide +kernel
theorem dX1_valueAt_33 : decode cX1_valueAt 33 = .ok (.lreturn, 1) := by decide +kernel
set_option maxRecDepth 20000 in
theorem ggX1_putValue_X1_putByte : GoodIn wsX1_putValue wsX1_putByte := goodIn_r _ [5, 6, 7, 8, 9, 10, 11, 12, 13] (by decide +kernel) (by decide +kernel)
set_option maxRecDepth 20000 in
theorem gX1_putValue_X1_putByte : GoodIn wsX1_putValue (wsV RX1 36 RX1 yX1_putByte wsX1_putByte) := goodIn_app (goodIn_of _ (by decide +kernel)) ggX1_putValue_X1_putByte
theorem dX1_putValue_0 : decode cX1_putValue 0 = .ok (.iload_n 3, 1) := by decide +kernel
theorem dX1_putValue_1 : decode cX1_putValue 1 = .ok (.istore 4, 2) := by decide +kernel
theorem dX1_putValue_3 : decode cX1_putValue 3 = .ok (.iload_n 1, 1) := by decide +kernel
theorem dX1_putValue_4 : decode cX1_putValue 4 = .ok (.iconst 1, 1) := by decide +kernel
theorem dX1_putValue_5 : decode cX1_putValue 5 = .ok (.isub, 1) := by decide +kernel
theorem dX1_putValue_6 : decode cX1_putValue 6 = .ok (.istore 5, 2) := by decide +kernel
theorem dX1_putValue_8 : decode cX1_putValue 8 = .ok (.iload 5, 2) := by decide +kernel
theorem dX1_putValue_10 : decode cX1_putValue 10 = .ok (.ifCond .lt 26, 3) := by decide +kernel
theorem dX1_putValue_13 : decode cX1_putValue 13 = .ok (.aload_n 0, 1) := by decide +kernel
theorem dX1_putValue_14 : decode cX1_putValue 14 = .ok (.iload_n 2, 1) := by decide +kernel
theorem dX1_putValue_15 : decode cX1_putValue 15 = .ok (.iload 5, 2) := by decide +kernel
theorem dX1_putValue_17 : decode cX1_putValue 17 = .ok (.iadd, 1) := by decide +kernel
theorem dX1_putValue_18 : decode cX1_putValue 18 = .ok (.iload 4, 2) := by decide +kernel
theorem dX1_putValue_20 : decode cX1_putValue 20 = .ok (.invokevirtual 36, 3) := by decide +kernel
theorem dX1_putValue_23 : decode cX1_putValue 23 = .ok (.iload 4, 2) := by decide +kernel
theorem dX1_putValue_25 : decode cX1_putValue 25 = .ok (.bipush 8, 2) := by decide +kernel
theorem dX1_putValue_27 : decode cX1_putValue 27 = .ok (.iushr, 1) := by decide +kernel
theorem dX1_putValue_28 : decode cX1_putValue 28 = .ok (.istore 4, 2) := by decide +kernel
theorem dX1_putValue_30 : decode cX1_putValue 30 = .ok (.iinc 5 (-1), 3) := by decide +kernel
theorem dX1_putValue_33 : decode cX1_putValue 33 = .ok (.goto (-25), 3) := by decide +kernel
theorem dX1_putValue_36 : decode cX1_putValue 36 = .ok (.return_, 1) := by decide +kernel
theorem dX1_setSize_0 : decode cX1_setSize 0 = .ok (.iload_n 1, 1) := by decide +kernel
theorem dX1_setSize_1 : decode cX1_setSize 1 = .ok (.ifCond .lt 10, 3) := by decide +kernel
theorem dX1_setSize_4 : decode cX1_setSize 4 = .ok (.iload_n 1, 1) := by decide +kernel
theorem dX1_setSize_5 : decode cX1_setSize 5 = .ok (.sipush 8192, 3) := by decide +kernel
theorem dX1_setSize_8 : decode cX1_setSize 8 = .ok (.if_icmp .le 4, 3) := by decide +kernel
theorem dX1_setSize_11 : decode cX1_setSize 11 = .ok (.return_, 1) := by decide +kernel
theorem dX1_setSize_12 : decode cX1_setSize 12 = .ok (.iload_n 1, 1) := by decide +kernel
theorem dX1_setSize_13 : decode cX1_setSize 13 = .ok (.istore_n 2, 1) := by decide +kernel
theorem dX1_setSize_14 : decode cX1_setSize 14 = .ok (.iload_n 2, 1) := by decide +kernel
theorem dX1_setSize_15 : decode cX1_setSize 15 = .ok (.aload_n 0, 1) := by decide +kernel
theorem dX1_setSize_16 : decode cX1_setSize 16 = .ok (.getfield 15, 3) := by decide +kernel
theorem dX1_setSize_19 : decode cX1_setSize 19 = .ok (.if_icmp .ge 16, 3) := by decide +kernel
theorem dX1_setSize_22 : decode cX1_setSize 22 = .ok (.aload_n 0, 1) := by decide +kernel
theorem dX1_setSize_23 : decode cX1_setSize 23 = .ok (.getfield 9, 3) := by decide +kernel
theorem dX1_setSize_26 : decode cX1_setSize 26 = .ok (.iload_n 2, 1) := by decide +kernel
theorem dX1_setSize_27 : decode cX1_setSize 27 = .ok (.iconst 0, 1) := by decide +kernel
theorem dX1_setSize_28 : decode cX1_setSize 28 = .ok (.bastore, 1) := by decide +kernel
theorem dX1_setSize_29 : decode cX1_setSize 29 = .ok (.iinc 2 1, 3) := by decide +kernel
theorem dX1_setSize_32 : decode cX1_setSize 32 = .ok (.goto (-18), 3) := by decide +kernel
theorem dX1_setSize_35 : decode cX1_setSize 35 = .ok (.aload_n 0, 1) := by decide +kernel
theorem dX1_setSize_36 : decode cX1_setSize 36 = .ok (.iload_n 1, 1) := by decide +kernel
theorem dX1_setSize_37 : decode cX1_setSize 37 = .ok (.putfield 15, 3) := by decide +kernel
theorem dX1_setSize_40 : decode cX1_setSize 40 = .ok (.return_, 1) := by decide +kernel
set_option maxRecDepth 20000 in
theorem ggX1_takeFile_X1_setSize : GoodIn wsX1_takeFile wsX1_setSize := goodIn_r _ [5, 6, 7, 20, 21, 22, 23, 24, 25] (by decide +kernel) (by decide +kernel)
set_option maxRecDepth 20000 in
theorem gX1_takeFile_X1_setSize : GoodIn wsX1_takeFile (wsV RX1 40 RX1 yX1_setSize wsX1_setSize) := goodIn_app (goodIn_of _ (by decide +kernel)) ggX1_takeFile_X1_setSize
set_option maxRecDepth 20000 in
theorem ggX1_takeFile_X2_byteAt : GoodIn wsX1_takeFile wsX2_byteAt := goodIn_r _ [11, 12, 13, 18, 19] (by decide +kernel) (by decide +kernel)
set_option maxRecDepth 20000 in
theorem gX1_takeFile_X2_byteAt_n49 : GoodIn wsX1_takeFile (wsX2_byteAt) := ggX1_takeFile_X2_byteAt
set_option maxRecDepth 20000 in
theorem ggX1_takeFile_X1_putByte : GoodIn wsX1_takeFile wsX1_putByte := goodIn_r _ [17, 6, 7, 20, 21, 22, 23, 24, 25] (by decide +kernel) (by decide +kernel)
set_option maxRecDepth 20000 in
theorem gX1_takeFile_X1_putByte : GoodIn wsX1_takeFile (wsV RX1 36 RX1 yX1_putByte wsX1_putByte) := goodIn_app (goodIn_of _ (by decide +kernel)) ggX1_takeFile_X1_putByte
theorem dX1_takeFile_0 : decode cX1_takeFile 0 = .ok (.aload_n 0, 1) := by decide +kernel
theorem dX1_takeFile_1 : decode cX1_takeFile 1 = .ok (.iconst 0, 1) := by decide +kernel
theorem dX1_takeFile_2 : decode cX1_takeFile 2 = .ok (.invokevirtual 40, 3) := by decide +kernel
theorem dX1_takeFile_5 : decode cX1_takeFile 5 = .ok (.aload_n 0, 1) := by decide +kernel
theorem dX1_takeFile_6 : decode cX1_takeFile 6 = .ok (.iload_n 2, 1) := by decide +kernel
theorem dX1_takeFile_7 : decode cX1_takeFile 7 = .ok (.invokevirtual 40, 3) := by decide +kernel
theorem dX1_takeFile_10 : decode cX1_takeFile 10 = .ok (.iconst 0, 1) := by decide +kernel
theorem dX1_takeFile_11 : decode cX1_takeFile 11 = .ok (.istore_n 3, 1) := by decide +kernel
theorem dX1_takeFile_12 : decode cX1_takeFile 12 = .ok (.iload_n 3, 1) := by decide +kernel
theorem dX1_takeFile_13 : decode cX1_takeFile 13 = .ok (.aload_n 1, 1) := by decide +kernel
theorem dX1_takeFile_14 : decode cX1_takeFile 14 = .ok (.getfield 44, 3) := by decide +kernel
theorem dX1_takeFile_17 : decode cX1_takeFile 17 = .ok (.if_icmp .ge 19, 3) := by decide +kernel
theorem dX1_takeFile_20 : decode cX1_takeFile 20 = .ok (.aload_n 0, 1) := by decide +kernel
theorem dX1_takeFile_21 : decode cX1_takeFile 21 = .ok (.iload_n 3, 1) := by decide +kernel
theorem dX1_takeFile_22 : decode cX1_takeFile 22 = .ok (.aload_n 1, 1) := by decide +kernel
theorem dX1_takeFile_23 : decode cX1_takeFile 23 = .ok (.iload_n 3, 1) := by decide +kernel
theorem dX1_takeFile_24 : decode cX1_takeFile 24 = .ok (.invokevirtual 49, 3) := by decide +kernel
theorem dX1_takeFile_27 : decode cX1_takeFile 27 = .ok (.invokevirtual 36, 3) := by decide +kernel
theorem dX1_takeFile_30 : decode cX1_takeFile 30 = .ok (.iinc 3 1, 3) := by decide +kernel
theorem dX1_takeFile_33 : decode cX1_takeFile 33 = .ok (.goto (-21), 3) := by decide +kernel
theorem dX1_takeFile_36 : decode cX1_takeFile 36 = .ok (.return_, 1) := by decide +kernel
set_option maxRecDepth 20000 in
theorem ggX1_copyFrom_X1_copyAround : GoodIn wsX1_copyFrom wsX1_copyAround := goodIn_r _ [5, 6, 7, 8, 9, 10, 11, 12, 13, 14, 15, 16, 17, 18, 19, 20, 21, 22, 23, 24, 25, 26, 27, 28] (by decide +kernel) (by decide +kernel)
set_option maxRecDepth 20000 in
theorem gX1_copyFrom_X1_copyAround : GoodIn wsX1_copyFrom (wsV RX1 50 RX1 yX1_copyAround wsX1_copyAround) := goodIn_app (goodIn_of _ (by decide +kernel)) ggX1_copyFrom_X1_copyAround
theorem dX1_copyFrom_0 : decode cX1_copyFrom 0 = .ok (.aload_n 0, 1) := by decide +kernel
theorem dX1_copyFrom_1 : decode cX1_copyFrom 1 = .ok (.aload_n 1, 1) := by decide +kernel
theorem dX1_copyFrom_2 : decode cX1_copyFrom 2 = .ok (.iconst 0, 1) := by decide +kernel
theorem dX1_copyFrom_3 : decode cX1_copyFrom 3 = .ok (.iconst 0, 1) := by decide +kernel
theorem dX1_copyFrom_4 : decode cX1_copyFrom 4 = .ok (.invokevirtual 50, 3) := by decide +kernel
theorem dX1_copyFrom_7 : decode cX1_copyFrom 7 = .ok (.return_, 1) := by decide +kernel
theorem dX1_copyAround_0 : decode cX1_copyAround 0 = .ok (.iconst 0, 1) := by decide +kernel
theorem dX1_copyAround_1 : decode cX1_copyAround 1 = .ok (.iload_n 3, 1) := by decide +kernel
theorem dX1_copyAround_2 : decode cX1_copyAround 2 = .ok (.aload_n 0, 1) := by decide +kernel
theorem dX1_copyAround_3 : decode cX1_copyAround 3 = .ok (.getfield 15, 3) := by decide +kernel
theorem dX1_copyAround_6 : decode cX1_copyAround 6 = .ok (.aload_n 1, 1) := by decide +kernel
theorem dX1_copyAround_7 : decode cX1_copyAround 7 = .ok (.getfield 15, 3) := by decide +kernel
theorem dX1_copyAround_10 : decode cX1_copyAround 10 = .ok (.invokestatic 54, 3) := by decide +kernel
theorem dX1_copyAround_13 : decode cX1_copyAround 13 = .ok (.invokestatic 54, 3) := by decide +kernel
theorem dX1_copyAround_16 : decode cX1_copyAround 16 = .ok (.invokestatic 60, 3) := by decide +kernel
theorem dX1_copyAround_19 : decode cX1_copyAround 19 = .ok (.istore 4, 2) := by decide +kernel
theorem dX1_copyAround_21 : decode cX1_copyAround 21 = .ok (.iconst 0, 1) := by decide +kernel
theorem dX1_copyAround_22 : decode cX1_copyAround 22 = .ok (.iload_n 2, 1) := by decide +kernel
theorem dX1_copyAround_23 : decode cX1_copyAround 23 = .ok (.iload 4, 2) := by decide +kernel
theorem dX1_copyAround_25 : decode cX1_copyAround 25 = .ok (.invokestatic 54, 3) := by decide +kernel
theorem dX1_copyAround_28 : decode cX1_copyAround 28 = .ok (.invokestatic 60, 3) := by decide +kernel
theorem dX1_copyAround_31 : decode cX1_copyAround 31 = .ok (.istore 5, 2) := by decide +kernel
theorem dX1_copyAround_33 : decode cX1_copyAround 33 = .ok (.aload_n 1, 1) := by decide +kernel
theorem dX1_copyAround_34 : decode cX1_copyAround 34 = .ok (.getfield 9, 3) := by decide +kernel
theorem dX1_copyAround_37 : decode cX1_copyAround 37 = .ok (.iconst 0, 1) := by decide +kernel
theorem dX1_copyAround_38 : decode cX1_copyAround 38 = .ok (.aload_n 0, 1) := by decide +kernel
theorem dX1_copyAround_39 : decode cX1_copyAround 39 = .ok (.getfield 9, 3) := by decide +kernel
theorem dX1_copyAround_42 : decode cX1_copyAround 42 = .ok (.iconst 0, 1) := by decide +kernel
theorem dX1_copyAround_43 : decode cX1_copyAround 43 = .ok (.iload 5, 2) := by decide +kernel
theorem dX1_copyAround_45 : decode cX1_copyAround 45 = .ok (.invokestatic 63, 3) := by decide +kernel
theorem dX1_copyAround_48 : decode cX1_copyAround 48 = .ok (.aload_n 1, 1) := by decide +kernel
theorem dX1_copyAround_49 : decode cX1_copyAround 49 = .ok (.getfield 9, 3) := by decide +kernel
theorem dX1_copyAround_52 : decode cX1_copyAround 52 = .ok (.iload 4, 2) := by decide +kernel
theorem dX1_copyAround_54 : decode cX1_copyAround 54 = .ok (.aload_n 0, 1) := by decide +kernel
theorem dX1_copyAround_55 : decode cX1_copyAround 55 = .ok (.getfield 9, 3) := by decide +kernel
theorem dX1_copyAround_58 : decode cX1_copyAround 58 = .ok (.iload 4, 2) := by decide +kernel
theorem dX1_copyAround_60 : decode cX1_copyAround 60 = .ok (.sipush 8192, 3) := by decide +kernel
theorem dX1_copyAround_63 : decode cX1_copyAround 63 = .ok (.iload 4, 2) := by decide +kernel
theorem dX1_copyAround_65 : decode cX1_copyAround 65 = .ok (.isub, 1) := by decide +kernel
theorem dX1_copyAround_66 : decode cX1_copyAround 66 = .ok (.invokestatic 63, 3) := by decide +kernel
theorem dX1_copyAround_69 : decode cX1_copyAround 69 = .ok (.aload_n 0, 1) := by decide +kernel
theorem dX1_copyAround_70 : decode cX1_copyAround 70 = .ok (.aload_n 1, 1) := by decide +kernel
theorem dX1_copyAround_71 : decode cX1_copyAround 71 = .ok (.getfield 15, 3) := by decide +kernel
theorem dX1_copyAround_74 : decode cX1_copyAround 74 = .ok (.putfield 15, 3) := by decide +kernel
theorem dX1_copyAround_77 : decode cX1_copyAround 77 = .ok (.aload_n 1, 1) := by decide +kernel
theorem dX1_copyAround_78 : decode cX1_copyAround 78 = .ok (.getfield 19, 3) := by decide +kernel
theorem dX1_copyAround_81 : decode cX1_copyAround 81 = .ok (.iconst 0, 1) := by decide +kernel
theorem dX1_copyAround_82 : decode cX1_copyAround 82 = .ok (.aload_n 0, 1) := by decide +kernel
theorem dX1_copyAround_83 : decode cX1_copyAround 83 = .ok (.getfield 19, 3) := by decide +kernel
theorem dX1_copyAround_86 : decode cX1_copyAround 86 = .ok (.iconst 0, 1) := by decide +kernel
theorem dX1_copyAround_87 : decode cX1_copyAround 87 = .ok (.bipush 16, 2) := by decide +kernel
theorem dX1_copyAround_89 : decode cX1_copyAround 89 = .ok (.invokestatic 63, 3) := by decide +kernel
theorem dX1_copyAround_92 : decode cX1_copyAround 92 = .ok (.aload_n 1, 1) := by decide +kernel
theorem dX1_copyAround_93 : decode cX1_copyAround 93 = .ok (.getfield 23, 3) := by decide +kernel
theorem dX1_copyAround_96 : decode cX1_copyAround 96 = .ok (.iconst 0, 1) := by decide +kernel
theorem dX1_copyAround_97 : decode cX1_copyAround 97 = .ok (.aload_n 0, 1) := by decide +kernel
theorem dX1_copyAround_98 : decode cX1_copyAround 98 = .ok (.getfield 23, 3) := by decide +kernel
theorem dX1_copyAround_101 : decode cX1_copyAround 101 = .ok (.iconst 0, 1) := by decide +kernel
theorem dX1_copyAround_102 : decode cX1_copyAround 102 = .ok (.bipush 16, 2) := by decide +kernel
theorem dX1_copyAround_104 : decode cX1_copyAround 104 = .ok (.invokestatic 63, 3) := by decide +kernel
theorem dX1_copyAround_107 : decode cX1_copyAround 107 = .ok (.aload_n 0, 1) := by decide +kernel
theorem dX1_copyAround_108 : decode cX1_copyAround 108 = .ok (.aload_n 1, 1) := by decide +kernel
theorem dX1_copyAround_109 : decode cX1_copyAround 109 = .ok (.getfield 26, 3) := by decide +kernel
theorem dX1_copyAround_112 : decode cX1_copyAround 112 = .ok (.putfield 26, 3) := by decide +kernel
theorem dX1_copyAround_115 : decode cX1_copyAround 115 = .ok (.aload_n 0, 1) := by decide +kernel
theorem dX1_copyAround_116 : decode cX1_copyAround 116 = .ok (.aload_n 1, 1) := by decide +kernel
theorem dX1_copyAround_117 : decode cX1_copyAround 117 = .ok (.getfield 29, 3) := by decide +kernel
theorem dX1_copyAround_120 : decode cX1_copyAround 120 = .ok (.putfield 29, 3) := by decide +kernel
theorem dX1_copyAround_123 : decode cX1_copyAround 123 = .ok (.return_, 1) := by decide +kernel
theorem dX1_blockEnd_0 : decode cX1_blockEnd 0 = .ok (.aload_n 0, 1) := by decide +kernel
theorem dX1_blockEnd_1 : decode cX1_blockEnd 1 = .ok (.getfield 19, 3) := by decide +kernel
theorem dX1_blockEnd_4 : decode cX1_blockEnd 4 = .ok (.iload_n 1, 1) := by decide +kernel
theorem dX1_blockEnd_5 : decode cX1_blockEnd 5 = .ok (.iaload, 1) := by decide +kernel
theorem dX1_blockEnd_6 : decode cX1_blockEnd 6 = .ok (.aload_n 0, 1) := by decide +kernel
theorem dX1_blockEnd_7 : decode cX1_blockEnd 7 = .ok (.getfield 23, 3) := by decide +kernel
theorem dX1_blockEnd_10 : decode cX1_blockEnd 10 = .ok (.iload_n 1, 1) := by decide +kernel
theorem dX1_blockEnd_11 : decode cX1_blockEnd 11 = .ok (.iaload, 1) := by decide +kernel
theorem dX1_blockEnd_12 : decode cX1_blockEnd 12 = .ok (.iadd, 1) := by decide +kernel
theorem dX1_blockEnd_13 : decode cX1_blockEnd 13 = .ok (.ireturn, 1) := by decide +kernel
set_option maxRecDepth 20000 in
theorem ggX1_addBlock_X1_gapFor : GoodIn wsX1_addBlock wsX1_gapFor := goodIn_r _ [12, 1, 13, 14, 15, 16, 11, 17, 18, 31, 32, 33, 34, 35, 36] (by decide +kernel) (by decide +kernel)
set_option maxRecDepth 20000 in
theorem gX1_addBlock_X1_gapFor : GoodIn wsX1_addBlock (wsV RX1 69 RX1 yX1_gapFor wsX1_gapFor) := goodIn_app (goodIn_of _ (by decide +kernel)) ggX1_addBlock_X1_gapFor
set_option maxRecDepth 20000 in
theorem ggX1_addBlock_X1_blockEnd : GoodIn wsX1_addBlock wsX1_blockEnd := goodIn_r _ [17, 13, 18, 31, 32, 33, 34, 35, 36] (by decide +kernel) (by decide +kernel)
set_option maxRecDepth 20000 in
theorem gX1_addBlock_X1_blockEnd : GoodIn wsX1_addBlock (wsV RX1 72 RX1 yX1_blockEnd wsX1_blockEnd) := goodIn_app (goodIn_of _ (by decide +kernel)) ggX1_addBlock_X1_blockEnd
set_option maxRecDepth 20000 in
theorem ggX1_addBlock_X1_insertBlock : GoodIn wsX1_addBlock wsX1_insertBlock := goodIn_r _ [22, 1, 13, 18, 31, 32, 33, 34, 35, 36] (by decide +kernel) (by decide +kernel)
set_option maxRecDepth 20000 in
theorem gX1_addBlock_X1_insertBlock : GoodIn wsX1_addBlock (wsV RX1 75 RX1 yX1_insertBlock wsX1_insertBlock) := goodIn_app (goodIn_of _ (by decide +kernel)) ggX1_addBlock_X1_insertBlock
set_option maxRecDepth 20000 in
theorem ggX1_addBlock_X1_roundUp : GoodIn wsX1_addBlock wsX1_roundUp := goodIn_r _ [25] (by decide +kernel) (by decide +kernel)
set_option maxRecDepth 20000 in
theorem gX1_addBlock_X1_roundUp : GoodIn wsX1_addBlock (va_wsS RX1 79 yX1_roundUp wsX1_roundUp) := goodIn_app (goodIn_of _ (by decide +kernel)) ggX1_addBlock_X1_roundUp
set_option maxRecDepth 20000 in
theorem ggX1_addBlock_X1_setSize : GoodIn wsX1_addBlock wsX1_setSize := goodIn_r _ [29, 2, 30, 31, 32, 33, 34, 35, 36] (by decide +kernel) (by decide +kernel)
set_option maxRecDepth 20000 in
theorem gX1_addBlock_X1_setSize : GoodIn wsX1_addBlock (wsV RX1 40 RX1 yX1_setSize wsX1_setSize) := goodIn_app (goodIn_of _ (by decide +kernel)) ggX1_addBlock_X1_setSize
theorem dX1_addBlock_0 : decode cX1_addBlock 0 = .ok (.aload_n 0, 1) := by decide +kernel
theorem dX1_addBlock_1 : decode cX1_addBlock 1 = .ok (.getfield 26, 3) := by decide +kernel
theorem dX1_addBlock_4 : decode cX1_addBlock 4 = .ok (.bipush 16, 2) := by decide +kernel
theorem dX1_addBlock_6 : decode cX1_addBlock 6 = .ok (.if_icmp .lt 5, 3) := by decide +kernel
theorem dX1_addBlock_9 : decode cX1_addBlock 9 = .ok (.iconst 0, 1) := by decide +kernel
theorem dX1_addBlock_10 : decode cX1_addBlock 10 = .ok (.ireturn, 1) := by decide +kernel
theorem dX1_addBlock_11 : decode cX1_addBlock 11 = .ok (.aload_n 0, 1) := by decide +kernel
theorem dX1_addBlock_12 : decode cX1_addBlock 12 = .ok (.getfield 26, 3) := by decide +kernel
theorem dX1_addBlock_15 : decode cX1_addBlock 15 = .ok (.ifCond .ne 10, 3) := by decide +kernel
theorem dX1_addBlock_18 : decode cX1_addBlock 18 = .ok (.aload_n 0, 1) := by decide +kernel
theorem dX1_addBlock_19 : decode cX1_addBlock 19 = .ok (.getfield 15, 3) := by decide +kernel
theorem dX1_addBlock_22 : decode cX1_addBlock 22 = .ok (.goto 7, 3) := by decide +kernel
theorem dX1_addBlock_25 : decode cX1_addBlock 25 = .ok (.aload_n 0, 1) := by decide +kernel
theorem dX1_addBlock_26 : decode cX1_addBlock 26 = .ok (.getfield 29, 3) := by decide +kernel
theorem dX1_addBlock_29 : decode cX1_addBlock 29 = .ok (.istore_n 2, 1) := by decide +kernel
theorem dX1_addBlock_30 : decode cX1_addBlock 30 = .ok (.aload_n 0, 1) := by decide +kernel
theorem dX1_addBlock_31 : decode cX1_addBlock 31 = .ok (.iload_n 1, 1) := by decide +kernel
theorem dX1_addBlock_32 : decode cX1_addBlock 32 = .ok (.iload_n 2, 1) := by decide +kernel
theorem dX1_addBlock_33 : decode cX1_addBlock 33 = .ok (.invokevirtual 69, 3) := by decide +kernel
theorem dX1_addBlock_36 : decode cX1_addBlock 36 = .ok (.istore_n 3, 1) := by decide +kernel
theorem dX1_addBlock_37 : decode cX1_addBlock 37 = .ok (.iload_n 3, 1) := by decide +kernel
theorem dX1_addBlock_38 : decode cX1_addBlock 38 = .ok (.ifCond .ne 7, 3) := by decide +kernel
theorem dX1_addBlock_41 : decode cX1_addBlock 41 = .ok (.iload_n 2, 1) := by decide +kernel
theorem dX1_addBlock_42 : decode cX1_addBlock 42 = .ok (.goto 10, 3) := by decide +kernel
theorem dX1_addBlock_45 : decode cX1_addBlock 45 = .ok (.aload_n 0, 1) := by decide +kernel
theorem dX1_addBlock_46 : decode cX1_addBlock 46 = .ok (.iload_n 3, 1) := by decide +kernel
theorem dX1_addBlock_47 : decode cX1_addBlock 47 = .ok (.iconst 1, 1) := by decide +kernel
theorem dX1_addBlock_48 : decode cX1_addBlock 48 = .ok (.isub, 1) := by decide +kernel
theorem dX1_addBlock_49 : decode cX1_addBlock 49 = .ok (.invokevirtual 72, 3) := by decide +kernel
theorem dX1_addBlock_52 : decode cX1_addBlock 52 = .ok (.istore 4, 2) := by decide +kernel
theorem dX1_addBlock_54 : decode cX1_addBlock 54 = .ok (.iload_n 1, 1) := by decide +kernel
theorem dX1_addBlock_55 : decode cX1_addBlock 55 = .ok (.sipush 8192, 3) := by decide +kernel
theorem dX1_addBlock_58 : decode cX1_addBlock 58 = .ok (.iload 4, 2) := by decide +kernel
theorem dX1_addBlock_60 : decode cX1_addBlock 60 = .ok (.isub, 1) := by decide +kernel
theorem dX1_addBlock_61 : decode cX1_addBlock 61 = .ok (.if_icmp .le 5, 3) := by decide +kernel
theorem dX1_addBlock_64 : decode cX1_addBlock 64 = .ok (.iconst 0, 1) := by decide +kernel
theorem dX1_addBlock_65 : decode cX1_addBlock 65 = .ok (.ireturn, 1) := by decide +kernel
theorem dX1_addBlock_66 : decode cX1_addBlock 66 = .ok (.aload_n 0, 1) := by decide +kernel
theorem dX1_addBlock_67 : decode cX1_addBlock 67 = .ok (.iload_n 3, 1) := by decide +kernel
theorem dX1_addBlock_68 : decode cX1_addBlock 68 = .ok (.iload 4, 2) := by decide +kernel
theorem dX1_addBlock_70 : decode cX1_addBlock 70 = .ok (.iload_n 1, 1) := by decide +kernel
theorem dX1_addBlock_71 : decode cX1_addBlock 71 = .ok (.invokevirtual 75, 3) := by decide +kernel
theorem dX1_addBlock_74 : decode cX1_addBlock 74 = .ok (.aload_n 0, 1) := by decide +kernel
theorem dX1_addBlock_75 : decode cX1_addBlock 75 = .ok (.iload_n 2, 1) := by decide +kernel
theorem dX1_addBlock_76 : decode cX1_addBlock 76 = .ok (.putfield 29, 3) := by decide +kernel
theorem dX1_addBlock_79 : decode cX1_addBlock 79 = .ok (.aload_n 0, 1) := by decide +kernel
theorem dX1_addBlock_80 : decode cX1_addBlock 80 = .ok (.aload_n 0, 1) := by decide +kernel
theorem dX1_addBlock_81 : decode cX1_addBlock 81 = .ok (.getfield 15, 3) := by decide +kernel
theorem dX1_addBlock_84 : decode cX1_addBlock 84 = .ok (.aload_n 0, 1) := by decide +kernel
theorem dX1_addBlock_85 : decode cX1_addBlock 85 = .ok (.aload_n 0, 1) := by decide +kernel
theorem dX1_addBlock_86 : decode cX1_addBlock 86 = .ok (.getfield 26, 3) := by decide +kernel
theorem dX1_addBlock_89 : decode cX1_addBlock 89 = .ok (.iconst 1, 1) := by decide +kernel
theorem dX1_addBlock_90 : decode cX1_addBlock 90 = .ok (.isub, 1) := by decide +kernel
theorem dX1_addBlock_91 : decode cX1_addBlock 91 = .ok (.invokevirtual 72, 3) := by decide +kernel
theorem dX1_addBlock_94 : decode cX1_addBlock 94 = .ok (.invokestatic 79, 3) := by decide +kernel
theorem dX1_addBlock_97 : decode cX1_addBlock 97 = .ok (.invokestatic 60, 3) := by decide +kernel
theorem dX1_addBlock_100 : decode cX1_addBlock 100 = .ok (.invokevirtual 40, 3) := by decide +kernel
theorem dX1_addBlock_103 : decode cX1_addBlock 103 = .ok (.iload 4, 2) := by decide +kernel
theorem dX1_addBlock_105 : decode cX1_addBlock 105 = .ok (.ireturn, 1) := by decide +kernel
set_option maxRecDepth 20000 in
theorem ggX1_gapFor_X1_blockEnd : GoodIn wsX1_gapFor wsX1_blockEnd := goodIn_r _ [7, 2, 8, 9, 10, 11, 12, 13, 14] (by decide +kernel) (by decide +kernel)
set_option maxRecDepth 20000 in
theorem gX1_gapFor_X1_blockEnd : GoodIn wsX1_gapFor (wsV RX1 72 RX1 yX1_blockEnd wsX1_blockEnd) := goodIn_app (goodIn_of _ (by decide +kernel)) ggX1_gapFor_X1_blockEnd
theorem dX1_gapFor_0 : decode cX1_gapFor 0 = .ok (.iload_n 2, 1) := by decide +kernel
theorem dX1_gapFor_1 : decode cX1_gapFor 1 = .ok (.istore_n 3, 1) := by decide +kernel
theorem dX1_gapFor_2 : decode cX1_gapFor 2 = .ok (.iconst 0, 1) := by decide +kernel
theorem dX1_gapFor_3 : decode cX1_gapFor 3 = .ok (.istore 4, 2) := by decide +kernel
theorem dX1_gapFor_5 : decode cX1_gapFor 5 = .ok (.iload 4, 2) := by decide +kernel
theorem dX1_gapFor_7 : decode cX1_gapFor 7 = .ok (.aload_n 0, 1) := by decide +kernel
theorem dX1_gapFor_8 : decode cX1_gapFor 8 = .ok (.getfield 26, 3) := by decide +kernel
theorem dX1_gapFor_11 : decode cX1_gapFor 11 = .ok (.if_icmp .ge 32, 3) := by decide +kernel
theorem dX1_gapFor_14 : decode cX1_gapFor 14 = .ok (.aload_n 0, 1) := by decide +kernel
theorem dX1_gapFor_15 : decode cX1_gapFor 15 = .ok (.getfield 19, 3) := by decide +kernel
theorem dX1_gapFor_18 : decode cX1_gapFor 18 = .ok (.iload 4, 2) := by decide +kernel
theorem dX1_gapFor_20 : decode cX1_gapFor 20 = .ok (.iaload, 1) := by decide +kernel
theorem dX1_gapFor_21 : decode cX1_gapFor 21 = .ok (.iload_n 3, 1) := by decide +kernel
theorem dX1_gapFor_22 : decode cX1_gapFor 22 = .ok (.isub, 1) := by decide +kernel
theorem dX1_gapFor_23 : decode cX1_gapFor 23 = .ok (.iload_n 1, 1) := by decide +kernel
theorem dX1_gapFor_24 : decode cX1_gapFor 24 = .ok (.if_icmp .lt 6, 3) := by decide +kernel
theorem dX1_gapFor_27 : decode cX1_gapFor 27 = .ok (.iload 4, 2) := by decide +kernel
theorem dX1_gapFor_29 : decode cX1_gapFor 29 = .ok (.ireturn, 1) := by decide +kernel
theorem dX1_gapFor_30 : decode cX1_gapFor 30 = .ok (.aload_n 0, 1) := by decide +kernel
theorem dX1_gapFor_31 : decode cX1_gapFor 31 = .ok (.iload 4, 2) := by decide +kernel
theorem dX1_gapFor_33 : decode cX1_gapFor 33 = .ok (.invokevirtual 72, 3) := by decide +kernel
theorem dX1_gapFor_36 : decode cX1_gapFor 36 = .ok (.istore_n 3, 1) := by decide +kernel
theorem dX1_gapFor_37 : decode cX1_gapFor 37 = .ok (.iinc 4 1, 3) := by decide +kernel
theorem dX1_gapFor_40 : decode cX1_gapFor 40 = .ok (.goto (-35), 3) := by decide +kernel
theorem dX1_gapFor_43 : decode cX1_gapFor 43 = .ok (.aload_n 0, 1) := by decide +kernel
theorem dX1_gapFor_44 : decode cX1_gapFor 44 = .ok (.getfield 26, 3) := by decide +kernel
theorem dX1_gapFor_47 : decode cX1_gapFor 47 = .ok (.ireturn, 1) := by decide +kernel
theorem dX1_insertBlock_0 : decode cX1_insertBlock 0 = .ok (.aload_n 0, 1) := by decide +kernel
theorem dX1_insertBlock_1 : decode cX1_insertBlock 1 = .ok (.getfield 26, 3) := by decide +kernel
theorem dX1_insertBlock_4 : decode cX1_insertBlock 4 = .ok (.istore 4, 2) := by decide +kernel
theorem dX1_insertBlock_6 : decode cX1_insertBlock 6 = .ok (.iload 4, 2) := by decide +kernel
theorem dX1_insertBlock_8 : decode cX1_insertBlock 8 = .ok (.iload_n 1, 1) := by decide +kernel
theorem dX1_insertBlock_9 : decode cX1_insertBlock 9 = .ok (.if_icmp .le 41, 3) := by decide +kernel
theorem dX1_insertBlock_12 : decode cX1_insertBlock 12 = .ok (.aload_n 0, 1) := by decide +kernel
theorem dX1_insertBlock_13 : decode cX1_insertBlock 13 = .ok (.getfield 19, 3) := by decide +kernel
theorem dX1_insertBlock_16 : decode cX1_insertBlock 16 = .ok (.iload 4, 2) := by decide +kernel
theorem dX1_insertBlock_18 : decode cX1_insertBlock 18 = .ok (.aload_n 0, 1) := by decide +kernel
theorem dX1_insertBlock_19 : decode cX1_insertBlock 19 = .ok (.getfield 19, 3) := by decide +kernel
theorem dX1_insertBlock_22 : decode cX1_insertBlock 22 = .ok (.iload 4, 2) := by decide +kernel
theorem dX1_insertBlock_24 : decode cX1_insertBlock 24 = .ok (.iconst 1, 1) := by decide +kernel
theorem dX1_insertBlock_25 : decode cX1_insertBlock 25 = .ok (.isub, 1) := by decide +kernel
theorem dX1_insertBlock_26 : decode cX1_insertBlock 26 = .ok (.iaload, 1) := by decide +kernel
theorem dX1_insertBlock_27 : decode cX1_insertBlock 27 = .ok (.iastore, 1) := by decide +kernel
theorem dX1_insertBlock_28 : decode cX1_insertBlock 28 = .ok (.aload_n 0, 1) := by decide +kernel
theorem dX1_insertBlock_29 : decode cX1_insertBlock 29 = .ok (.getfield 23, 3) := by decide +kernel
theorem dX1_insertBlock_32 : decode cX1_insertBlock 32 = .ok (.iload 4, 2) := by decide +kernel
theorem dX1_insertBlock_34 : decode cX1_insertBlock 34 = .ok (.aload_n 0, 1) := by decide +kernel
theorem dX1_insertBlock_35 : decode cX1_insertBlock 35 = .ok (.getfield 23, 3) := by decide +kernel
theorem dX1_insertBlock_38 : decode cX1_insertBlock 38 = .ok (.iload 4, 2) := by decide +kernel
theorem dX1_insertBlock_40 : decode cX1_insertBlock 40 = .ok (.iconst 1, 1) := by decide +kernel
theorem dX1_insertBlock_41 : decode cX1_insertBlock 41 = .ok (.isub, 1) := by decide +kernel
theorem dX1_insertBlock_42 : decode cX1_insertBlock 42 = .ok (.iaload, 1) := by decide +kernel
theorem dX1_insertBlock_43 : decode cX1_insertBlock 43 = .ok (.iastore, 1) := by decide +kernel
theorem dX1_insertBlock_44 : decode cX1_insertBlock 44 = .ok (.iinc 4 (-1), 3) := by decide +kernel
theorem dX1_insertBlock_47 : decode cX1_insertBlock 47 = .ok (.goto (-41), 3) := by decide +kernel
theorem dX1_insertBlock_50 : decode cX1_insertBlock 50 = .ok (.aload_n 0, 1) := by decide +kernel
theorem dX1_insertBlock_51 : decode cX1_insertBlock 51 = .ok (.getfield 19, 3) := by decide +kernel
theorem dX1_insertBlock_54 : decode cX1_insertBlock 54 = .ok (.iload_n 1, 1) := by decide +kernel
theorem dX1_insertBlock_55 : decode cX1_insertBlock 55 = .ok (.iload_n 2, 1) := by decide +kernel
theorem dX1_insertBlock_56 : decode cX1_insertBlock 56 = .ok (.iastore, 1) := by decide +kernel
theorem dX1_insertBlock_57 : decode cX1_insertBlock 57 = .ok (.aload_n 0, 1) := by decide +kernel
theorem dX1_insertBlock_58 : decode cX1_insertBlock 58 = .ok (.getfield 23, 3) := by decide +kernel
theorem dX1_insertBlock_61 : decode cX1_insertBlock 61 = .ok (.iload_n 1, 1) := by decide +kernel
theorem dX1_insertBlock_62 : decode cX1_insertBlock 62 = .ok (.iload_n 3, 1) := by decide +kernel
theorem dX1_insertBlock_63 : decode cX1_insertBlock 63 = .ok (.iastore, 1) := by decide +kernel
theorem dX1_insertBlock_64 : decode cX1_insertBlock 64 = .ok (.aload_n 0, 1) := by decide +kernel
theorem dX1_insertBlock_65 : decode cX1_insertBlock 65 = .ok (.dup, 1) := by decide +kernel
theorem dX1_insertBlock_66 : decode cX1_insertBlock 66 = .ok (.getfield 26, 3) := by decide +kernel
theorem dX1_insertBlock_69 : decode cX1_insertBlock 69 = .ok (.iconst 1, 1) := by decide +kernel
theorem dX1_insertBlock_70 : decode cX1_insertBlock 70 = .ok (.iadd, 1) := by decide +kernel
theorem dX1_insertBlock_71 : decode cX1_insertBlock 71 = .ok (.putfield 26, 3) := by decide +kernel
theorem dX1_insertBlock_74 : decode cX1_insertBlock 74 = .ok (.return_, 1) := by decide +kernel
theorem dX1_blockIndexAt_0 : decode cX1_blockIndexAt 0 = .ok (.iconst 0, 1) := by decide +kernel
theorem dX1_blockIndexAt_1 : decode cX1_blockIndexAt 1 = .ok (.istore_n 2, 1) := by decide +kernel
theorem dX1_blockIndexAt_2 : decode cX1_blockIndexAt 2 = .ok (.iload_n 2, 1) := by decide +kernel
theorem dX1_blockIndexAt_3 : decode cX1_blockIndexAt 3 = .ok (.aload_n 0, 1) := by decide +kernel
theorem dX1_blockIndexAt_4 : decode cX1_blockIndexAt 4 = .ok (.getfield 26, 3) := by decide +kernel
theorem dX1_blockIndexAt_7 : decode cX1_blockIndexAt 7 = .ok (.if_icmp .ge 21, 3) := by decide +kernel
theorem dX1_blockIndexAt_10 : decode cX1_blockIndexAt 10 = .ok (.aload_n 0, 1) := by decide +kernel
theorem dX1_blockIndexAt_11 : decode cX1_blockIndexAt 11 = .ok (.getfield 19, 3) := by decide +kernel
theorem dX1_blockIndexAt_14 : decode cX1_blockIndexAt 14 = .ok (.iload_n 2, 1) := by decide +kernel
theorem dX1_blockIndexAt_15 : decode cX1_blockIndexAt 15 = .ok (.iaload, 1) := by decide +kernel
theorem dX1_blockIndexAt_16 : decode cX1_blockIndexAt 16 = .ok (.iload_n 1, 1) := by decide +kernel
theorem dX1_blockIndexAt_17 : decode cX1_blockIndexAt 17 = .ok (.if_icmp .ne 5, 3) := by decide +kernel
theorem dX1_blockIndexAt_20 : decode cX1_blockIndexAt 20 = .ok (.iload_n 2, 1) := by decide +kernel
theorem dX1_blockIndexAt_21 : decode cX1_blockIndexAt 21 = .ok (.ireturn, 1) := by decide +kernel
theorem dX1_blockIndexAt_22 : decode cX1_blockIndexAt 22 = .ok (.iinc 2 1, 3) := by decide +kernel
theorem dX1_blockIndexAt_25 : decode cX1_blockIndexAt 25 = .ok (.goto (-23), 3) := by decide +kernel
theorem dX1_blockIndexAt_28 : decode cX1_blockIndexAt 28 = .ok (.iconst (-1), 1) := by decide +kernel
theorem dX1_blockIndexAt_29 : decode cX1_blockIndexAt 29 = .ok (.ireturn, 1) := by decide +kernel
set_option maxRecDepth 20000 in
theorem ggX1_removeBlock_X1_setSize : GoodIn wsX1_removeBlock wsX1_setSize := goodIn_r _ [9, 10, 11, 12, 13, 14, 15, 16, 17] (by decide +kernel) (by decide +kernel)
set_option maxRecDepth 20000 in
theorem gX1_removeBlock_X1_setSize : GoodIn wsX1_removeBlock (wsV RX1 40 RX1 yX1_setSize wsX1_setSize) := goodIn_app (goodIn_of _ (by decide +kernel)) ggX1_removeBlock_X1_setSize
theorem dX1_removeBlock_0 : decode cX1_removeBlock 0 = .ok (.aload_n 0, 1) := by decide +kernel
theorem dX1_removeBlock_1 : decode cX1_removeBlock 1 = .ok (.getfield 23, 3) := by decide +kernel
theorem dX1_removeBlock_4 : decode cX1_removeBlock 4 = .ok (.iload_n 1, 1) := by decide +kernel
theorem dX1_removeBlock_5 : decode cX1_removeBlock 5 = .ok (.iaload, 1) := by decide +kernel
theorem dX1_removeBlock_6 : decode cX1_removeBlock 6 = .ok (.istore_n 2, 1) := by decide +kernel
theorem dX1_removeBlock_7 : decode cX1_removeBlock 7 = .ok (.aload_n 0, 1) := by decide +kernel
theorem dX1_removeBlock_8 : decode cX1_removeBlock 8 = .ok (.dup, 1) := by decide +kernel
theorem dX1_removeBlock_9 : decode cX1_removeBlock 9 = .ok (.getfield 26, 3) := by decide +kernel
theorem dX1_removeBlock_12 : decode cX1_removeBlock 12 = .ok (.iconst 1, 1) := by decide +kernel
theorem dX1_removeBlock_13 : decode cX1_removeBlock 13 = .ok (.isub, 1) := by decide +kernel
theorem dX1_removeBlock_14 : decode cX1_removeBlock 14 = .ok (.putfield 26, 3) := by decide +kernel
theorem dX1_removeBlock_17 : decode cX1_removeBlock 17 = .ok (.iload_n 1, 1) := by decide +kernel
theorem dX1_removeBlock_18 : decode cX1_removeBlock 18 = .ok (.istore_n 3, 1) := by decide +kernel
theorem dX1_removeBlock_19 : decode cX1_removeBlock 19 = .ok (.iload_n 3, 1) := by decide +kernel
theorem dX1_removeBlock_20 : decode cX1_removeBlock 20 = .ok (.aload_n 0, 1) := by decide +kernel
theorem dX1_removeBlock_21 : decode cX1_removeBlock 21 = .ok (.getfield 26, 3) := by decide +kernel
theorem dX1_removeBlock_24 : decode cX1_removeBlock 24 = .ok (.if_icmp .ge 37, 3) := by decide +kernel
theorem dX1_removeBlock_27 : decode cX1_removeBlock 27 = .ok (.aload_n 0, 1) := by decide +kernel
theorem dX1_removeBlock_28 : decode cX1_removeBlock 28 = .ok (.getfield 19, 3) := by decide +kernel
theorem dX1_removeBlock_31 : decode cX1_removeBlock 31 = .ok (.iload_n 3, 1) := by decide +kernel
theorem dX1_removeBlock_32 : decode cX1_removeBlock 32 = .ok (.aload_n 0, 1) := by decide +kernel
theorem dX1_removeBlock_33 : decode cX1_removeBlock 33 = .ok (.getfield 19, 3) := by decide +kernel
theorem dX1_removeBlock_36 : decode cX1_removeBlock 36 = .ok (.iload_n 3, 1) := by decide +kernel
theorem dX1_removeBlock_37 : decode cX1_removeBlock 37 = .ok (.iconst 1, 1) := by decide +kernel
theorem dX1_removeBlock_38 : decode cX1_removeBlock 38 = .ok (.iadd, 1) := by decide +kernel
theorem dX1_removeBlock_39 : decode cX1_removeBlock 39 = .ok (.iaload, 1) := by decide +kernel
theorem dX1_removeBlock_40 : decode cX1_removeBlock 40 = .ok (.iastore, 1) := by decide +kernel
theorem dX1_removeBlock_41 : decode cX1_removeBlock 41 = .ok (.aload_n 0, 1) := by decide +kernel
theorem dX1_removeBlock_42 : decode cX1_removeBlock 42 = .ok (.getfield 23, 3) := by decide +kernel
theorem dX1_removeBlock_45 : decode cX1_removeBlock 45 = .ok (.iload_n 3, 1) := by decide +kernel
theorem dX1_removeBlock_46 : decode cX1_removeBlock 46 = .ok (.aload_n 0, 1) := by decide +kernel
theorem dX1_removeBlock_47 : decode cX1_removeBlock 47 = .ok (.getfield 23, 3) := by decide +kernel
theorem dX1_removeBlock_50 : decode cX1_removeBlock 50 = .ok (.iload_n 3, 1) := by decide +kernel
theorem dX1_removeBlock_51 : decode cX1_removeBlock 51 = .ok (.iconst 1, 1) := by decide +kernel
theorem dX1_removeBlock_52 : decode cX1_removeBlock 52 = .ok (.iadd, 1) := by decide +kernel
theorem dX1_removeBlock_53 : decode cX1_removeBlock 53 = .ok (.iaload, 1) := by decide +kernel
theorem dX1_removeBlock_54 : decode cX1_removeBlock 54 = .ok (.iastore, 1) := by decide +kernel
theorem dX1_removeBlock_55 : decode cX1_removeBlock 55 = .ok (.iinc 3 1, 3) := by decide +kernel
theorem dX1_removeBlock_58 : decode cX1_removeBlock 58 = .ok (.goto (-39), 3) := by decide +kernel
theorem dX1_removeBlock_61 : decode cX1_removeBlock 61 = .ok (.aload_n 0, 1) := by decide +kernel
theorem dX1_removeBlock_62 : decode cX1_removeBlock 62 = .ok (.getfield 26, 3) := by decide +kernel
theorem dX1_removeBlock_65 : decode cX1_removeBlock 65 = .ok (.ifCond .ne 16, 3) := by decide +kernel
theorem dX1_removeBlock_68 : decode cX1_removeBlock 68 = .ok (.aload_n 0, 1) := by decide +kernel
theorem dX1_removeBlock_69 : decode cX1_removeBlock 69 = .ok (.aload_n 0, 1) := by decide +kernel
theorem dX1_removeBlock_70 : decode cX1_removeBlock 70 = .ok (.getfield 29, 3) := by decide +kernel
theorem dX1_removeBlock_73 : decode cX1_removeBlock 73 = .ok (.invokevirtual 40, 3) := by decide +kernel
theorem dX1_removeBlock_76 : decode cX1_removeBlock 76 = .ok (.aload_n 0, 1) := by decide +kernel
theorem dX1_removeBlock_77 : decode cX1_removeBlock 77 = .ok (.iconst 0, 1) := by decide +kernel
theorem dX1_removeBlock_78 : decode cX1_removeBlock 78 = .ok (.putfield 29, 3) := by decide +kernel
theorem dX1_removeBlock_81 : decode cX1_removeBlock 81 = .ok (.iload_n 2, 1) := by decide +kernel
theorem dX1_removeBlock_82 : decode cX1_removeBlock 82 = .ok (.ireturn, 1) := by decide +kernel
theorem dX1_roundUp_0 : decode cX1_roundUp 0 = .ok (.iload_n 0, 1) := by decide +kernel
theorem dX1_roundUp_1 : decode cX1_roundUp 1 = .ok (.sipush 256, 3) := by decide +kernel
theorem dX1_roundUp_4 : decode cX1_roundUp 4 = .ok (.iadd, 1) := by decide +kernel
theorem dX1_roundUp_5 : decode cX1_roundUp 5 = .ok (.iconst 1, 1) := by decide +kernel
theorem dX1_roundUp_6 : decode cX1_roundUp 6 = .ok (.isub, 1) := by decide +kernel
theorem dX1_roundUp_7 : decode cX1_roundUp 7 = .ok (.sipush 256, 3) := by decide +kernel
theorem dX1_roundUp_10 : decode cX1_roundUp 10 = .ok (.idiv, 1) := by decide +kernel
theorem dX1_roundUp_11 : decode cX1_roundUp 11 = .ok (.sipush 256, 3) := by decide +kernel
theorem dX1_roundUp_14 : decode cX1_roundUp 14 = .ok (.imul, 1) := by decide +kernel
theorem dX1_roundUp_15 : decode cX1_roundUp 15 = .ok (.ireturn, 1) := by decide +kernel
theorem dX2_init_0 : decode cX2_init 0 = .ok (.aload_n 0, 1) := by decide +kernel
theorem dX2_init_1 : decode cX2_init 1 = .ok (.invokespecial 3, 3) := by decide +kernel
theorem dX2_init_4 : decode cX2_init 4 = .ok (.aload_n 0, 1) := by decide +kernel
theorem dX2_init_5 : decode cX2_init 5 = .ok (.sipush 3000, 3) := by decide +kernel
theorem dX2_init_8 : decode cX2_init 8 = .ok (.newarray .byte, 2) := by decide +kernel
theorem dX2_init_10 : decode cX2_init 10 = .ok (.putfield 9, 3) := by decide +kernel
theorem dX2_init_13 : decode cX2_init 13 = .ok (.aload_n 0, 1) := by decide +kernel
theorem dX2_init_14 : decode cX2_init 14 = .ok (.iconst 0, 1) := by decide +kernel
theorem dX2_init_15 : decode cX2_init 15 = .ok (.putfield 15, 3) := by decide +kernel
theorem dX2_init_18 : decode cX2_init 18 = .ok (.return_, 1) := by decide +kernel
theorem dX2_hasRoomFor_0 : decode cX2_hasRoomFor 0 = .ok (.iload_n 1, 1) := by decide +kernel
theorem dX2_hasRoomFor_1 : decode cX2_hasRoomFor 1 = .ok (.sipush 3000, 3) := by decide +kernel
theorem dX2_hasRoomFor_4 : decode cX2_hasRoomFor 4 = .ok (.aload_n 0, 1) := by decide +kernel
theorem dX2_hasRoomFor_5 : decode cX2_hasRoomFor 5 = .ok (.getfield 15, 3) := by decide +kernel
theorem dX2_hasRoomFor_8 : decode cX2_hasRoomFor 8 = .ok (.isub, 1) := by decide +kernel
theorem dX2_hasRoomFor_9 : decode cX2_hasRoomFor 9 = .ok (.if_icmp .gt 7, 3) := by decide +kernel
theorem dX2_hasRoomFor_12 : decode cX2_hasRoomFor 12 = .ok (.iconst 1, 1) := by decide +kernel
theorem dX2_hasRoomFor_13 : decode cX2_hasRoomFor 13 = .ok (.goto 4, 3) := by decide +kernel
theorem dX2_hasRoomFor_16 : decode cX2_hasRoomFor 16 = .ok (.iconst 0, 1) := by decide +kernel
theorem dX2_hasRoomFor_17 : decode cX2_hasRoomFor 17 = .ok (.ireturn, 1) := by decide +kernel
theorem dX2_hasWholeWord_0 : decode cX2_hasWholeWord 0 = .ok (.iload_n 1, 1) := by decide +kernel
theorem dX2_hasWholeWord_1 : decode cX2_hasWholeWord 1 = .ok (.ifCond .lt 23, 3) := by decide +kernel
theorem dX2_hasWholeWord_4 : decode cX2_hasWholeWord 4 = .ok (.iload_n 1, 1) := by decide +kernel
theorem dX2_hasWholeWord_5 : decode cX2_hasWholeWord 5 = .ok (.iconst 4, 1) := by decide +kernel
theorem dX2_hasWholeWord_6 : decode cX2_hasWholeWord 6 = .ok (.irem, 1) := by decide +kernel
theorem dX2_hasWholeWord_7 : decode cX2_hasWholeWord 7 = .ok (.ifCond .ne 17, 3) := by decide +kernel
theorem dX2_hasWholeWord_10 : decode cX2_hasWholeWord 10 = .ok (.iload_n 1, 1) := by decide +kernel
theorem dX2_hasWholeWord_11 : decode cX2_hasWholeWord 11 = .ok (.aload_n 0, 1) := by decide +kernel
theorem dX2_hasWholeWord_12 : decode cX2_hasWholeWord 12 = .ok (.getfield 15, 3) := by decide +kernel
theorem dX2_hasWholeWord_15 : decode cX2_hasWholeWord 15 = .ok (.iconst 4, 1) := by decide +kernel
theorem dX2_hasWholeWord_16 : decode cX2_hasWholeWord 16 = .ok (.isub, 1) := by decide +kernel
theorem dX2_hasWholeWord_17 : decode cX2_hasWholeWord 17 = .ok (.if_icmp .gt 7, 3) := by decide +kernel
theorem dX2_hasWholeWord_20 : decode cX2_hasWholeWord 20 = .ok (.iconst 1, 1) := by decide +kernel
theorem dX2_hasWholeWord_21 : decode cX2_hasWholeWord 21 = .ok (.goto 4, 3) := by decide +kernel
theorem dX2_hasWholeWord_24 : decode cX2_hasWholeWord 24 = .ok (.iconst 0, 1) := by decide +kernel
theorem dX2_hasWholeWord_25 : decode cX2_hasWholeWord 25 = .ok (.ireturn, 1) := by decide +kernel
theorem dX2_appendByte_0 : decode cX2_appendByte 0 = .ok (.aload_n 0, 1) := by decide +kernel
theorem dX2_appendByte_1 : decode cX2_appendByte 1 = .ok (.getfield 15, 3) := by decide +kernel
theorem dX2_appendByte_4 : decode cX2_appendByte 4 = .ok (.ifCond .lt 34, 3) := by decide +kernel
theorem dX2_appendByte_7 : decode cX2_appendByte 7 = .ok (.aload_n 0, 1) := by decide +kernel
theorem dX2_appendByte_8 : decode cX2_appendByte 8 = .ok (.getfield 15, 3) := by decide +kernel
theorem dX2_appendByte_11 : decode cX2_appendByte 11 = .ok (.sipush 3000, 3) := by decide +kernel
theorem dX2_appendByte_14 : decode cX2_appendByte 14 = .ok (.if_icmp .ge 24, 3) := by decide +kernel
theorem dX2_appendByte_17 : decode cX2_appendByte 17 = .ok (.aload_n 0, 1) := by decide +kernel
theorem dX2_appendByte_18 : decode cX2_appendByte 18 = .ok (.getfield 9, 3) := by decide +kernel
theorem dX2_appendByte_21 : decode cX2_appendByte 21 = .ok (.aload_n 0, 1) := by decide +kernel
theorem dX2_appendByte_22 : decode cX2_appendByte 22 = .ok (.getfield 15, 3) := by decide +kernel
theorem dX2_appendByte_25 : decode cX2_appendByte 25 = .ok (.iload_n 1, 1) := by decide +kernel
theorem dX2_appendByte_26 : decode cX2_appendByte 26 = .ok (.i2b, 1) := by decide +kernel
theorem dX2_appendByte_27 : decode cX2_appendByte 27 = .ok (.bastore, 1) := by decide +kernel
theorem dX2_appendByte_28 : decode cX2_appendByte 28 = .ok (.aload_n 0, 1) := by decide +kernel
theorem dX2_appendByte_29 : decode cX2_appendByte 29 = .ok (.dup, 1) := by decide +kernel
theorem dX2_appendByte_30 : decode cX2_appendByte 30 = .ok (.getfield 15, 3) := by decide +kernel
theorem dX2_appendByte_33 : decode cX2_appendByte 33 = .ok (.iconst 1, 1) := by decide +kernel
theorem dX2_appendByte_34 : decode cX2_appendByte 34 = .ok (.iadd, 1) := by decide +kernel
theorem dX2_appendByte_35 : decode cX2_appendByte 35 = .ok (.putfield 15, 3) := by decide +kernel
theorem dX2_appendByte_38 : decode cX2_appendByte 38 = .ok (.return_, 1) := by decide +kernel
set_option maxRecDepth 20000 in
theorem ggX2_appendWord_X2_appendByte : GoodIn wsX2_appendWord wsX2_appendByte := goodIn_r _ [5, 6, 7, 8, 9] (by decide +kernel) (by decide +kernel)
set_option maxRecDepth 20000 in
theorem gX2_appendWord_X2_appendByte : GoodIn wsX2_appendWord (wsV RX2 19 RX2 yX2_appendByte wsX2_appendByte) := goodIn_app (goodIn_of _ (by decide +kernel)) ggX2_appendWord_X2_appendByte
theorem dX2_appendWord_0 : decode cX2_appendWord 0 = .ok (.aload_n 0, 1) := by decide +kernel
theorem dX2_appendWord_1 : decode cX2_appendWord 1 = .ok (.iload_n 1, 1) := by decide +kernel
theorem dX2_appendWord_2 : decode cX2_appendWord 2 = .ok (.bipush 24, 2) := by decide +kernel
theorem dX2_appendWord_4 : decode cX2_appendWord 4 = .ok (.iushr, 1) := by decide +kernel
theorem dX2_appendWord_5 : decode cX2_appendWord 5 = .ok (.invokevirtual 19, 3) := by decide +kernel
theorem dX2_appendWord_8 : decode cX2_appendWord 8 = .ok (.aload_n 0, 1) := by decide +kernel
theorem dX2_appendWord_9 : decode cX2_appendWord 9 = .ok (.iload_n 1, 1) := by decide +kernel
theorem dX2_appendWord_10 : decode cX2_appendWord 10 = .ok (.bipush 16, 2) := by decide +kernel
theorem dX2_appendWord_12 : decode cX2_appendWord 12 = .ok (.iushr, 1) := by decide +kernel
theorem dX2_appendWord_13 : decode cX2_appendWord 13 = .ok (.invokevirtual 19, 3) := by decide +kernel
theorem dX2_appendWord_16 : decode cX2_appendWord 16 = .ok (.aload_n 0, 1) := by decide +kernel
theorem dX2_appendWord_17 : decode cX2_appendWord 17 = .ok (.iload_n 1, 1) := by decide +kernel
theorem dX2_appendWord_18 : decode cX2_appendWord 18 = .ok (.bipush 8, 2) := by decide +kernel
theorem dX2_appendWord_20 : decode cX2_appendWord 20 = .ok (.iushr, 1) := by decide +kernel
theorem dX2_appendWord_21 : decode cX2_appendWord 21 = .ok (.invokevirtual 19, 3) := by decide +kernel
theorem dX2_appendWord_24 : decode cX2_appendWord 24 = .ok (.aload_n 0, 1) := by decide +kernel
theorem dX2_appendWord_25 : decode cX2_appendWord 25 = .ok (.iload_n 1, 1) := by decide +kernel
theorem dX2_appendWord_26 : decode cX2_appendWord 26 = .ok (.invokevirtual 19, 3) := by decide +kernel
theorem dX2_appendWord_29 : decode cX2_appendWord 29 = .ok (.return_, 1) := by decide +kernel
theorem dX2_putByte_0 : decode cX2_putByte 0 = .ok (.iload_n 1, 1) := by decide +kernel
theorem dX2_putByte_1 : decode cX2_putByte 1 = .ok (.ifCond .lt 26, 3) := by decide +kernel
theorem dX2_putByte_4 : decode cX2_putByte 4 = .ok (.iload_n 1, 1) := by decide +kernel
theorem dX2_putByte_5 : decode cX2_putByte 5 = .ok (.aload_n 0, 1) := by decide +kernel
theorem dX2_putByte_6 : decode cX2_putByte 6 = .ok (.getfield 15, 3) := by decide +kernel
theorem dX2_putByte_9 : decode cX2_putByte 9 = .ok (.if_icmp .ge 18, 3) := by decide +kernel
theorem dX2_putByte_12 : decode cX2_putByte 12 = .ok (.iload_n 1, 1) := by decide +kernel
theorem dX2_putByte_13 : decode cX2_putByte 13 = .ok (.sipush 3000, 3) := by decide +kernel
theorem dX2_putByte_16 : decode cX2_putByte 16 = .ok (.if_icmp .ge 11, 3) := by decide +kernel
theorem dX2_putByte_19 : decode cX2_putByte 19 = .ok (.aload_n 0, 1) := by decide +kernel
theorem dX2_putByte_20 : decode cX2_putByte 20 = .ok (.getfield 9, 3) := by decide +kernel
theorem dX2_putByte_23 : decode cX2_putByte 23 = .ok (.iload_n 1, 1) := by decide +kernel
theorem dX2_putByte_24 : decode cX2_putByte 24 = .ok (.iload_n 2, 1) := by decide +kernel
theorem dX2_putByte_25 : decode cX2_putByte 25 = .ok (.i2b, 1) := by decide +kernel
theorem dX2_putByte_26 : decode cX2_putByte 26 = .ok (.bastore, 1) := by decide +kernel
theorem dX2_putByte_27 : decode cX2_putByte 27 = .ok (.return_, 1) := by decide +kernel
set_option maxRecDepth 20000 in
theorem ggX2_putWord_X2_putByte : GoodIn wsX2_putWord wsX2_putByte := goodIn_r _ [5, 6, 7, 8, 9] (by decide +kernel) (by decide +kernel)
set_option maxRecDepth 20000 in
theorem gX2_putWord_X2_putByte : GoodIn wsX2_putWord (wsV RX2 23 RX2 yX2_putByte wsX2_putByte) := goodIn_app (goodIn_of _ (by decide +kernel)) ggX2_putWord_X2_putByte
theorem dX2_putWord_0 : decode cX2_putWord 0 = .ok (.aload_n 0, 1) := by decide +kernel
theorem dX2_putWord_1 : decode cX2_putWord 1 = .ok (.iload_n 1, 1) := by decide +kernel
theorem dX2_putWord_2 : decode cX2_putWord 2 = .ok (.iload_n 2, 1) := by decide +kernel
theorem dX2_putWord_3 : decode cX2_putWord 3 = .ok (.bipush 24, 2) := by decide +kernel
theorem dX2_putWord_5 : decode cX2_putWord 5 = .ok (.iushr, 1) := by decide +kernel
theorem dX2_putWord_6 : decode cX2_putWord 6 = .ok (.invokevirtual 23, 3) := by decide +kernel
theorem dX2_putWord_9 : decode cX2_putWord 9 = .ok (.aload_n 0, 1) := by decide +kernel
theorem dX2_putWord_10 : decode cX2_putWord 10 = .ok (.iload_n 1, 1) := by decide +kernel
theorem dX2_putWord_11 : decode cX2_putWord 11 = .ok (.iconst 1, 1) := by decide +kernel
theorem dX2_putWord_12 : decode cX2_putWord 12 = .ok (.iadd, 1) := by decide +kernel
theorem dX2_putWord_13 : decode cX2_putWord 13 = .ok (.iload_n 2, 1) := by decide +kernel
theorem dX2_putWord_14 : decode cX2_putWord 14 = .ok (.bipush 16, 2) := by decide +kernel
theorem dX2_putWord_16 : decode cX2_putWord 16 = .ok (.iushr, 1) := by decide +kernel
theorem dX2_putWord_17 : decode cX2_putWord 17 = .ok (.invokevirtual 23, 3) := by decide +kernel
theorem dX2_putWord_20 : decode cX2_putWord 20 = .ok (.aload_n 0, 1) := by decide +kernel
theorem dX2_putWord_21 : decode cX2_putWord 21 = .ok (.iload_n 1, 1) := by decide +kernel
theorem dX2_putWord_22 : decode cX2_putWord 22 = .ok (.iconst 2, 1) := by decide +kernel
theorem dX2_putWord_23 : decode cX2_putWord 23 = .ok (.iadd, 1) := by decide +kernel
theorem dX2_putWord_24 : decode cX2_putWord 24 = .ok (.iload_n 2, 1) := by decide +kernel
theorem dX2_putWord_25 : decode cX2_putWord 25 = .ok (.bipush 8, 2) := by decide +kernel
theorem dX2_putWord_27 : decode cX2_putWord 27 = .ok (.iushr, 1) := by decide +kernel
theorem dX2_putWord_28 : decode cX2_putWord 28 = .ok (.invokevirtual 23, 3) := by decide +kernel
theorem dX2_putWord_31 : decode cX2_putWord 31 = .ok (.aload_n 0, 1) := by decide +kernel
theorem dX2_putWord_32 : decode cX2_putWord 32 = .ok (.iload_n 1, 1) := by decide +kernel
theorem dX2_putWord_33 : decode cX2_putWord 33 = .ok (.iconst 3, 1) := by decide +kernel
theorem dX2_putWord_34 : decode cX2_putWord 34 = .ok (.iadd, 1) := by decide +kernel
theorem dX2_putWord_35 : decode cX2_putWord 35 = .ok (.iload_n 2, 1) := by decide +kernel
theorem dX2_putWord_36 : decode cX2_putWord 36 = .ok (.invokevirtual 23, 3) := by decide +kernel
theorem dX2_putWord_39 : decode cX2_putWord 39 = .ok (.return_, 1) := by decide +kernel
theorem dX2_byteAt_0 : decode cX2_byteAt 0 = .ok (.iload_n 1, 1) := by decide +kernel
theorem dX2_byteAt_1 : decode cX2_byteAt 1 = .ok (.ifCond .lt 31, 3) := by decide +kernel
theorem dX2_byteAt_4 : decode cX2_byteAt 4 = .ok (.iload_n 1, 1) := by decide +kernel
theorem dX2_byteAt_5 : decode cX2_byteAt 5 = .ok (.aload_n 0, 1) := by decide +kernel
theorem dX2_byteAt_6 : decode cX2_byteAt 6 = .ok (.getfield 15, 3) := by decide +kernel
theorem dX2_byteAt_9 : decode cX2_byteAt 9 = .ok (.if_icmp .ge 23, 3) := by decide +kernel
theorem dX2_byteAt_12 : decode cX2_byteAt 12 = .ok (.iload_n 1, 1) := by decide +kernel
theorem dX2_byteAt_13 : decode cX2_byteAt 13 = .ok (.sipush 3000, 3) := by decide +kernel
theorem dX2_byteAt_16 : decode cX2_byteAt 16 = .ok (.if_icmp .ge 16, 3) := by decide +kernel
theorem dX2_byteAt_19 : decode cX2_byteAt 19 = .ok (.aload_n 0, 1) := by decide +kernel
theorem dX2_byteAt_20 : decode cX2_byteAt 20 = .ok (.getfield 9, 3) := by decide +kernel
theorem dX2_byteAt_23 : decode cX2_byteAt 23 = .ok (.iload_n 1, 1) := by decide +kernel
theorem dX2_byteAt_24 : decode cX2_byteAt 24 = .ok (.baload, 1) := by decide +kernel
theorem dX2_byteAt_25 : decode cX2_byteAt 25 = .ok (.sipush 255, 3) := by decide +kernel
theorem dX2_byteAt_28 : decode cX2_byteAt 28 = .ok (.iand, 1) := by decide +kernel
theorem dX2_byteAt_29 : decode cX2_byteAt 29 = .ok (.goto 4, 3) := by decide +kernel
theorem dX2_byteAt_32 : decode cX2_byteAt 32 = .ok (.iconst 0, 1) := by decide +kernel
theorem dX2_byteAt_33 : decode cX2_byteAt 33 = .ok (.ireturn, 1) := by decide +kernel
set_option maxRecDepth 20000 in
theorem ggX2_wordAt_X2_byteAt : GoodIn wsX2_wordAt wsX2_byteAt := goodIn_r _ [6, 7, 8, 9, 10] (by decide +kernel) (by decide +kernel)
set_option maxRecDepth 20000 in
theorem gX2_wordAt_X2_byteAt : GoodIn wsX2_wordAt (wsV RX2 27 RX2 yX2_byteAt wsX2_byteAt) := goodIn_app (goodIn_of _ (by decide +kernel)) ggX2_wordAt_X2_byteAt
theorem dX2_wordAt_0 : decode cX2_wordAt 0 = .ok (.aload_n 0, 1) := by decide +kernel
theorem dX2_wordAt_1 : decode cX2_wordAt 1 = .ok (.iload_n 1, 1) := by decide +kernel
theorem dX2_wordAt_2 : decode cX2_wordAt 2 = .ok (.invokevirtual 27, 3) := by decide +kernel
theorem dX2_wordAt_5 : decode cX2_wordAt 5 = .ok (.bipush 24, 2) := by decide +kernel
theorem dX2_wordAt_7 : decode cX2_wordAt 7 = .ok (.ishl, 1) := by decide +kernel
theorem dX2_wordAt_8 : decode cX2_wordAt 8 = .ok (.aload_n 0, 1) := by decide +kernel
theorem dX2_wordAt_9 : decode cX2_wordAt 9 = .ok (.iload_n 1, 1) := by decide +kernel
theorem dX2_wordAt_10 : decode cX2_wordAt 10 = .ok (.iconst 1, 1) := by decide +kernel
theorem dX2_wordAt_11 : decode cX2_wordAt 11 = .ok (.iadd, 1) := by decide +kernel
theorem dX2_wordAt_12 : decode cX2_wordAt 12 = .ok (.invokevirtual 27, 3) := by decide +kernel
theorem dX2_wordAt_15 : decode cX2_wordAt 15 = .ok (.bipush 16, 2) := by decide +kernel
theorem dX2_wordAt_17 : decode cX2_wordAt 17 = .ok (.ishl, 1) := by decide +kernel
theorem dX2_wordAt_18 : decode cX2_wordAt 18 = .ok (.ior, 1) := by decide +kernel
theorem dX2_wordAt_19 : decode cX2_wordAt 19 = .ok (.aload_n 0, 1) := by decide +kernel
theorem dX2_wordAt_20 : decode cX2_wordAt 20 = .ok (.iload_n 1, 1) := by decide +kernel
theorem dX2_wordAt_21 : decode cX2_wordAt 21 = .ok (.iconst 2, 1) := by decide +kernel
theorem dX2_wordAt_22 : decode cX2_wordAt 22 = .ok (.iadd, 1) := by decide +kernel
theorem dX2_wordAt_23 : decode cX2_wordAt 23 = .ok (.invokevirtual 27, 3) := by decide +kernel
theorem dX2_wordAt_26 : decode cX2_wordAt 26 = .ok (.bipush 8, 2) := by decide +kernel
theorem dX2_wordAt_28 : decode cX2_wordAt 28 = .ok (.ishl, 1) := by decide +kernel
theorem dX2_wordAt_29 : decode cX2_wordAt 29 = .ok (.ior, 1) := by decide +kernel
theorem dX2_wordAt_30 : decode cX2_wordAt 30 = .ok (.aload_n 0, 1) := by decide +kernel
theorem dX2_wordAt_31 : decode cX2_wordAt 31 = .ok (.iload_n 1, 1) := by decide +kernel
theorem dX2_wordAt_32 : decode cX2_wordAt 32 = .ok (.iconst 3, 1) := by decide +kernel
theorem dX2_wordAt_33 : decode cX2_wordAt 33 = .ok (.iadd, 1) := by decide +kernel
theorem dX2_wordAt_34 : decode cX2_wordAt 34 = .ok (.invokevirtual 27, 3) := by decide +kernel
theorem dX2_wordAt_37 : decode cX2_wordAt 37 = .ok (.ior, 1) := by decide +kernel
theorem dX2_wordAt_38 : decode cX2_wordAt 38 = .ok (.istore_n 2, 1) := by decide +kernel
theorem dX2_wordAt_39 : decode cX2_wordAt 39 = .ok (.iload_n 2, 1) := by decide +kernel
theorem dX2_wordAt_40 : decode cX2_wordAt 40 = .ok (.i2l, 1) := by decide +kernel
theorem dX2_wordAt_41 : decode cX2_wordAt 41 = .ok (.ldc2_w 31, 3) := by decide +kernel
theorem dX2_wordAt_44 : decode cX2_wordAt 44 = .ok (.land, 1) := by decide +kernel
theorem dX2_wordAt_45 : decode cX2_wordAt 45 = .ok (.lreturn, 1) := by decide +kernel
set_option maxRecDepth 20000 in
theorem ggX2_rightSum_X2_wordAt : GoodIn wsX2_rightSum wsX2_wordAt := goodIn_r _ [7, 2, 8, 9, 10, 6, 11, 1, 12, 13, 14] (by decide +kernel) (by decide +kernel)
set_option maxRecDepth 20000 in
theorem gX2_rightSum_X2_wordAt : GoodIn wsX2_rightSum (wsV RX2 33 RX2 yX2_wordAt wsX2_wordAt) := goodIn_app (goodIn_of _ (by decide +kernel)) ggX2_rightSum_X2_wordAt
theorem dX2_rightSum_0 : decode cX2_rightSum 0 = .ok (.lconst 0, 1) := by decide +kernel
theorem dX2_rightSum_1 : decode cX2_rightSum 1 = .ok (.lstore_n 1, 1) := by decide +kernel
theorem dX2_rightSum_2 : decode cX2_rightSum 2 = .ok (.iconst 0, 1) := by decide +kernel
theorem dX2_rightSum_3 : decode cX2_rightSum 3 = .ok (.istore_n 3, 1) := by decide +kernel
theorem dX2_rightSum_4 : decode cX2_rightSum 4 = .ok (.iload_n 3, 1) := by decide +kernel
theorem dX2_rightSum_5 : decode cX2_rightSum 5 = .ok (.aload_n 0, 1) := by decide +kernel
theorem dX2_rightSum_6 : decode cX2_rightSum 6 = .ok (.getfield 15, 3) := by decide +kernel
theorem dX2_rightSum_9 : decode cX2_rightSum 9 = .ok (.if_icmp .ge 23, 3) := by decide +kernel
theorem dX2_rightSum_12 : decode cX2_rightSum 12 = .ok (.iload_n 3, 1) := by decide +kernel
theorem dX2_rightSum_13 : decode cX2_rightSum 13 = .ok (.bipush 32, 2) := by decide +kernel
theorem dX2_rightSum_15 : decode cX2_rightSum 15 = .ok (.if_icmp .eq 11, 3) := by decide +kernel
theorem dX2_rightSum_18 : decode cX2_rightSum 18 = .ok (.lload_n 1, 1) := by decide +kernel
theorem dX2_rightSum_19 : decode cX2_rightSum 19 = .ok (.aload_n 0, 1) := by decide +kernel
theorem dX2_rightSum_20 : decode cX2_rightSum 20 = .ok (.iload_n 3, 1) := by decide +kernel
theorem dX2_rightSum_21 : decode cX2_rightSum 21 = .ok (.invokevirtual 33, 3) := by decide +kernel
theorem dX2_rightSum_24 : decode cX2_rightSum 24 = .ok (.ladd, 1) := by decide +kernel
theorem dX2_rightSum_25 : decode cX2_rightSum 25 = .ok (.lstore_n 1, 1) := by decide +kernel
theorem dX2_rightSum_26 : decode cX2_rightSum 26 = .ok (.iinc 3 4, 3) := by decide +kernel
theorem dX2_rightSum_29 : decode cX2_rightSum 29 = .ok (.goto (-25), 3) := by decide +kernel
theorem dX2_rightSum_32 : decode cX2_rightSum 32 = .ok (.lload_n 1, 1) := by decide +kernel
theorem dX2_rightSum_33 : decode cX2_rightSum 33 = .ok (.ldc2_w 31, 3) := by decide +kernel
theorem dX2_rightSum_36 : decode cX2_rightSum 36 = .ok (.land, 1) := by decide +kernel
theorem dX2_rightSum_37 : decode cX2_rightSum 37 = .ok (.lreturn, 1) := by decide +kernel
set_option maxRecDepth 20000 in
theorem ggX2_judge_X2_wordAt : GoodIn wsX2_judge wsX2_wordAt := goodIn_r _ [9, 10, 11, 12, 13, 8, 14, 1, 15, 31, 32] (by decide +kernel) (by decide +kernel)
set_option maxRecDepth 20000 in
theorem gX2_judge_X2_wordAt : GoodIn wsX2_judge (wsV RX2 33 RX2 yX2_wordAt wsX2_wordAt) := goodIn_app (goodIn_of _ (by decide +kernel)) ggX2_judge_X2_wordAt
set_option maxRecDepth 20000 in
theorem ggX2_judge_X2_judgeMarks : GoodIn wsX2_judge wsX2_judgeMarks := goodIn_r _ [19, 20, 1, 31, 32] (by decide +kernel) (by decide +kernel)
set_option maxRecDepth 20000 in
theorem gX2_judge_X2_judgeMarks : GoodIn wsX2_judge (wsV RX2 43 RX2 yX2_judgeMarks wsX2_judgeMarks) := goodIn_app (goodIn_of _ (by decide +kernel)) ggX2_judge_X2_judgeMarks
set_option maxRecDepth 20000 in
theorem ggX2_judge_X2_judgeUse : GoodIn wsX2_judge wsX2_judgeUse := goodIn_r _ [24, 20, 25, 26, 5, 6, 7, 8, 9, 10, 11, 12, 13, 14, 1, 15, 27, 28, 29, 30, 31, 32] (by decide +kernel) (by decide +kernel)
set_option maxRecDepth 20000 in
theorem gX2_judge_X2_judgeUse : GoodIn wsX2_judge (wsV RX2 47 RX2 yX2_judgeUse wsX2_judgeUse) := goodIn_app (goodIn_of _ (by decide +kernel)) ggX2_judge_X2_judgeUse
theorem dX2_judge_0 : decode cX2_judge 0 = .ok (.aload_n 0, 1) := by decide +kernel
theorem dX2_judge_1 : decode cX2_judge 1 = .ok (.getfield 15, 3) := by decide +kernel
theorem dX2_judge_4 : decode cX2_judge 4 = .ok (.bipush 36, 2) := by decide +kernel
theorem dX2_judge_6 : decode cX2_judge 6 = .ok (.if_icmp .ge 5, 3) := by decide +kernel
theorem dX2_judge_9 : decode cX2_judge 9 = .ok (.iconst 1, 1) := by decide +kernel
theorem dX2_judge_10 : decode cX2_judge 10 = .ok (.ireturn, 1) := by decide +kernel
theorem dX2_judge_11 : decode cX2_judge 11 = .ok (.aload_n 0, 1) := by decide +kernel
theorem dX2_judge_12 : decode cX2_judge 12 = .ok (.iconst 0, 1) := by decide +kernel
theorem dX2_judge_13 : decode cX2_judge 13 = .ok (.invokevirtual 33, 3) := by decide +kernel
theorem dX2_judge_16 : decode cX2_judge 16 = .ok (.ldc2_w 37, 3) := by decide +kernel
theorem dX2_judge_19 : decode cX2_judge 19 = .ok (.lcmp, 1) := by decide +kernel
theorem dX2_judge_20 : decode cX2_judge 20 = .ok (.ifCond .eq 5, 3) := by decide +kernel
theorem dX2_judge_23 : decode cX2_judge 23 = .ok (.iconst 2, 1) := by decide +kernel
theorem dX2_judge_24 : decode cX2_judge 24 = .ok (.ireturn, 1) := by decide +kernel
theorem dX2_judge_25 : decode cX2_judge 25 = .ok (.aload_n 0, 1) := by decide +kernel
theorem dX2_judge_26 : decode cX2_judge 26 = .ok (.iconst 4, 1) := by decide +kernel
theorem dX2_judge_27 : decode cX2_judge 27 = .ok (.invokevirtual 33, 3) := by decide +kernel
theorem dX2_judge_30 : decode cX2_judge 30 = .ok (.lstore_n 1, 1) := by decide +kernel
theorem dX2_judge_31 : decode cX2_judge 31 = .ok (.lload_n 1, 1) := by decide +kernel
theorem dX2_judge_32 : decode cX2_judge 32 = .ok (.ldc2_w 39, 3) := by decide +kernel
theorem dX2_judge_35 : decode cX2_judge 35 = .ok (.lcmp, 1) := by decide +kernel
theorem dX2_judge_36 : decode cX2_judge 36 = .ok (.ifCond .lt 11, 3) := by decide +kernel
theorem dX2_judge_39 : decode cX2_judge 39 = .ok (.lload_n 1, 1) := by decide +kernel
theorem dX2_judge_40 : decode cX2_judge 40 = .ok (.ldc2_w 41, 3) := by decide +kernel
theorem dX2_judge_43 : decode cX2_judge 43 = .ok (.lcmp, 1) := by decide +kernel
theorem dX2_judge_44 : decode cX2_judge 44 = .ok (.ifCond .le 5, 3) := by decide +kernel
theorem dX2_judge_47 : decode cX2_judge 47 = .ok (.iconst 3, 1) := by decide +kernel
theorem dX2_judge_48 : decode cX2_judge 48 = .ok (.ireturn, 1) := by decide +kernel
theorem dX2_judge_49 : decode cX2_judge 49 = .ok (.aload_n 0, 1) := by decide +kernel
theorem dX2_judge_50 : decode cX2_judge 50 = .ok (.aload_n 0, 1) := by decide +kernel
theorem dX2_judge_51 : decode cX2_judge 51 = .ok (.bipush 8, 2) := by decide +kernel
theorem dX2_judge_53 : decode cX2_judge 53 = .ok (.invokevirtual 33, 3) := by decide +kernel
theorem dX2_judge_56 : decode cX2_judge 56 = .ok (.aload_n 0, 1) := by decide +kernel
theorem dX2_judge_57 : decode cX2_judge 57 = .ok (.bipush 12, 2) := by decide +kernel
theorem dX2_judge_59 : decode cX2_judge 59 = .ok (.invokevirtual 33, 3) := by decide +kernel
theorem dX2_judge_62 : decode cX2_judge 62 = .ok (.aload_n 0, 1) := by decide +kernel
theorem dX2_judge_63 : decode cX2_judge 63 = .ok (.bipush 16, 2) := by decide +kernel
theorem dX2_judge_65 : decode cX2_judge 65 = .ok (.invokevirtual 33, 3) := by decide +kernel
theorem dX2_judge_68 : decode cX2_judge 68 = .ok (.invokevirtual 43, 3) := by decide +kernel
theorem dX2_judge_71 : decode cX2_judge 71 = .ok (.istore_n 3, 1) := by decide +kernel
theorem dX2_judge_72 : decode cX2_judge 72 = .ok (.iload_n 3, 1) := by decide +kernel
theorem dX2_judge_73 : decode cX2_judge 73 = .ok (.ifCond .eq 7, 3) := by decide +kernel
theorem dX2_judge_76 : decode cX2_judge 76 = .ok (.iload_n 3, 1) := by decide +kernel
theorem dX2_judge_77 : decode cX2_judge 77 = .ok (.goto 19, 3) := by decide +kernel
theorem dX2_judge_80 : decode cX2_judge 80 = .ok (.aload_n 0, 1) := by decide +kernel
theorem dX2_judge_81 : decode cX2_judge 81 = .ok (.aload_n 0, 1) := by decide +kernel
theorem dX2_judge_82 : decode cX2_judge 82 = .ok (.bipush 16, 2) := by decide +kernel
theorem dX2_judge_84 : decode cX2_judge 84 = .ok (.invokevirtual 33, 3) := by decide +kernel
theorem dX2_judge_87 : decode cX2_judge 87 = .ok (.aload_n 0, 1) := by decide +kernel
theorem dX2_judge_88 : decode cX2_judge 88 = .ok (.bipush 20, 2) := by decide +kernel
theorem dX2_judge_90 : decode cX2_judge 90 = .ok (.invokevirtual 33, 3) := by decide +kernel
theorem dX2_judge_93 : decode cX2_judge 93 = .ok (.invokevirtual 47, 3) := by decide +kernel
theorem dX2_judge_96 : decode cX2_judge 96 = .ok (.ireturn, 1) := by decide +kernel
theorem dX2_judgeMarks_0 : decode cX2_judgeMarks 0 = .ok (.lload_n 1, 1) := by decide +kernel
theorem dX2_judgeMarks_1 : decode cX2_judgeMarks 1 = .ok (.ldc2_w 51, 3) := by decide +kernel
theorem dX2_judgeMarks_4 : decode cX2_judgeMarks 4 = .ok (.lrem, 1) := by decide +kernel
theorem dX2_judgeMarks_5 : decode cX2_judgeMarks 5 = .ok (.lconst 0, 1) := by decide +kernel
theorem dX2_judgeMarks_6 : decode cX2_judgeMarks 6 = .ok (.lcmp, 1) := by decide +kernel
theorem dX2_judgeMarks_7 : decode cX2_judgeMarks 7 = .ok (.ifCond .ne 24, 3) := by decide +kernel
theorem dX2_judgeMarks_10 : decode cX2_judgeMarks 10 = .ok (.lload_n 3, 1) := by decide +kernel
theorem dX2_judgeMarks_11 : decode cX2_judgeMarks 11 = .ok (.ldc2_w 51, 3) := by decide +kernel
theorem dX2_judgeMarks_14 : decode cX2_judgeMarks 14 = .ok (.lrem, 1) := by decide +kernel
theorem dX2_judgeMarks_15 : decode cX2_judgeMarks 15 = .ok (.lconst 0, 1) := by decide +kernel
theorem dX2_judgeMarks_16 : decode cX2_judgeMarks 16 = .ok (.lcmp, 1) := by decide +kernel
theorem dX2_judgeMarks_17 : decode cX2_judgeMarks 17 = .ok (.ifCond .ne 14, 3) := by decide +kernel
theorem dX2_judgeMarks_20 : decode cX2_judgeMarks 20 = .ok (.lload 5, 2) := by decide +kernel
theorem dX2_judgeMarks_22 : decode cX2_judgeMarks 22 = .ok (.ldc2_w 51, 3) := by decide +kernel
theorem dX2_judgeMarks_25 : decode cX2_judgeMarks 25 = .ok (.lrem, 1) := by decide +kernel
theorem dX2_judgeMarks_26 : decode cX2_judgeMarks 26 = .ok (.lconst 0, 1) := by decide +kernel
theorem dX2_judgeMarks_27 : decode cX2_judgeMarks 27 = .ok (.lcmp, 1) := by decide +kernel
theorem dX2_judgeMarks_28 : decode cX2_judgeMarks 28 = .ok (.ifCond .eq 5, 3) := by decide +kernel
theorem dX2_judgeMarks_31 : decode cX2_judgeMarks 31 = .ok (.iconst 4, 1) := by decide +kernel
theorem dX2_judgeMarks_32 : decode cX2_judgeMarks 32 = .ok (.ireturn, 1) := by decide +kernel
theorem dX2_judgeMarks_33 : decode cX2_judgeMarks 33 = .ok (.lload_n 1, 1) := by decide +kernel
theorem dX2_judgeMarks_34 : decode cX2_judgeMarks 34 = .ok (.ldc2_w 51, 3) := by decide +kernel
theorem dX2_judgeMarks_37 : decode cX2_judgeMarks 37 = .ok (.lcmp, 1) := by decide +kernel
theorem dX2_judgeMarks_38 : decode cX2_judgeMarks 38 = .ok (.ifCond .lt 16, 3) := by decide +kernel
theorem dX2_judgeMarks_41 : decode cX2_judgeMarks 41 = .ok (.lload_n 1, 1) := by decide +kernel
theorem dX2_judgeMarks_42 : decode cX2_judgeMarks 42 = .ok (.lload_n 3, 1) := by decide +kernel
theorem dX2_judgeMarks_43 : decode cX2_judgeMarks 43 = .ok (.lcmp, 1) := by decide +kernel
theorem dX2_judgeMarks_44 : decode cX2_judgeMarks 44 = .ok (.ifCond .gt 10, 3) := by decide +kernel
theorem dX2_judgeMarks_47 : decode cX2_judgeMarks 47 = .ok (.lload_n 3, 1) := by decide +kernel
theorem dX2_judgeMarks_48 : decode cX2_judgeMarks 48 = .ok (.lload 5, 2) := by decide +kernel
theorem dX2_judgeMarks_50 : decode cX2_judgeMarks 50 = .ok (.lcmp, 1) := by decide +kernel
theorem dX2_judgeMarks_51 : decode cX2_judgeMarks 51 = .ok (.ifCond .le 5, 3) := by decide +kernel
theorem dX2_judgeMarks_54 : decode cX2_judgeMarks 54 = .ok (.iconst 5, 1) := by decide +kernel
theorem dX2_judgeMarks_55 : decode cX2_judgeMarks 55 = .ok (.ireturn, 1) := by decide +kernel
theorem dX2_judgeMarks_56 : decode cX2_judgeMarks 56 = .ok (.lload_n 3, 1) := by decide +kernel
theorem dX2_judgeMarks_57 : decode cX2_judgeMarks 57 = .ok (.aload_n 0, 1) := by decide +kernel
theorem dX2_judgeMarks_58 : decode cX2_judgeMarks 58 = .ok (.getfield 15, 3) := by decide +kernel
theorem dX2_judgeMarks_61 : decode cX2_judgeMarks 61 = .ok (.i2l, 1) := by decide +kernel
theorem dX2_judgeMarks_62 : decode cX2_judgeMarks 62 = .ok (.lcmp, 1) := by decide +kernel
theorem dX2_judgeMarks_63 : decode cX2_judgeMarks 63 = .ok (.ifCond .eq 8, 3) := by decide +kernel
theorem dX2_judgeMarks_66 : decode cX2_judgeMarks 66 = .ok (.bipush 6, 2) := by decide +kernel
theorem dX2_judgeMarks_68 : decode cX2_judgeMarks 68 = .ok (.goto 4, 3) := by decide +kernel
theorem dX2_judgeMarks_71 : decode cX2_judgeMarks 71 = .ok (.iconst 0, 1) := by decide +kernel
theorem dX2_judgeMarks_72 : decode cX2_judgeMarks 72 = .ok (.ireturn, 1) := by decide +kernel
set_option maxRecDepth 20000 in
theorem ggX2_judgeUse_X2_wordAt : GoodIn wsX2_judgeUse wsX2_wordAt := goodIn_r _ [8, 9, 10, 11, 12, 7, 13, 14, 15, 20, 21] (by decide +kernel) (by decide +kernel)
set_option maxRecDepth 20000 in
theorem gX2_judgeUse_X2_wordAt : GoodIn wsX2_judgeUse (wsV RX2 33 RX2 yX2_wordAt wsX2_wordAt) := goodIn_app (goodIn_of _ (by decide +kernel)) ggX2_judgeUse_X2_wordAt
set_option maxRecDepth 20000 in
theorem ggX2_judgeUse_X2_isBehindHead : GoodIn wsX2_judgeUse wsX2_isBehindHead := goodIn_r _ [18, 19] (by decide +kernel) (by decide +kernel)
set_option maxRecDepth 20000 in
theorem gX2_judgeUse_X2_isBehindHead : GoodIn wsX2_judgeUse (va_wsS RX2 53 yX2_isBehindHead wsX2_isBehindHead) := goodIn_app (goodIn_of _ (by decide +kernel)) ggX2_judgeUse_X2_isBehindHead
theorem dX2_judgeUse_0 : decode cX2_judgeUse 0 = .ok (.lload_n 3, 1) := by decide +kernel
theorem dX2_judgeUse_1 : decode cX2_judgeUse 1 = .ok (.lconst 0, 1) := by decide +kernel
theorem dX2_judgeUse_2 : decode cX2_judgeUse 2 = .ok (.lcmp, 1) := by decide +kernel
theorem dX2_judgeUse_3 : decode cX2_judgeUse 3 = .ok (.ifCond .eq 13, 3) := by decide +kernel
theorem dX2_judgeUse_6 : decode cX2_judgeUse 6 = .ok (.lload_n 3, 1) := by decide +kernel
theorem dX2_judgeUse_7 : decode cX2_judgeUse 7 = .ok (.ldc2_w 51, 3) := by decide +kernel
theorem dX2_judgeUse_10 : decode cX2_judgeUse 10 = .ok (.lrem, 1) := by decide +kernel
theorem dX2_judgeUse_11 : decode cX2_judgeUse 11 = .ok (.lconst 0, 1) := by decide +kernel
theorem dX2_judgeUse_12 : decode cX2_judgeUse 12 = .ok (.lcmp, 1) := by decide +kernel
theorem dX2_judgeUse_13 : decode cX2_judgeUse 13 = .ok (.ifCond .eq 6, 3) := by decide +kernel
theorem dX2_judgeUse_16 : decode cX2_judgeUse 16 = .ok (.bipush 7, 2) := by decide +kernel
theorem dX2_judgeUse_18 : decode cX2_judgeUse 18 = .ok (.ireturn, 1) := by decide +kernel
theorem dX2_judgeUse_19 : decode cX2_judgeUse 19 = .ok (.aload_n 0, 1) := by decide +kernel
theorem dX2_judgeUse_20 : decode cX2_judgeUse 20 = .ok (.bipush 24, 2) := by decide +kernel
theorem dX2_judgeUse_22 : decode cX2_judgeUse 22 = .ok (.invokevirtual 33, 3) := by decide +kernel
theorem dX2_judgeUse_25 : decode cX2_judgeUse 25 = .ok (.lload_n 1, 1) := by decide +kernel
theorem dX2_judgeUse_26 : decode cX2_judgeUse 26 = .ok (.invokestatic 53, 3) := by decide +kernel
theorem dX2_judgeUse_29 : decode cX2_judgeUse 29 = .ok (.ifCond .ne 6, 3) := by decide +kernel
theorem dX2_judgeUse_32 : decode cX2_judgeUse 32 = .ok (.bipush 8, 2) := by decide +kernel
theorem dX2_judgeUse_34 : decode cX2_judgeUse 34 = .ok (.ireturn, 1) := by decide +kernel
theorem dX2_judgeUse_35 : decode cX2_judgeUse 35 = .ok (.aload_n 0, 1) := by decide +kernel
theorem dX2_judgeUse_36 : decode cX2_judgeUse 36 = .ok (.bipush 28, 2) := by decide +kernel
theorem dX2_judgeUse_38 : decode cX2_judgeUse 38 = .ok (.invokevirtual 33, 3) := by decide +kernel
theorem dX2_judgeUse_41 : decode cX2_judgeUse 41 = .ok (.lstore 5, 2) := by decide +kernel
theorem dX2_judgeUse_43 : decode cX2_judgeUse 43 = .ok (.lload 5, 2) := by decide +kernel
theorem dX2_judgeUse_45 : decode cX2_judgeUse 45 = .ok (.lconst 0, 1) := by decide +kernel
theorem dX2_judgeUse_46 : decode cX2_judgeUse 46 = .ok (.lcmp, 1) := by decide +kernel
theorem dX2_judgeUse_47 : decode cX2_judgeUse 47 = .ok (.ifCond .eq 15, 3) := by decide +kernel
theorem dX2_judgeUse_50 : decode cX2_judgeUse 50 = .ok (.lload 5, 2) := by decide +kernel
theorem dX2_judgeUse_52 : decode cX2_judgeUse 52 = .ok (.lload_n 1, 1) := by decide +kernel
theorem dX2_judgeUse_53 : decode cX2_judgeUse 53 = .ok (.invokestatic 53, 3) := by decide +kernel
theorem dX2_judgeUse_56 : decode cX2_judgeUse 56 = .ok (.ifCond .ne 6, 3) := by decide +kernel
theorem dX2_judgeUse_59 : decode cX2_judgeUse 59 = .ok (.bipush 9, 2) := by decide +kernel
theorem dX2_judgeUse_61 : decode cX2_judgeUse 61 = .ok (.ireturn, 1) := by decide +kernel
theorem dX2_judgeUse_62 : decode cX2_judgeUse 62 = .ok (.lload_n 1, 1) := by decide +kernel
theorem dX2_judgeUse_63 : decode cX2_judgeUse 63 = .ok (.ldc2_w 57, 3) := by decide +kernel
theorem dX2_judgeUse_66 : decode cX2_judgeUse 66 = .ok (.lcmp, 1) := by decide +kernel
theorem dX2_judgeUse_67 : decode cX2_judgeUse 67 = .ok (.ifCond .gt 11, 3) := by decide +kernel
theorem dX2_judgeUse_70 : decode cX2_judgeUse 70 = .ok (.lload_n 3, 1) := by decide +kernel
theorem dX2_judgeUse_71 : decode cX2_judgeUse 71 = .ok (.ldc2_w 59, 3) := by decide +kernel
theorem dX2_judgeUse_74 : decode cX2_judgeUse 74 = .ok (.lcmp, 1) := by decide +kernel
theorem dX2_judgeUse_75 : decode cX2_judgeUse 75 = .ok (.ifCond .le 8, 3) := by decide +kernel
theorem dX2_judgeUse_78 : decode cX2_judgeUse 78 = .ok (.bipush 10, 2) := by decide +kernel
theorem dX2_judgeUse_80 : decode cX2_judgeUse 80 = .ok (.goto 4, 3) := by decide +kernel
theorem dX2_judgeUse_83 : decode cX2_judgeUse 83 = .ok (.iconst 0, 1) := by decide +kernel
theorem dX2_judgeUse_84 : decode cX2_judgeUse 84 = .ok (.ireturn, 1) := by decide +kernel
theorem dX2_isBehindHead_0 : decode cX2_isBehindHead 0 = .ok (.lload_n 0, 1) := by decide +kernel
theorem dX2_isBehindHead_1 : decode cX2_isBehindHead 1 = .ok (.ldc2_w 61, 3) := by decide +kernel
theorem dX2_isBehindHead_4 : decode cX2_isBehindHead 4 = .ok (.lcmp, 1) := by decide +kernel
theorem dX2_isBehindHead_5 : decode cX2_isBehindHead 5 = .ok (.ifCond .lt 13, 3) := by decide +kernel
theorem dX2_isBehindHead_8 : decode cX2_isBehindHead 8 = .ok (.lload_n 0, 1) := by decide +kernel
theorem dX2_isBehindHead_9 : decode cX2_isBehindHead 9 = .ok (.lload_n 2, 1) := by decide +kernel
theorem dX2_isBehindHead_10 : decode cX2_isBehindHead 10 = .ok (.lcmp, 1) := by decide +kernel
theorem dX2_isBehindHead_11 : decode cX2_isBehindHead 11 = .ok (.ifCond .ge 7, 3) := by decide +kernel
theorem dX2_isBehindHead_14 : decode cX2_isBehindHead 14 = .ok (.iconst 1, 1) := by decide +kernel
theorem dX2_isBehindHead_15 : decode cX2_isBehindHead 15 = .ok (.goto 4, 3) := by decide +kernel
theorem dX2_isBehindHead_18 : decode cX2_isBehindHead 18 = .ok (.iconst 0, 1) := by decide +kernel
theorem dX2_isBehindHead_19 : decode cX2_isBehindHead 19 = .ok (.ireturn, 1) := by decide +kernel
