theorem dX4_init_0 : decode cX4_init 0 = .ok (.aload_n 0, 1) := by decide +kernel
theorem dX4_init_1 : decode cX4_init 1 = .ok (.invokespecial 1, 3) := by decide +kernel
theorem dX4_init_4 : decode cX4_init 4 = .ok (.aload_n 0, 1) := by decide +kernel
theorem dX4_init_5 : decode cX4_init 5 = .ok (.sipush 3000, 3) := by decide +kernel
theorem dX4_init_8 : decode cX4_init 8 = .ok (.newarray .int, 2) := by decide +kernel
theorem dX4_init_10 : decode cX4_init 10 = .ok (.putfield 7, 3) := by decide +kernel
theorem dX4_init_13 : decode cX4_init 13 = .ok (.aload_n 0, 1) := by decide +kernel
theorem dX4_init_14 : decode cX4_init 14 = .ok (.bipush 9, 2) := by decide +kernel
theorem dX4_init_16 : decode cX4_init 16 = .ok (.newarray .long, 2) := by decide +kernel
theorem dX4_init_18 : decode cX4_init 18 = .ok (.putfield 13, 3) := by decide +kernel
theorem dX4_init_21 : decode cX4_init 21 = .ok (.aload_n 0, 1) := by decide +kernel
theorem dX4_init_22 : decode cX4_init 22 = .ok (.sipush 4096, 3) := by decide +kernel
theorem dX4_init_25 : decode cX4_init 25 = .ok (.newarray .int, 2) := by decide +kernel
theorem dX4_init_27 : decode cX4_init 27 = .ok (.putfield 17, 3) := by decide +kernel
theorem dX4_init_30 : decode cX4_init 30 = .ok (.aload_n 0, 1) := by decide +kernel
theorem dX4_init_31 : decode cX4_init 31 = .ok (.sipush 8192, 3) := by decide +kernel
theorem dX4_init_34 : decode cX4_init 34 = .ok (.newarray .int, 2) := by decide +kernel
theorem dX4_init_36 : decode cX4_init 36 = .ok (.putfield 20, 3) := by decide +kernel
theorem dX4_init_39 : decode cX4_init 39 = .ok (.aload_n 0, 1) := by decide +kernel
theorem dX4_init_40 : decode cX4_init 40 = .ok (.bipush 16, 2) := by decide +kernel
theorem dX4_init_42 : decode cX4_init 42 = .ok (.newarray .int, 2) := by decide +kernel
theorem dX4_init_44 : decode cX4_init 44 = .ok (.putfield 23, 3) := by decide +kernel
theorem dX4_init_47 : decode cX4_init 47 = .ok (.aload_n 0, 1) := by decide +kernel
theorem dX4_init_48 : decode cX4_init 48 = .ok (.bipush 16, 2) := by decide +kernel
theorem dX4_init_50 : decode cX4_init 50 = .ok (.newarray .int, 2) := by decide +kernel
theorem dX4_init_52 : decode cX4_init 52 = .ok (.putfield 26, 3) := by decide +kernel
theorem dX4_init_55 : decode cX4_init 55 = .ok (.aload_n 0, 1) := by decide +kernel
theorem dX4_init_56 : decode cX4_init 56 = .ok (.sipush 16464, 3) := by decide +kernel
theorem dX4_init_59 : decode cX4_init 59 = .ok (.newarray .int, 2) := by decide +kernel
theorem dX4_init_61 : decode cX4_init 61 = .ok (.putfield 29, 3) := by decide +kernel
theorem dX4_init_64 : decode cX4_init 64 = .ok (.return_, 1) := by decide +kernel
theorem dX4_thrown_0 : decode cX4_thrown 0 = .ok (.aload_n 0, 1) := by decide +kernel
theorem dX4_thrown_1 : decode cX4_thrown 1 = .ok (.getfield 32, 3) := by decide +kernel
theorem dX4_thrown_4 : decode cX4_thrown 4 = .ok (.ireturn, 1) := by decide +kernel
theorem dX4_in_0 : decode cX4_in 0 = .ok (.lload_n 0, 1) := by decide +kernel
theorem dX4_in_1 : decode cX4_in 1 = .ok (.lload_n 2, 1) := by decide +kernel
theorem dX4_in_2 : decode cX4_in 2 = .ok (.lcmp, 1) := by decide +kernel
theorem dX4_in_3 : decode cX4_in 3 = .ok (.ifCond .lt 14, 3) := by decide +kernel
theorem dX4_in_6 : decode cX4_in 6 = .ok (.lload_n 0, 1) := by decide +kernel
theorem dX4_in_7 : decode cX4_in 7 = .ok (.lload 4, 2) := by decide +kernel
theorem dX4_in_9 : decode cX4_in 9 = .ok (.lcmp, 1) := by decide +kernel
theorem dX4_in_10 : decode cX4_in 10 = .ok (.ifCond .gt 7, 3) := by decide +kernel
theorem dX4_in_13 : decode cX4_in 13 = .ok (.iconst 1, 1) := by decide +kernel
theorem dX4_in_14 : decode cX4_in 14 = .ok (.goto 4, 3) := by decide +kernel
theorem dX4_in_17 : decode cX4_in 17 = .ok (.iconst 0, 1) := by decide +kernel
theorem dX4_in_18 : decode cX4_in 18 = .ok (.ireturn, 1) := by decide +kernel
theorem dX4_feed_0 : decode cX4_feed 0 = .ok (.aload_n 0, 1) := by decide +kernel
theorem dX4_feed_1 : decode cX4_feed 1 = .ok (.iconst 0, 1) := by decide +kernel
theorem dX4_feed_2 : decode cX4_feed 2 = .ok (.putfield 32, 3) := by decide +kernel
theorem dX4_feed_5 : decode cX4_feed 5 = .ok (.aload_n 0, 1) := by decide +kernel
theorem dX4_feed_6 : decode cX4_feed 6 = .ok (.getfield 36, 3) := by decide +kernel
theorem dX4_feed_9 : decode cX4_feed 9 = .ok (.bipush 20, 2) := by decide +kernel
theorem dX4_feed_11 : decode cX4_feed 11 = .ok (.iadd, 1) := by decide +kernel
theorem dX4_feed_12 : decode cX4_feed 12 = .ok (.sipush 3000, 3) := by decide +kernel
theorem dX4_feed_15 : decode cX4_feed 15 = .ok (.if_icmp .le 6, 3) := by decide +kernel
theorem dX4_feed_18 : decode cX4_feed 18 = .ok (.bipush (-4), 2) := by decide +kernel
theorem dX4_feed_20 : decode cX4_feed 20 = .ok (.ireturn, 1) := by decide +kernel
theorem dX4_feed_21 : decode cX4_feed 21 = .ok (.iconst 0, 1) := by decide +kernel
theorem dX4_feed_22 : decode cX4_feed 22 = .ok (.istore 6, 2) := by decide +kernel
theorem dX4_feed_24 : decode cX4_feed 24 = .ok (.iload 6, 2) := by decide +kernel
theorem dX4_feed_26 : decode cX4_feed 26 = .ok (.bipush 20, 2) := by decide +kernel
theorem dX4_feed_28 : decode cX4_feed 28 = .ok (.if_icmp .ge 86, 3) := by decide +kernel
theorem dX4_feed_31 : decode cX4_feed 31 = .ok (.iload 6, 2) := by decide +kernel
theorem dX4_feed_33 : decode cX4_feed 33 = .ok (.iconst 4, 1) := by decide +kernel
theorem dX4_feed_34 : decode cX4_feed 34 = .ok (.if_icmp .ge 7, 3) := by decide +kernel
theorem dX4_feed_37 : decode cX4_feed 37 = .ok (.iload_n 1, 1) := by decide +kernel
theorem dX4_feed_38 : decode cX4_feed 38 = .ok (.goto 39, 3) := by decide +kernel
theorem dX4_feed_41 : decode cX4_feed 41 = .ok (.iload 6, 2) := by decide +kernel
theorem dX4_feed_43 : decode cX4_feed 43 = .ok (.bipush 8, 2) := by decide +kernel
theorem dX4_feed_45 : decode cX4_feed 45 = .ok (.if_icmp .ge 7, 3) := by decide +kernel
theorem dX4_feed_48 : decode cX4_feed 48 = .ok (.iload_n 2, 1) := by decide +kernel
theorem dX4_feed_49 : decode cX4_feed 49 = .ok (.goto 28, 3) := by decide +kernel
theorem dX4_feed_52 : decode cX4_feed 52 = .ok (.iload 6, 2) := by decide +kernel
theorem dX4_feed_54 : decode cX4_feed 54 = .ok (.bipush 12, 2) := by decide +kernel
theorem dX4_feed_56 : decode cX4_feed 56 = .ok (.if_icmp .ge 7, 3) := by decide +kernel
theorem dX4_feed_59 : decode cX4_feed 59 = .ok (.iload_n 3, 1) := by decide +kernel
theorem dX4_feed_60 : decode cX4_feed 60 = .ok (.goto 17, 3) := by decide +kernel
theorem dX4_feed_63 : decode cX4_feed 63 = .ok (.iload 6, 2) := by decide +kernel
theorem dX4_feed_65 : decode cX4_feed 65 = .ok (.bipush 16, 2) := by decide +kernel
theorem dX4_feed_67 : decode cX4_feed 67 = .ok (.if_icmp .ge 8, 3) := by decide +kernel
theorem dX4_feed_70 : decode cX4_feed 70 = .ok (.iload 4, 2) := by decide +kernel
theorem dX4_feed_72 : decode cX4_feed 72 = .ok (.goto 5, 3) := by decide +kernel
theorem dX4_feed_75 : decode cX4_feed 75 = .ok (.iload 5, 2) := by decide +kernel
theorem dX4_feed_77 : decode cX4_feed 77 = .ok (.istore 7, 2) := by decide +kernel
theorem dX4_feed_79 : decode cX4_feed 79 = .ok (.aload_n 0, 1) := by decide +kernel
theorem dX4_feed_80 : decode cX4_feed 80 = .ok (.getfield 7, 3) := by decide +kernel
theorem dX4_feed_83 : decode cX4_feed 83 = .ok (.aload_n 0, 1) := by decide +kernel
theorem dX4_feed_84 : decode cX4_feed 84 = .ok (.getfield 36, 3) := by decide +kernel
theorem dX4_feed_87 : decode cX4_feed 87 = .ok (.iload 6, 2) := by decide +kernel
theorem dX4_feed_89 : decode cX4_feed 89 = .ok (.iadd, 1) := by decide +kernel
theorem dX4_feed_90 : decode cX4_feed 90 = .ok (.iload 7, 2) := by decide +kernel
theorem dX4_feed_92 : decode cX4_feed 92 = .ok (.bipush 24, 2) := by decide +kernel
theorem dX4_feed_94 : decode cX4_feed 94 = .ok (.bipush 8, 2) := by decide +kernel
theorem dX4_feed_96 : decode cX4_feed 96 = .ok (.iload 6, 2) := by decide +kernel
theorem dX4_feed_98 : decode cX4_feed 98 = .ok (.iconst 4, 1) := by decide +kernel
theorem dX4_feed_99 : decode cX4_feed 99 = .ok (.irem, 1) := by decide +kernel
theorem dX4_feed_100 : decode cX4_feed 100 = .ok (.imul, 1) := by decide +kernel
theorem dX4_feed_101 : decode cX4_feed 101 = .ok (.isub, 1) := by decide +kernel
theorem dX4_feed_102 : decode cX4_feed 102 = .ok (.ishr, 1) := by decide +kernel
theorem dX4_feed_103 : decode cX4_feed 103 = .ok (.sipush 255, 3) := by decide +kernel
theorem dX4_feed_106 : decode cX4_feed 106 = .ok (.iand, 1) := by decide +kernel
theorem dX4_feed_107 : decode cX4_feed 107 = .ok (.iastore, 1) := by decide +kernel
theorem dX4_feed_108 : decode cX4_feed 108 = .ok (.iinc 6 1, 3) := by decide +kernel
theorem dX4_feed_111 : decode cX4_feed 111 = .ok (.goto (-87), 3) := by decide +kernel
theorem dX4_feed_114 : decode cX4_feed 114 = .ok (.aload_n 0, 1) := by decide +kernel
theorem dX4_feed_115 : decode cX4_feed 115 = .ok (.dup, 1) := by decide +kernel
theorem dX4_feed_116 : decode cX4_feed 116 = .ok (.getfield 36, 3) := by decide +kernel
theorem dX4_feed_119 : decode cX4_feed 119 = .ok (.bipush 20, 2) := by decide +kernel
theorem dX4_feed_121 : decode cX4_feed 121 = .ok (.iadd, 1) := by decide +kernel
theorem dX4_feed_122 : decode cX4_feed 122 = .ok (.putfield 36, 3) := by decide +kernel
theorem dX4_feed_125 : decode cX4_feed 125 = .ok (.aload_n 0, 1) := by decide +kernel
theorem dX4_feed_126 : decode cX4_feed 126 = .ok (.getfield 36, 3) := by decide +kernel
theorem dX4_feed_129 : decode cX4_feed 129 = .ok (.ireturn, 1) := by decide +kernel
set_option maxRecDepth 20000 in
theorem ggX4_fill_X4_in : GoodIn wsX4_fill wsX4_in := goodIn_r _ [9] (by decide +kernel) (by decide +kernel)
set_option maxRecDepth 20000 in
theorem gX4_fill_X4_in : GoodIn wsX4_fill (va_wsS RX4 41 yX4_in wsX4_in) := goodIn_app (goodIn_of _ (by decide +kernel)) ggX4_fill_X4_in
theorem dX4_fill_0 : decode cX4_fill 0 = .ok (.aload_n 0, 1) := by decide +kernel
theorem dX4_fill_1 : decode cX4_fill 1 = .ok (.iconst 0, 1) := by decide +kernel
theorem dX4_fill_2 : decode cX4_fill 2 = .ok (.putfield 32, 3) := by decide +kernel
theorem dX4_fill_5 : decode cX4_fill 5 = .ok (.iload_n 1, 1) := by decide +kernel
theorem dX4_fill_6 : decode cX4_fill 6 = .ok (.i2l, 1) := by decide +kernel
theorem dX4_fill_7 : decode cX4_fill 7 = .ok (.lconst 1, 1) := by decide +kernel
theorem dX4_fill_8 : decode cX4_fill 8 = .ok (.ldc2_w 39, 3) := by decide +kernel
theorem dX4_fill_11 : decode cX4_fill 11 = .ok (.invokestatic 41, 3) := by decide +kernel
theorem dX4_fill_14 : decode cX4_fill 14 = .ok (.ifCond .ne 6, 3) := by decide +kernel
theorem dX4_fill_17 : decode cX4_fill 17 = .ok (.bipush (-2), 2) := by decide +kernel
theorem dX4_fill_19 : decode cX4_fill 19 = .ok (.ireturn, 1) := by decide +kernel
theorem dX4_fill_20 : decode cX4_fill 20 = .ok (.aload_n 0, 1) := by decide +kernel
theorem dX4_fill_21 : decode cX4_fill 21 = .ok (.getfield 36, 3) := by decide +kernel
theorem dX4_fill_24 : decode cX4_fill 24 = .ok (.iload_n 1, 1) := by decide +kernel
theorem dX4_fill_25 : decode cX4_fill 25 = .ok (.iadd, 1) := by decide +kernel
theorem dX4_fill_26 : decode cX4_fill 26 = .ok (.sipush 3000, 3) := by decide +kernel
theorem dX4_fill_29 : decode cX4_fill 29 = .ok (.if_icmp .le 6, 3) := by decide +kernel
theorem dX4_fill_32 : decode cX4_fill 32 = .ok (.bipush (-4), 2) := by decide +kernel
theorem dX4_fill_34 : decode cX4_fill 34 = .ok (.ireturn, 1) := by decide +kernel
theorem dX4_fill_35 : decode cX4_fill 35 = .ok (.iload_n 2, 1) := by decide +kernel
theorem dX4_fill_36 : decode cX4_fill 36 = .ok (.istore_n 3, 1) := by decide +kernel
theorem dX4_fill_37 : decode cX4_fill 37 = .ok (.iconst 0, 1) := by decide +kernel
theorem dX4_fill_38 : decode cX4_fill 38 = .ok (.istore 4, 2) := by decide +kernel
theorem dX4_fill_40 : decode cX4_fill 40 = .ok (.iload 4, 2) := by decide +kernel
theorem dX4_fill_42 : decode cX4_fill 42 = .ok (.iload_n 1, 1) := by decide +kernel
theorem dX4_fill_43 : decode cX4_fill 43 = .ok (.if_icmp .ge 38, 3) := by decide +kernel
theorem dX4_fill_46 : decode cX4_fill 46 = .ok (.iload_n 3, 1) := by decide +kernel
theorem dX4_fill_47 : decode cX4_fill 47 = .ok (.ldc 45, 2) := by decide +kernel
theorem dX4_fill_49 : decode cX4_fill 49 = .ok (.imul, 1) := by decide +kernel
theorem dX4_fill_50 : decode cX4_fill 50 = .ok (.sipush 12345, 3) := by decide +kernel
theorem dX4_fill_53 : decode cX4_fill 53 = .ok (.iadd, 1) := by decide +kernel
theorem dX4_fill_54 : decode cX4_fill 54 = .ok (.istore_n 3, 1) := by decide +kernel
theorem dX4_fill_55 : decode cX4_fill 55 = .ok (.aload_n 0, 1) := by decide +kernel
theorem dX4_fill_56 : decode cX4_fill 56 = .ok (.getfield 7, 3) := by decide +kernel
theorem dX4_fill_59 : decode cX4_fill 59 = .ok (.aload_n 0, 1) := by decide +kernel
theorem dX4_fill_60 : decode cX4_fill 60 = .ok (.getfield 36, 3) := by decide +kernel
theorem dX4_fill_63 : decode cX4_fill 63 = .ok (.iload 4, 2) := by decide +kernel
theorem dX4_fill_65 : decode cX4_fill 65 = .ok (.iadd, 1) := by decide +kernel
theorem dX4_fill_66 : decode cX4_fill 66 = .ok (.iload_n 3, 1) := by decide +kernel
theorem dX4_fill_67 : decode cX4_fill 67 = .ok (.bipush 16, 2) := by decide +kernel
theorem dX4_fill_69 : decode cX4_fill 69 = .ok (.ishr, 1) := by decide +kernel
theorem dX4_fill_70 : decode cX4_fill 70 = .ok (.sipush 255, 3) := by decide +kernel
theorem dX4_fill_73 : decode cX4_fill 73 = .ok (.iand, 1) := by decide +kernel
theorem dX4_fill_74 : decode cX4_fill 74 = .ok (.iastore, 1) := by decide +kernel
theorem dX4_fill_75 : decode cX4_fill 75 = .ok (.iinc 4 1, 3) := by decide +kernel
theorem dX4_fill_78 : decode cX4_fill 78 = .ok (.goto (-38), 3) := by decide +kernel
theorem dX4_fill_81 : decode cX4_fill 81 = .ok (.aload_n 0, 1) := by decide +kernel
theorem dX4_fill_82 : decode cX4_fill 82 = .ok (.dup, 1) := by decide +kernel
theorem dX4_fill_83 : decode cX4_fill 83 = .ok (.getfield 36, 3) := by decide +kernel
theorem dX4_fill_86 : decode cX4_fill 86 = .ok (.iload_n 1, 1) := by decide +kernel
theorem dX4_fill_87 : decode cX4_fill 87 = .ok (.iadd, 1) := by decide +kernel
theorem dX4_fill_88 : decode cX4_fill 88 = .ok (.putfield 36, 3) := by decide +kernel
theorem dX4_fill_91 : decode cX4_fill 91 = .ok (.aload_n 0, 1) := by decide +kernel
theorem dX4_fill_92 : decode cX4_fill 92 = .ok (.getfield 36, 3) := by decide +kernel
theorem dX4_fill_95 : decode cX4_fill 95 = .ok (.ireturn, 1) := by decide +kernel
set_option maxRecDepth 20000 in
theorem ggX4_word_X4_in : GoodIn wsX4_word wsX4_in := goodIn_r _ [7] (by decide +kernel) (by decide +kernel)
set_option maxRecDepth 20000 in
theorem gX4_word_X4_in : GoodIn wsX4_word (va_wsS RX4 41 yX4_in wsX4_in) := goodIn_app (goodIn_of _ (by decide +kernel)) ggX4_word_X4_in
theorem dX4_word_0 : decode cX4_word 0 = .ok (.aload_n 0, 1) := by decide +kernel
theorem dX4_word_1 : decode cX4_word 1 = .ok (.iconst 0, 1) := by decide +kernel
theorem dX4_word_2 : decode cX4_word 2 = .ok (.putfield 32, 3) := by decide +kernel
theorem dX4_word_5 : decode cX4_word 5 = .ok (.iload_n 1, 1) := by decide +kernel
theorem dX4_word_6 : decode cX4_word 6 = .ok (.i2l, 1) := by decide +kernel
theorem dX4_word_7 : decode cX4_word 7 = .ok (.lconst 0, 1) := by decide +kernel
theorem dX4_word_8 : decode cX4_word 8 = .ok (.aload_n 0, 1) := by decide +kernel
theorem dX4_word_9 : decode cX4_word 9 = .ok (.getfield 36, 3) := by decide +kernel
theorem dX4_word_12 : decode cX4_word 12 = .ok (.iconst 4, 1) := by decide +kernel
theorem dX4_word_13 : decode cX4_word 13 = .ok (.isub, 1) := by decide +kernel
theorem dX4_word_14 : decode cX4_word 14 = .ok (.i2l, 1) := by decide +kernel
theorem dX4_word_15 : decode cX4_word 15 = .ok (.invokestatic 41, 3) := by decide +kernel
theorem dX4_word_18 : decode cX4_word 18 = .ok (.ifCond .eq 9, 3) := by decide +kernel
theorem dX4_word_21 : decode cX4_word 21 = .ok (.iload_n 1, 1) := by decide +kernel
theorem dX4_word_22 : decode cX4_word 22 = .ok (.iconst 4, 1) := by decide +kernel
theorem dX4_word_23 : decode cX4_word 23 = .ok (.irem, 1) := by decide +kernel
theorem dX4_word_24 : decode cX4_word 24 = .ok (.ifCond .eq 5, 3) := by decide +kernel
theorem dX4_word_27 : decode cX4_word 27 = .ok (.iconst (-1), 1) := by decide +kernel
theorem dX4_word_28 : decode cX4_word 28 = .ok (.ireturn, 1) := by decide +kernel
theorem dX4_word_29 : decode cX4_word 29 = .ok (.iconst 0, 1) := by decide +kernel
theorem dX4_word_30 : decode cX4_word 30 = .ok (.istore_n 3, 1) := by decide +kernel
theorem dX4_word_31 : decode cX4_word 31 = .ok (.iload_n 3, 1) := by decide +kernel
theorem dX4_word_32 : decode cX4_word 32 = .ok (.iconst 4, 1) := by decide +kernel
theorem dX4_word_33 : decode cX4_word 33 = .ok (.if_icmp .ge 30, 3) := by decide +kernel
theorem dX4_word_36 : decode cX4_word 36 = .ok (.aload_n 0, 1) := by decide +kernel
theorem dX4_word_37 : decode cX4_word 37 = .ok (.getfield 7, 3) := by decide +kernel
theorem dX4_word_40 : decode cX4_word 40 = .ok (.iload_n 1, 1) := by decide +kernel
theorem dX4_word_41 : decode cX4_word 41 = .ok (.iload_n 3, 1) := by decide +kernel
theorem dX4_word_42 : decode cX4_word 42 = .ok (.iadd, 1) := by decide +kernel
theorem dX4_word_43 : decode cX4_word 43 = .ok (.iload_n 2, 1) := by decide +kernel
theorem dX4_word_44 : decode cX4_word 44 = .ok (.bipush 24, 2) := by decide +kernel
theorem dX4_word_46 : decode cX4_word 46 = .ok (.bipush 8, 2) := by decide +kernel
theorem dX4_word_48 : decode cX4_word 48 = .ok (.iload_n 3, 1) := by decide +kernel
theorem dX4_word_49 : decode cX4_word 49 = .ok (.imul, 1) := by decide +kernel
theorem dX4_word_50 : decode cX4_word 50 = .ok (.isub, 1) := by decide +kernel
theorem dX4_word_51 : decode cX4_word 51 = .ok (.ishr, 1) := by decide +kernel
theorem dX4_word_52 : decode cX4_word 52 = .ok (.sipush 255, 3) := by decide +kernel
theorem dX4_word_55 : decode cX4_word 55 = .ok (.iand, 1) := by decide +kernel
theorem dX4_word_56 : decode cX4_word 56 = .ok (.iastore, 1) := by decide +kernel
theorem dX4_word_57 : decode cX4_word 57 = .ok (.iinc 3 1, 3) := by decide +kernel
theorem dX4_word_60 : decode cX4_word 60 = .ok (.goto (-29), 3) := by decide +kernel
theorem dX4_word_63 : decode cX4_word 63 = .ok (.iconst 1, 1) := by decide +kernel
theorem dX4_word_64 : decode cX4_word 64 = .ok (.ireturn, 1) := by decide +kernel
set_option maxRecDepth 20000 in
theorem ggX4_cut_X4_in : GoodIn wsX4_cut wsX4_in := goodIn_r _ [6] (by decide +kernel) (by decide +kernel)
set_option maxRecDepth 20000 in
theorem gX4_cut_X4_in : GoodIn wsX4_cut (va_wsS RX4 41 yX4_in wsX4_in) := goodIn_app (goodIn_of _ (by decide +kernel)) ggX4_cut_X4_in
theorem dX4_cut_0 : decode cX4_cut 0 = .ok (.aload_n 0, 1) := by decide +kernel
theorem dX4_cut_1 : decode cX4_cut 1 = .ok (.iconst 0, 1) := by decide +kernel
theorem dX4_cut_2 : decode cX4_cut 2 = .ok (.putfield 32, 3) := by decide +kernel
theorem dX4_cut_5 : decode cX4_cut 5 = .ok (.iload_n 1, 1) := by decide +kernel
theorem dX4_cut_6 : decode cX4_cut 6 = .ok (.i2l, 1) := by decide +kernel
theorem dX4_cut_7 : decode cX4_cut 7 = .ok (.lconst 0, 1) := by decide +kernel
theorem dX4_cut_8 : decode cX4_cut 8 = .ok (.aload_n 0, 1) := by decide +kernel
theorem dX4_cut_9 : decode cX4_cut 9 = .ok (.getfield 36, 3) := by decide +kernel
theorem dX4_cut_12 : decode cX4_cut 12 = .ok (.i2l, 1) := by decide +kernel
theorem dX4_cut_13 : decode cX4_cut 13 = .ok (.invokestatic 41, 3) := by decide +kernel
theorem dX4_cut_16 : decode cX4_cut 16 = .ok (.ifCond .ne 5, 3) := by decide +kernel
theorem dX4_cut_19 : decode cX4_cut 19 = .ok (.iconst (-1), 1) := by decide +kernel
theorem dX4_cut_20 : decode cX4_cut 20 = .ok (.ireturn, 1) := by decide +kernel
theorem dX4_cut_21 : decode cX4_cut 21 = .ok (.aload_n 0, 1) := by decide +kernel
theorem dX4_cut_22 : decode cX4_cut 22 = .ok (.getfield 36, 3) := by decide +kernel
theorem dX4_cut_25 : decode cX4_cut 25 = .ok (.iload_n 1, 1) := by decide +kernel
theorem dX4_cut_26 : decode cX4_cut 26 = .ok (.isub, 1) := by decide +kernel
theorem dX4_cut_27 : decode cX4_cut 27 = .ok (.istore_n 2, 1) := by decide +kernel
theorem dX4_cut_28 : decode cX4_cut 28 = .ok (.aload_n 0, 1) := by decide +kernel
theorem dX4_cut_29 : decode cX4_cut 29 = .ok (.iload_n 1, 1) := by decide +kernel
theorem dX4_cut_30 : decode cX4_cut 30 = .ok (.putfield 36, 3) := by decide +kernel
theorem dX4_cut_33 : decode cX4_cut 33 = .ok (.iload_n 2, 1) := by decide +kernel
theorem dX4_cut_34 : decode cX4_cut 34 = .ok (.ireturn, 1) := by decide +kernel
theorem dX4_wordAt_0 : decode cX4_wordAt 0 = .ok (.lconst 0, 1) := by decide +kernel
theorem dX4_wordAt_1 : decode cX4_wordAt 1 = .ok (.lstore_n 2, 1) := by decide +kernel
theorem dX4_wordAt_2 : decode cX4_wordAt 2 = .ok (.iconst 0, 1) := by decide +kernel
theorem dX4_wordAt_3 : decode cX4_wordAt 3 = .ok (.istore 4, 2) := by decide +kernel
theorem dX4_wordAt_5 : decode cX4_wordAt 5 = .ok (.iload 4, 2) := by decide +kernel
theorem dX4_wordAt_7 : decode cX4_wordAt 7 = .ok (.iconst 4, 1) := by decide +kernel
theorem dX4_wordAt_8 : decode cX4_wordAt 8 = .ok (.if_icmp .ge 41, 3) := by decide +kernel
theorem dX4_wordAt_11 : decode cX4_wordAt 11 = .ok (.lload_n 2, 1) := by decide +kernel
theorem dX4_wordAt_12 : decode cX4_wordAt 12 = .ok (.ldc2_w 46, 3) := by decide +kernel
theorem dX4_wordAt_15 : decode cX4_wordAt 15 = .ok (.lmul, 1) := by decide +kernel
theorem dX4_wordAt_16 : decode cX4_wordAt 16 = .ok (.iload_n 1, 1) := by decide +kernel
theorem dX4_wordAt_17 : decode cX4_wordAt 17 = .ok (.iload 4, 2) := by decide +kernel
theorem dX4_wordAt_19 : decode cX4_wordAt 19 = .ok (.iadd, 1) := by decide +kernel
theorem dX4_wordAt_20 : decode cX4_wordAt 20 = .ok (.aload_n 0, 1) := by decide +kernel
theorem dX4_wordAt_21 : decode cX4_wordAt 21 = .ok (.getfield 36, 3) := by decide +kernel
theorem dX4_wordAt_24 : decode cX4_wordAt 24 = .ok (.if_icmp .ge 15, 3) := by decide +kernel
theorem dX4_wordAt_27 : decode cX4_wordAt 27 = .ok (.aload_n 0, 1) := by decide +kernel
theorem dX4_wordAt_28 : decode cX4_wordAt 28 = .ok (.getfield 7, 3) := by decide +kernel
theorem dX4_wordAt_31 : decode cX4_wordAt 31 = .ok (.iload_n 1, 1) := by decide +kernel
theorem dX4_wordAt_32 : decode cX4_wordAt 32 = .ok (.iload 4, 2) := by decide +kernel
theorem dX4_wordAt_34 : decode cX4_wordAt 34 = .ok (.iadd, 1) := by decide +kernel
theorem dX4_wordAt_35 : decode cX4_wordAt 35 = .ok (.iaload, 1) := by decide +kernel
theorem dX4_wordAt_36 : decode cX4_wordAt 36 = .ok (.goto 4, 3) := by decide +kernel
theorem dX4_wordAt_39 : decode cX4_wordAt 39 = .ok (.iconst 0, 1) := by decide +kernel
theorem dX4_wordAt_40 : decode cX4_wordAt 40 = .ok (.i2l, 1) := by decide +kernel
theorem dX4_wordAt_41 : decode cX4_wordAt 41 = .ok (.ladd, 1) := by decide +kernel
theorem dX4_wordAt_42 : decode cX4_wordAt 42 = .ok (.lstore_n 2, 1) := by decide +kernel
theorem dX4_wordAt_43 : decode cX4_wordAt 43 = .ok (.iinc 4 1, 3) := by decide +kernel
theorem dX4_wordAt_46 : decode cX4_wordAt 46 = .ok (.goto (-41), 3) := by decide +kernel
theorem dX4_wordAt_49 : decode cX4_wordAt 49 = .ok (.lload_n 2, 1) := by decide +kernel
theorem dX4_wordAt_50 : decode cX4_wordAt 50 = .ok (.lreturn, 1) := by decide +kernel
set_option maxRecDepth 20000 in
theorem ggX4_judge_X4_wordAt : GoodIn wsX4_judge wsX4_wordAt := goodIn_r _ [13, 5, 1, 14, 18, 19, 20, 21, 22, 23, 24, 25, 26, 27, 28, 29, 30, 31, 32, 33, 34, 35, 36, 37, 38] (by decide +kernel) (by decide +kernel)
set_option maxRecDepth 20000 in
theorem gX4_judge_X4_wordAt : GoodIn wsX4_judge (wsV RX4 48 RX4 yX4_wordAt wsX4_wordAt) := goodIn_app (goodIn_of _ (by decide +kernel)) ggX4_judge_X4_wordAt
set_option maxRecDepth 20000 in
theorem ggX4_judge_X4_in : GoodIn wsX4_judge wsX4_in := goodIn_r _ [17] (by decide +kernel) (by decide +kernel)
set_option maxRecDepth 20000 in
theorem gX4_judge_X4_in : GoodIn wsX4_judge (va_wsS RX4 41 yX4_in wsX4_in) := goodIn_app (goodIn_of _ (by decide +kernel)) ggX4_judge_X4_in
theorem dX4_judge_0 : decode cX4_judge 0 = .ok (.aload_n 0, 1) := by decide +kernel
theorem dX4_judge_1 : decode cX4_judge 1 = .ok (.getfield 36, 3) := by decide +kernel
theorem dX4_judge_4 : decode cX4_judge 4 = .ok (.bipush 36, 2) := by decide +kernel
theorem dX4_judge_6 : decode cX4_judge 6 = .ok (.if_icmp .ge 5, 3) := by decide +kernel
theorem dX4_judge_9 : decode cX4_judge 9 = .ok (.iconst 1, 1) := by decide +kernel
theorem dX4_judge_10 : decode cX4_judge 10 = .ok (.ireturn, 1) := by decide +kernel
theorem dX4_judge_11 : decode cX4_judge 11 = .ok (.aload_n 0, 1) := by decide +kernel
theorem dX4_judge_12 : decode cX4_judge 12 = .ok (.iconst 0, 1) := by decide +kernel
theorem dX4_judge_13 : decode cX4_judge 13 = .ok (.invokevirtual 48, 3) := by decide +kernel
theorem dX4_judge_16 : decode cX4_judge 16 = .ok (.ldc2_w 52, 3) := by decide +kernel
theorem dX4_judge_19 : decode cX4_judge 19 = .ok (.lcmp, 1) := by decide +kernel
theorem dX4_judge_20 : decode cX4_judge 20 = .ok (.ifCond .eq 5, 3) := by decide +kernel
theorem dX4_judge_23 : decode cX4_judge 23 = .ok (.iconst 2, 1) := by decide +kernel
theorem dX4_judge_24 : decode cX4_judge 24 = .ok (.ireturn, 1) := by decide +kernel
theorem dX4_judge_25 : decode cX4_judge 25 = .ok (.aload_n 0, 1) := by decide +kernel
theorem dX4_judge_26 : decode cX4_judge 26 = .ok (.iconst 4, 1) := by decide +kernel
theorem dX4_judge_27 : decode cX4_judge 27 = .ok (.invokevirtual 48, 3) := by decide +kernel
theorem dX4_judge_30 : decode cX4_judge 30 = .ok (.ldc2_w 54, 3) := by decide +kernel
theorem dX4_judge_33 : decode cX4_judge 33 = .ok (.ldc2_w 56, 3) := by decide +kernel
theorem dX4_judge_36 : decode cX4_judge 36 = .ok (.invokestatic 41, 3) := by decide +kernel
theorem dX4_judge_39 : decode cX4_judge 39 = .ok (.ifCond .ne 5, 3) := by decide +kernel
theorem dX4_judge_42 : decode cX4_judge 42 = .ok (.iconst 3, 1) := by decide +kernel
theorem dX4_judge_43 : decode cX4_judge 43 = .ok (.ireturn, 1) := by decide +kernel
theorem dX4_judge_44 : decode cX4_judge 44 = .ok (.aload_n 0, 1) := by decide +kernel
theorem dX4_judge_45 : decode cX4_judge 45 = .ok (.bipush 8, 2) := by decide +kernel
theorem dX4_judge_47 : decode cX4_judge 47 = .ok (.invokevirtual 48, 3) := by decide +kernel
theorem dX4_judge_50 : decode cX4_judge 50 = .ok (.lstore_n 1, 1) := by decide +kernel
theorem dX4_judge_51 : decode cX4_judge 51 = .ok (.aload_n 0, 1) := by decide +kernel
theorem dX4_judge_52 : decode cX4_judge 52 = .ok (.bipush 12, 2) := by decide +kernel
theorem dX4_judge_54 : decode cX4_judge 54 = .ok (.invokevirtual 48, 3) := by decide +kernel
theorem dX4_judge_57 : decode cX4_judge 57 = .ok (.lstore_n 3, 1) := by decide +kernel
theorem dX4_judge_58 : decode cX4_judge 58 = .ok (.aload_n 0, 1) := by decide +kernel
theorem dX4_judge_59 : decode cX4_judge 59 = .ok (.bipush 16, 2) := by decide +kernel
theorem dX4_judge_61 : decode cX4_judge 61 = .ok (.invokevirtual 48, 3) := by decide +kernel
theorem dX4_judge_64 : decode cX4_judge 64 = .ok (.lstore 5, 2) := by decide +kernel
theorem dX4_judge_66 : decode cX4_judge 66 = .ok (.lload_n 1, 1) := by decide +kernel
theorem dX4_judge_67 : decode cX4_judge 67 = .ok (.ldc2_w 46, 3) := by decide +kernel
theorem dX4_judge_70 : decode cX4_judge 70 = .ok (.lrem, 1) := by decide +kernel
theorem dX4_judge_71 : decode cX4_judge 71 = .ok (.lconst 0, 1) := by decide +kernel
theorem dX4_judge_72 : decode cX4_judge 72 = .ok (.lcmp, 1) := by decide +kernel
theorem dX4_judge_73 : decode cX4_judge 73 = .ok (.ifCond .ne 24, 3) := by decide +kernel
theorem dX4_judge_76 : decode cX4_judge 76 = .ok (.lload_n 3, 1) := by decide +kernel
theorem dX4_judge_77 : decode cX4_judge 77 = .ok (.ldc2_w 46, 3) := by decide +kernel
theorem dX4_judge_80 : decode cX4_judge 80 = .ok (.lrem, 1) := by decide +kernel
theorem dX4_judge_81 : decode cX4_judge 81 = .ok (.lconst 0, 1) := by decide +kernel
theorem dX4_judge_82 : decode cX4_judge 82 = .ok (.lcmp, 1) := by decide +kernel
theorem dX4_judge_83 : decode cX4_judge 83 = .ok (.ifCond .ne 14, 3) := by decide +kernel
theorem dX4_judge_86 : decode cX4_judge 86 = .ok (.lload 5, 2) := by decide +kernel
theorem dX4_judge_88 : decode cX4_judge 88 = .ok (.ldc2_w 46, 3) := by decide +kernel
theorem dX4_judge_91 : decode cX4_judge 91 = .ok (.lrem, 1) := by decide +kernel
theorem dX4_judge_92 : decode cX4_judge 92 = .ok (.lconst 0, 1) := by decide +kernel
theorem dX4_judge_93 : decode cX4_judge 93 = .ok (.lcmp, 1) := by decide +kernel
theorem dX4_judge_94 : decode cX4_judge 94 = .ok (.ifCond .eq 5, 3) := by decide +kernel
theorem dX4_judge_97 : decode cX4_judge 97 = .ok (.iconst 4, 1) := by decide +kernel
theorem dX4_judge_98 : decode cX4_judge 98 = .ok (.ireturn, 1) := by decide +kernel
theorem dX4_judge_99 : decode cX4_judge 99 = .ok (.lload_n 1, 1) := by decide +kernel
theorem dX4_judge_100 : decode cX4_judge 100 = .ok (.ldc2_w 46, 3) := by decide +kernel
theorem dX4_judge_103 : decode cX4_judge 103 = .ok (.lcmp, 1) := by decide +kernel
theorem dX4_judge_104 : decode cX4_judge 104 = .ok (.ifCond .lt 16, 3) := by decide +kernel
theorem dX4_judge_107 : decode cX4_judge 107 = .ok (.lload_n 1, 1) := by decide +kernel
theorem dX4_judge_108 : decode cX4_judge 108 = .ok (.lload_n 3, 1) := by decide +kernel
theorem dX4_judge_109 : decode cX4_judge 109 = .ok (.lcmp, 1) := by decide +kernel
theorem dX4_judge_110 : decode cX4_judge 110 = .ok (.ifCond .gt 10, 3) := by decide +kernel
theorem dX4_judge_113 : decode cX4_judge 113 = .ok (.lload_n 3, 1) := by decide +kernel
theorem dX4_judge_114 : decode cX4_judge 114 = .ok (.lload 5, 2) := by decide +kernel
theorem dX4_judge_116 : decode cX4_judge 116 = .ok (.lcmp, 1) := by decide +kernel
theorem dX4_judge_117 : decode cX4_judge 117 = .ok (.ifCond .le 5, 3) := by decide +kernel
theorem dX4_judge_120 : decode cX4_judge 120 = .ok (.iconst 5, 1) := by decide +kernel
theorem dX4_judge_121 : decode cX4_judge 121 = .ok (.ireturn, 1) := by decide +kernel
theorem dX4_judge_122 : decode cX4_judge 122 = .ok (.lload_n 3, 1) := by decide +kernel
theorem dX4_judge_123 : decode cX4_judge 123 = .ok (.aload_n 0, 1) := by decide +kernel
theorem dX4_judge_124 : decode cX4_judge 124 = .ok (.getfield 36, 3) := by decide +kernel
theorem dX4_judge_127 : decode cX4_judge 127 = .ok (.i2l, 1) := by decide +kernel
theorem dX4_judge_128 : decode cX4_judge 128 = .ok (.lcmp, 1) := by decide +kernel
theorem dX4_judge_129 : decode cX4_judge 129 = .ok (.ifCond .eq 6, 3) := by decide +kernel
theorem dX4_judge_132 : decode cX4_judge 132 = .ok (.bipush 6, 2) := by decide +kernel
theorem dX4_judge_134 : decode cX4_judge 134 = .ok (.ireturn, 1) := by decide +kernel
theorem dX4_judge_135 : decode cX4_judge 135 = .ok (.aload_n 0, 1) := by decide +kernel
theorem dX4_judge_136 : decode cX4_judge 136 = .ok (.bipush 20, 2) := by decide +kernel
theorem dX4_judge_138 : decode cX4_judge 138 = .ok (.invokevirtual 48, 3) := by decide +kernel
theorem dX4_judge_141 : decode cX4_judge 141 = .ok (.lstore 7, 2) := by decide +kernel
theorem dX4_judge_143 : decode cX4_judge 143 = .ok (.lload 7, 2) := by decide +kernel
theorem dX4_judge_145 : decode cX4_judge 145 = .ok (.lconst 0, 1) := by decide +kernel
theorem dX4_judge_146 : decode cX4_judge 146 = .ok (.lcmp, 1) := by decide +kernel
theorem dX4_judge_147 : decode cX4_judge 147 = .ok (.ifCond .eq 14, 3) := by decide +kernel
theorem dX4_judge_150 : decode cX4_judge 150 = .ok (.lload 7, 2) := by decide +kernel
theorem dX4_judge_152 : decode cX4_judge 152 = .ok (.ldc2_w 46, 3) := by decide +kernel
theorem dX4_judge_155 : decode cX4_judge 155 = .ok (.lrem, 1) := by decide +kernel
theorem dX4_judge_156 : decode cX4_judge 156 = .ok (.lconst 0, 1) := by decide +kernel
theorem dX4_judge_157 : decode cX4_judge 157 = .ok (.lcmp, 1) := by decide +kernel
theorem dX4_judge_158 : decode cX4_judge 158 = .ok (.ifCond .eq 6, 3) := by decide +kernel
theorem dX4_judge_161 : decode cX4_judge 161 = .ok (.bipush 7, 2) := by decide +kernel
theorem dX4_judge_163 : decode cX4_judge 163 = .ok (.ireturn, 1) := by decide +kernel
theorem dX4_judge_164 : decode cX4_judge 164 = .ok (.aload_n 0, 1) := by decide +kernel
theorem dX4_judge_165 : decode cX4_judge 165 = .ok (.bipush 24, 2) := by decide +kernel
theorem dX4_judge_167 : decode cX4_judge 167 = .ok (.invokevirtual 48, 3) := by decide +kernel
theorem dX4_judge_170 : decode cX4_judge 170 = .ok (.lstore 9, 2) := by decide +kernel
theorem dX4_judge_172 : decode cX4_judge 172 = .ok (.lload 9, 2) := by decide +kernel
theorem dX4_judge_174 : decode cX4_judge 174 = .ok (.ldc2_w 58, 3) := by decide +kernel
theorem dX4_judge_177 : decode cX4_judge 177 = .ok (.lcmp, 1) := by decide +kernel
theorem dX4_judge_178 : decode cX4_judge 178 = .ok (.ifCond .lt 11, 3) := by decide +kernel
theorem dX4_judge_181 : decode cX4_judge 181 = .ok (.lload 9, 2) := by decide +kernel
theorem dX4_judge_183 : decode cX4_judge 183 = .ok (.lload 5, 2) := by decide +kernel
theorem dX4_judge_185 : decode cX4_judge 185 = .ok (.lcmp, 1) := by decide +kernel
theorem dX4_judge_186 : decode cX4_judge 186 = .ok (.ifCond .lt 6, 3) := by decide +kernel
theorem dX4_judge_189 : decode cX4_judge 189 = .ok (.bipush 8, 2) := by decide +kernel
theorem dX4_judge_191 : decode cX4_judge 191 = .ok (.ireturn, 1) := by decide +kernel
theorem dX4_judge_192 : decode cX4_judge 192 = .ok (.aload_n 0, 1) := by decide +kernel
theorem dX4_judge_193 : decode cX4_judge 193 = .ok (.bipush 28, 2) := by decide +kernel
theorem dX4_judge_195 : decode cX4_judge 195 = .ok (.invokevirtual 48, 3) := by decide +kernel
theorem dX4_judge_198 : decode cX4_judge 198 = .ok (.lstore 11, 2) := by decide +kernel
theorem dX4_judge_200 : decode cX4_judge 200 = .ok (.lload 11, 2) := by decide +kernel
theorem dX4_judge_202 : decode cX4_judge 202 = .ok (.lconst 0, 1) := by decide +kernel
theorem dX4_judge_203 : decode cX4_judge 203 = .ok (.lcmp, 1) := by decide +kernel
theorem dX4_judge_204 : decode cX4_judge 204 = .ok (.ifCond .eq 23, 3) := by decide +kernel
theorem dX4_judge_207 : decode cX4_judge 207 = .ok (.lload 11, 2) := by decide +kernel
theorem dX4_judge_209 : decode cX4_judge 209 = .ok (.ldc2_w 58, 3) := by decide +kernel
theorem dX4_judge_212 : decode cX4_judge 212 = .ok (.lcmp, 1) := by decide +kernel
theorem dX4_judge_213 : decode cX4_judge 213 = .ok (.ifCond .lt 11, 3) := by decide +kernel
theorem dX4_judge_216 : decode cX4_judge 216 = .ok (.lload 11, 2) := by decide +kernel
theorem dX4_judge_218 : decode cX4_judge 218 = .ok (.lload 5, 2) := by decide +kernel
theorem dX4_judge_220 : decode cX4_judge 220 = .ok (.lcmp, 1) := by decide +kernel
theorem dX4_judge_221 : decode cX4_judge 221 = .ok (.ifCond .lt 6, 3) := by decide +kernel
theorem dX4_judge_224 : decode cX4_judge 224 = .ok (.bipush 9, 2) := by decide +kernel
theorem dX4_judge_226 : decode cX4_judge 226 = .ok (.ireturn, 1) := by decide +kernel
theorem dX4_judge_227 : decode cX4_judge 227 = .ok (.lload 5, 2) := by decide +kernel
theorem dX4_judge_229 : decode cX4_judge 229 = .ok (.ldc2_w 60, 3) := by decide +kernel
theorem dX4_judge_232 : decode cX4_judge 232 = .ok (.lcmp, 1) := by decide +kernel
theorem dX4_judge_233 : decode cX4_judge 233 = .ok (.ifCond .gt 12, 3) := by decide +kernel
theorem dX4_judge_236 : decode cX4_judge 236 = .ok (.lload 7, 2) := by decide +kernel
theorem dX4_judge_238 : decode cX4_judge 238 = .ok (.ldc2_w 62, 3) := by decide +kernel
theorem dX4_judge_241 : decode cX4_judge 241 = .ok (.lcmp, 1) := by decide +kernel
theorem dX4_judge_242 : decode cX4_judge 242 = .ok (.ifCond .le 8, 3) := by decide +kernel
theorem dX4_judge_245 : decode cX4_judge 245 = .ok (.bipush 10, 2) := by decide +kernel
theorem dX4_judge_247 : decode cX4_judge 247 = .ok (.goto 4, 3) := by decide +kernel
theorem dX4_judge_250 : decode cX4_judge 250 = .ok (.iconst 0, 1) := by decide +kernel
theorem dX4_judge_251 : decode cX4_judge 251 = .ok (.ireturn, 1) := by decide +kernel
set_option maxRecDepth 20000 in
theorem ggX4_verdict_X4_judge : GoodIn wsX4_verdict wsX4_judge := goodIn_r _ [6, 7, 8, 9, 10, 11, 12, 13, 14, 15, 16, 17, 5, 18, 19, 20, 21, 22, 23, 24, 25, 26, 27, 28, 29, 30, 31, 32, 33, 34, 35, 36, 37, 38, 39, 40, 41, 42, 43] (by decide +kernel) (by decide +kernel)
set_option maxRecDepth 20000 in
theorem gX4_verdict_X4_judge : GoodIn wsX4_verdict (wsV RX4 64 RX4 yX4_judge wsX4_judge) := goodIn_app (goodIn_of _ (by decide +kernel)) ggX4_verdict_X4_judge
theorem dX4_verdict_0 : decode cX4_verdict 0 = .ok (.aload_n 0, 1) := by decide +kernel
theorem dX4_verdict_1 : decode cX4_verdict 1 = .ok (.iconst 0, 1) := by decide +kernel
theorem dX4_verdict_2 : decode cX4_verdict 2 = .ok (.putfield 32, 3) := by decide +kernel
theorem dX4_verdict_5 : decode cX4_verdict 5 = .ok (.aload_n 0, 1) := by decide +kernel
theorem dX4_verdict_6 : decode cX4_verdict 6 = .ok (.invokevirtual 64, 3) := by decide +kernel
theorem dX4_verdict_9 : decode cX4_verdict 9 = .ok (.ireturn, 1) := by decide +kernel
set_option maxRecDepth 20000 in
theorem ggX4_sumOf_X4_wordAt : GoodIn wsX4_sumOf wsX4_wordAt := goodIn_r _ [7, 8, 1, 9, 10, 11, 12, 13, 14, 15, 16, 17, 18, 19, 20, 21, 22, 23, 24, 25, 26, 27, 28, 29, 30] (by decide +kernel) (by decide +kernel)
set_option maxRecDepth 20000 in
theorem gX4_sumOf_X4_wordAt : GoodIn wsX4_sumOf (wsV RX4 48 RX4 yX4_wordAt wsX4_wordAt) := goodIn_app (goodIn_of _ (by decide +kernel)) ggX4_sumOf_X4_wordAt
theorem dX4_sumOf_0 : decode cX4_sumOf 0 = .ok (.lconst 0, 1) := by decide +kernel
theorem dX4_sumOf_1 : decode cX4_sumOf 1 = .ok (.lstore_n 1, 1) := by decide +kernel
theorem dX4_sumOf_2 : decode cX4_sumOf 2 = .ok (.iconst 0, 1) := by decide +kernel
theorem dX4_sumOf_3 : decode cX4_sumOf 3 = .ok (.istore_n 3, 1) := by decide +kernel
theorem dX4_sumOf_4 : decode cX4_sumOf 4 = .ok (.iload_n 3, 1) := by decide +kernel
theorem dX4_sumOf_5 : decode cX4_sumOf 5 = .ok (.aload_n 0, 1) := by decide +kernel
theorem dX4_sumOf_6 : decode cX4_sumOf 6 = .ok (.getfield 36, 3) := by decide +kernel
theorem dX4_sumOf_9 : decode cX4_sumOf 9 = .ok (.if_icmp .ge 27, 3) := by decide +kernel
theorem dX4_sumOf_12 : decode cX4_sumOf 12 = .ok (.lload_n 1, 1) := by decide +kernel
theorem dX4_sumOf_13 : decode cX4_sumOf 13 = .ok (.iload_n 3, 1) := by decide +kernel
theorem dX4_sumOf_14 : decode cX4_sumOf 14 = .ok (.bipush 32, 2) := by decide +kernel
theorem dX4_sumOf_16 : decode cX4_sumOf 16 = .ok (.if_icmp .ne 7, 3) := by decide +kernel
theorem dX4_sumOf_19 : decode cX4_sumOf 19 = .ok (.lconst 0, 1) := by decide +kernel
theorem dX4_sumOf_20 : decode cX4_sumOf 20 = .ok (.goto 8, 3) := by decide +kernel
theorem dX4_sumOf_23 : decode cX4_sumOf 23 = .ok (.aload_n 0, 1) := by decide +kernel
theorem dX4_sumOf_24 : decode cX4_sumOf 24 = .ok (.iload_n 3, 1) := by decide +kernel
theorem dX4_sumOf_25 : decode cX4_sumOf 25 = .ok (.invokevirtual 48, 3) := by decide +kernel
theorem dX4_sumOf_28 : decode cX4_sumOf 28 = .ok (.ladd, 1) := by decide +kernel
theorem dX4_sumOf_29 : decode cX4_sumOf 29 = .ok (.lstore_n 1, 1) := by decide +kernel
theorem dX4_sumOf_30 : decode cX4_sumOf 30 = .ok (.iinc 3 4, 3) := by decide +kernel
theorem dX4_sumOf_33 : decode cX4_sumOf 33 = .ok (.goto (-29), 3) := by decide +kernel
theorem dX4_sumOf_36 : decode cX4_sumOf 36 = .ok (.lload_n 1, 1) := by decide +kernel
theorem dX4_sumOf_37 : decode cX4_sumOf 37 = .ok (.ldc2_w 68, 3) := by decide +kernel
theorem dX4_sumOf_40 : decode cX4_sumOf 40 = .ok (.land, 1) := by decide +kernel
theorem dX4_sumOf_41 : decode cX4_sumOf 41 = .ok (.lreturn, 1) := by decide +kernel
set_option maxRecDepth 20000 in
theorem ggX4_sum_X4_sumOf : GoodIn wsX4_sum wsX4_sumOf := goodIn_r _ [8, 2, 9, 10, 11, 12, 7, 13, 14, 15, 16, 17, 18, 19, 20, 21, 22, 23, 24, 25, 26, 27, 28, 29, 30, 31, 32, 33, 34, 35, 36] (by decide +kernel) (by decide +kernel)
set_option maxRecDepth 20000 in
theorem gX4_sum_X4_sumOf : GoodIn wsX4_sum (wsV RX4 72 RX4 yX4_sumOf wsX4_sumOf) := goodIn_app (goodIn_of _ (by decide +kernel)) ggX4_sum_X4_sumOf
theorem dX4_sum_0 : decode cX4_sum 0 = .ok (.aload_n 0, 1) := by decide +kernel
theorem dX4_sum_1 : decode cX4_sum 1 = .ok (.iconst 0, 1) := by decide +kernel
theorem dX4_sum_2 : decode cX4_sum 2 = .ok (.putfield 32, 3) := by decide +kernel
theorem dX4_sum_5 : decode cX4_sum 5 = .ok (.aload_n 0, 1) := by decide +kernel
theorem dX4_sum_6 : decode cX4_sum 6 = .ok (.getfield 36, 3) := by decide +kernel
theorem dX4_sum_9 : decode cX4_sum 9 = .ok (.bipush 36, 2) := by decide +kernel
theorem dX4_sum_11 : decode cX4_sum 11 = .ok (.if_icmp .ge 9, 3) := by decide +kernel
theorem dX4_sum_14 : decode cX4_sum 14 = .ok (.ldc2_w 70, 3) := by decide +kernel
theorem dX4_sum_17 : decode cX4_sum 17 = .ok (.goto 7, 3) := by decide +kernel
theorem dX4_sum_20 : decode cX4_sum 20 = .ok (.aload_n 0, 1) := by decide +kernel
theorem dX4_sum_21 : decode cX4_sum 21 = .ok (.invokevirtual 72, 3) := by decide +kernel
theorem dX4_sum_24 : decode cX4_sum 24 = .ok (.lreturn, 1) := by decide +kernel
set_option maxRecDepth 20000 in
theorem ggX4_load_X4_judge : GoodIn wsX4_load wsX4_judge := goodIn_r _ [23, 9, 24, 25, 26, 27, 28, 29, 30, 31, 32, 33, 22, 34, 10, 35, 36, 37, 43, 44, 45, 46, 47, 48, 49, 50, 51, 52, 53, 54, 55, 56, 57, 58, 59, 60, 61, 62, 63] (by decide +kernel) (by decide +kernel)
set_option maxRecDepth 20000 in
theorem gX4_load_X4_judge : GoodIn wsX4_load (wsV RX4 64 RX4 yX4_judge wsX4_judge) := goodIn_app (goodIn_of _ (by decide +kernel)) ggX4_load_X4_judge
set_option maxRecDepth 20000 in
theorem ggX4_load_X4_wordAt : GoodIn wsX4_load wsX4_wordAt := goodIn_r _ [34, 27, 9, 10, 43, 44, 45, 46, 47, 48, 49, 50, 51, 52, 53, 54, 55, 56, 57, 58, 59, 60, 61, 62, 63] (by decide +kernel) (by decide +kernel)
set_option maxRecDepth 20000 in
theorem gX4_load_X4_wordAt : GoodIn wsX4_load (wsV RX4 48 RX4 yX4_wordAt wsX4_wordAt) := goodIn_app (goodIn_of _ (by decide +kernel)) ggX4_load_X4_wordAt
set_option maxRecDepth 20000 in
theorem ggX4_load_X4_sumOf : GoodIn wsX4_load wsX4_sumOf := goodIn_r _ [41, 9, 42, 31, 32, 33, 22, 34, 27, 10, 43, 44, 45, 46, 47, 48, 49, 50, 51, 52, 53, 54, 55, 56, 57, 58, 59, 60, 61, 62, 63] (by decide +kernel) (by decide +kernel)
set_option maxRecDepth 20000 in
theorem gX4_load_X4_sumOf : GoodIn wsX4_load (wsV RX4 72 RX4 yX4_sumOf wsX4_sumOf) := goodIn_app (goodIn_of _ (by decide +kernel)) ggX4_load_X4_sumOf
theorem dX4_load_0 : decode cX4_load 0 = .ok (.aload_n 0, 1) := by decide +kernel
theorem dX4_load_1 : decode cX4_load 1 = .ok (.iconst 0, 1) := by decide +kernel
theorem dX4_load_2 : decode cX4_load 2 = .ok (.putfield 32, 3) := by decide +kernel
theorem dX4_load_5 : decode cX4_load 5 = .ok (.aload_n 0, 1) := by decide +kernel
theorem dX4_load_6 : decode cX4_load 6 = .ok (.invokevirtual 64, 3) := by decide +kernel
theorem dX4_load_9 : decode cX4_load 9 = .ok (.istore_n 1, 1) := by decide +kernel
theorem dX4_load_10 : decode cX4_load 10 = .ok (.iload_n 1, 1) := by decide +kernel
theorem dX4_load_11 : decode cX4_load 11 = .ok (.ifCond .eq 5, 3) := by decide +kernel
theorem dX4_load_14 : decode cX4_load 14 = .ok (.iload_n 1, 1) := by decide +kernel
theorem dX4_load_15 : decode cX4_load 15 = .ok (.ireturn, 1) := by decide +kernel
theorem dX4_load_16 : decode cX4_load 16 = .ok (.aload_n 0, 1) := by decide +kernel
theorem dX4_load_17 : decode cX4_load 17 = .ok (.iconst 1, 1) := by decide +kernel
theorem dX4_load_18 : decode cX4_load 18 = .ok (.putfield 76, 3) := by decide +kernel
theorem dX4_load_21 : decode cX4_load 21 = .ok (.iconst 0, 1) := by decide +kernel
theorem dX4_load_22 : decode cX4_load 22 = .ok (.istore_n 2, 1) := by decide +kernel
theorem dX4_load_23 : decode cX4_load 23 = .ok (.iload_n 2, 1) := by decide +kernel
theorem dX4_load_24 : decode cX4_load 24 = .ok (.bipush 9, 2) := by decide +kernel
theorem dX4_load_26 : decode cX4_load 26 = .ok (.if_icmp .ge 22, 3) := by decide +kernel
theorem dX4_load_29 : decode cX4_load 29 = .ok (.aload_n 0, 1) := by decide +kernel
theorem dX4_load_30 : decode cX4_load 30 = .ok (.getfield 13, 3) := by decide +kernel
theorem dX4_load_33 : decode cX4_load 33 = .ok (.iload_n 2, 1) := by decide +kernel
theorem dX4_load_34 : decode cX4_load 34 = .ok (.aload_n 0, 1) := by decide +kernel
theorem dX4_load_35 : decode cX4_load 35 = .ok (.iconst 4, 1) := by decide +kernel
theorem dX4_load_36 : decode cX4_load 36 = .ok (.iload_n 2, 1) := by decide +kernel
theorem dX4_load_37 : decode cX4_load 37 = .ok (.imul, 1) := by decide +kernel
theorem dX4_load_38 : decode cX4_load 38 = .ok (.invokevirtual 48, 3) := by decide +kernel
theorem dX4_load_41 : decode cX4_load 41 = .ok (.lastore, 1) := by decide +kernel
theorem dX4_load_42 : decode cX4_load 42 = .ok (.iinc 2 1, 3) := by decide +kernel
theorem dX4_load_45 : decode cX4_load 45 = .ok (.goto (-22), 3) := by decide +kernel
theorem dX4_load_48 : decode cX4_load 48 = .ok (.aload_n 0, 1) := by decide +kernel
theorem dX4_load_49 : decode cX4_load 49 = .ok (.aload_n 0, 1) := by decide +kernel
theorem dX4_load_50 : decode cX4_load 50 = .ok (.invokevirtual 72, 3) := by decide +kernel
theorem dX4_load_53 : decode cX4_load 53 = .ok (.aload_n 0, 1) := by decide +kernel
theorem dX4_load_54 : decode cX4_load 54 = .ok (.getfield 13, 3) := by decide +kernel
theorem dX4_load_57 : decode cX4_load 57 = .ok (.bipush 8, 2) := by decide +kernel
theorem dX4_load_59 : decode cX4_load 59 = .ok (.laload, 1) := by decide +kernel
theorem dX4_load_60 : decode cX4_load 60 = .ok (.lcmp, 1) := by decide +kernel
theorem dX4_load_61 : decode cX4_load 61 = .ok (.ifCond .ne 7, 3) := by decide +kernel
theorem dX4_load_64 : decode cX4_load 64 = .ok (.iconst 1, 1) := by decide +kernel
theorem dX4_load_65 : decode cX4_load 65 = .ok (.goto 4, 3) := by decide +kernel
theorem dX4_load_68 : decode cX4_load 68 = .ok (.iconst 0, 1) := by decide +kernel
theorem dX4_load_69 : decode cX4_load 69 = .ok (.putfield 80, 3) := by decide +kernel
theorem dX4_load_72 : decode cX4_load 72 = .ok (.aload_n 0, 1) := by decide +kernel
theorem dX4_load_73 : decode cX4_load 73 = .ok (.aload_n 0, 1) := by decide +kernel
theorem dX4_load_74 : decode cX4_load 74 = .ok (.getfield 13, 3) := by decide +kernel
theorem dX4_load_77 : decode cX4_load 77 = .ok (.iconst 2, 1) := by decide +kernel
theorem dX4_load_78 : decode cX4_load 78 = .ok (.laload, 1) := by decide +kernel
theorem dX4_load_79 : decode cX4_load 79 = .ok (.l2i, 1) := by decide +kernel
theorem dX4_load_80 : decode cX4_load 80 = .ok (.putfield 83, 3) := by decide +kernel
theorem dX4_load_83 : decode cX4_load 83 = .ok (.aload_n 0, 1) := by decide +kernel
theorem dX4_load_84 : decode cX4_load 84 = .ok (.aload_n 0, 1) := by decide +kernel
theorem dX4_load_85 : decode cX4_load 85 = .ok (.getfield 13, 3) := by decide +kernel
theorem dX4_load_88 : decode cX4_load 88 = .ok (.iconst 4, 1) := by decide +kernel
theorem dX4_load_89 : decode cX4_load 89 = .ok (.laload, 1) := by decide +kernel
theorem dX4_load_90 : decode cX4_load 90 = .ok (.l2i, 1) := by decide +kernel
theorem dX4_load_91 : decode cX4_load 91 = .ok (.putfield 86, 3) := by decide +kernel
theorem dX4_load_94 : decode cX4_load 94 = .ok (.aload_n 0, 1) := by decide +kernel
theorem dX4_load_95 : decode cX4_load 95 = .ok (.aload_n 0, 1) := by decide +kernel
theorem dX4_load_96 : decode cX4_load 96 = .ok (.getfield 86, 3) := by decide +kernel
theorem dX4_load_99 : decode cX4_load 99 = .ok (.putfield 89, 3) := by decide +kernel
theorem dX4_load_102 : decode cX4_load 102 = .ok (.iconst 0, 1) := by decide +kernel
theorem dX4_load_103 : decode cX4_load 103 = .ok (.istore_n 2, 1) := by decide +kernel
theorem dX4_load_104 : decode cX4_load 104 = .ok (.iload_n 2, 1) := by decide +kernel
theorem dX4_load_105 : decode cX4_load 105 = .ok (.aload_n 0, 1) := by decide +kernel
theorem dX4_load_106 : decode cX4_load 106 = .ok (.getfield 86, 3) := by decide +kernel
theorem dX4_load_109 : decode cX4_load 109 = .ok (.if_icmp .ge 45, 3) := by decide +kernel
theorem dX4_load_112 : decode cX4_load 112 = .ok (.aload_n 0, 1) := by decide +kernel
theorem dX4_load_113 : decode cX4_load 113 = .ok (.getfield 17, 3) := by decide +kernel
theorem dX4_load_116 : decode cX4_load 116 = .ok (.iload_n 2, 1) := by decide +kernel
theorem dX4_load_117 : decode cX4_load 117 = .ok (.iload_n 2, 1) := by decide +kernel
theorem dX4_load_118 : decode cX4_load 118 = .ok (.aload_n 0, 1) := by decide +kernel
theorem dX4_load_119 : decode cX4_load 119 = .ok (.getfield 36, 3) := by decide +kernel
theorem dX4_load_122 : decode cX4_load 122 = .ok (.if_icmp .ge 12, 3) := by decide +kernel
theorem dX4_load_125 : decode cX4_load 125 = .ok (.aload_n 0, 1) := by decide +kernel
theorem dX4_load_126 : decode cX4_load 126 = .ok (.getfield 7, 3) := by decide +kernel
theorem dX4_load_129 : decode cX4_load 129 = .ok (.iload_n 2, 1) := by decide +kernel
theorem dX4_load_130 : decode cX4_load 130 = .ok (.iaload, 1) := by decide +kernel
theorem dX4_load_131 : decode cX4_load 131 = .ok (.goto 4, 3) := by decide +kernel
theorem dX4_load_134 : decode cX4_load 134 = .ok (.iconst 0, 1) := by decide +kernel
theorem dX4_load_135 : decode cX4_load 135 = .ok (.iastore, 1) := by decide +kernel
theorem dX4_load_136 : decode cX4_load 136 = .ok (.aload_n 0, 1) := by decide +kernel
theorem dX4_load_137 : decode cX4_load 137 = .ok (.getfield 20, 3) := by decide +kernel
theorem dX4_load_140 : decode cX4_load 140 = .ok (.iload_n 2, 1) := by decide +kernel
theorem dX4_load_141 : decode cX4_load 141 = .ok (.aload_n 0, 1) := by decide +kernel
theorem dX4_load_142 : decode cX4_load 142 = .ok (.getfield 17, 3) := by decide +kernel
theorem dX4_load_145 : decode cX4_load 145 = .ok (.iload_n 2, 1) := by decide +kernel
theorem dX4_load_146 : decode cX4_load 146 = .ok (.iaload, 1) := by decide +kernel
theorem dX4_load_147 : decode cX4_load 147 = .ok (.iastore, 1) := by decide +kernel
theorem dX4_load_148 : decode cX4_load 148 = .ok (.iinc 2 1, 3) := by decide +kernel
theorem dX4_load_151 : decode cX4_load 151 = .ok (.goto (-47), 3) := by decide +kernel
theorem dX4_load_154 : decode cX4_load 154 = .ok (.aload_n 0, 1) := by decide +kernel
theorem dX4_load_155 : decode cX4_load 155 = .ok (.iconst 0, 1) := by decide +kernel
theorem dX4_load_156 : decode cX4_load 156 = .ok (.putfield 92, 3) := by decide +kernel
theorem dX4_load_159 : decode cX4_load 159 = .ok (.aload_n 0, 1) := by decide +kernel
theorem dX4_load_160 : decode cX4_load 160 = .ok (.iconst 0, 1) := by decide +kernel
theorem dX4_load_161 : decode cX4_load 161 = .ok (.putfield 95, 3) := by decide +kernel
theorem dX4_load_164 : decode cX4_load 164 = .ok (.aload_n 0, 1) := by decide +kernel
theorem dX4_load_165 : decode cX4_load 165 = .ok (.iconst 0, 1) := by decide +kernel
theorem dX4_load_166 : decode cX4_load 166 = .ok (.putfield 98, 3) := by decide +kernel
theorem dX4_load_169 : decode cX4_load 169 = .ok (.aload_n 0, 1) := by decide +kernel
theorem dX4_load_170 : decode cX4_load 170 = .ok (.iconst 0, 1) := by decide +kernel
theorem dX4_load_171 : decode cX4_load 171 = .ok (.putfield 101, 3) := by decide +kernel
theorem dX4_load_174 : decode cX4_load 174 = .ok (.aload_n 0, 1) := by decide +kernel
theorem dX4_load_175 : decode cX4_load 175 = .ok (.iconst 0, 1) := by decide +kernel
theorem dX4_load_176 : decode cX4_load 176 = .ok (.putfield 104, 3) := by decide +kernel
theorem dX4_load_179 : decode cX4_load 179 = .ok (.aload_n 0, 1) := by decide +kernel
theorem dX4_load_180 : decode cX4_load 180 = .ok (.iconst 0, 1) := by decide +kernel
theorem dX4_load_181 : decode cX4_load 181 = .ok (.putfield 107, 3) := by decide +kernel
theorem dX4_load_184 : decode cX4_load 184 = .ok (.aload_n 0, 1) := by decide +kernel
theorem dX4_load_185 : decode cX4_load 185 = .ok (.iconst 0, 1) := by decide +kernel
theorem dX4_load_186 : decode cX4_load 186 = .ok (.putfield 110, 3) := by decide +kernel
theorem dX4_load_189 : decode cX4_load 189 = .ok (.iconst 0, 1) := by decide +kernel
theorem dX4_load_190 : decode cX4_load 190 = .ok (.ireturn, 1) := by decide +kernel
set_option maxRecDepth 20000 in
theorem ggX4_told_X4_in : GoodIn wsX4_told wsX4_in := goodIn_r _ [16] (by decide +kernel) (by decide +kernel)
set_option maxRecDepth 20000 in
theorem gX4_told_X4_in : GoodIn wsX4_told (va_wsS RX4 41 yX4_in wsX4_in) := goodIn_app (goodIn_of _ (by decide +kernel)) ggX4_told_X4_in
theorem dX4_told_0 : decode cX4_told 0 = .ok (.aload_n 0, 1) := by decide +kernel
theorem dX4_told_1 : decode cX4_told 1 = .ok (.iconst 0, 1) := by decide +kernel
theorem dX4_told_2 : decode cX4_told 2 = .ok (.putfield 32, 3) := by decide +kernel
theorem dX4_told_5 : decode cX4_told 5 = .ok (.aload_n 0, 1) := by decide +kernel
theorem dX4_told_6 : decode cX4_told 6 = .ok (.getfield 76, 3) := by decide +kernel
theorem dX4_told_9 : decode cX4_told 9 = .ok (.ifCond .eq 15, 3) := by decide +kernel
theorem dX4_told_12 : decode cX4_told 12 = .ok (.iload_n 1, 1) := by decide +kernel
theorem dX4_told_13 : decode cX4_told 13 = .ok (.i2l, 1) := by decide +kernel
theorem dX4_told_14 : decode cX4_told 14 = .ok (.lconst 0, 1) := by decide +kernel
theorem dX4_told_15 : decode cX4_told 15 = .ok (.ldc2_w 113, 3) := by decide +kernel
theorem dX4_told_18 : decode cX4_told 18 = .ok (.invokestatic 41, 3) := by decide +kernel
theorem dX4_told_21 : decode cX4_told 21 = .ok (.ifCond .ne 7, 3) := by decide +kernel
theorem dX4_told_24 : decode cX4_told 24 = .ok (.ldc2_w 70, 3) := by decide +kernel
theorem dX4_told_27 : decode cX4_told 27 = .ok (.lreturn, 1) := by decide +kernel
theorem dX4_told_28 : decode cX4_told 28 = .ok (.iload_n 1, 1) := by decide +kernel
theorem dX4_told_29 : decode cX4_told 29 = .ok (.tableswitch 103 9 15 #[43, 49, 66, 72, 78, 84, 90], 43) := by decide +kernel
theorem dX4_told_72 : decode cX4_told 72 = .ok (.aload_n 0, 1) := by decide +kernel
theorem dX4_told_73 : decode cX4_told 73 = .ok (.getfield 89, 3) := by decide +kernel
theorem dX4_told_76 : decode cX4_told 76 = .ok (.i2l, 1) := by decide +kernel
theorem dX4_told_77 : decode cX4_told 77 = .ok (.lreturn, 1) := by decide +kernel
theorem dX4_told_78 : decode cX4_told 78 = .ok (.aload_n 0, 1) := by decide +kernel
theorem dX4_told_79 : decode cX4_told 79 = .ok (.getfield 95, 3) := by decide +kernel
theorem dX4_told_82 : decode cX4_told 82 = .ok (.ifCond .ne 7, 3) := by decide +kernel
theorem dX4_told_85 : decode cX4_told 85 = .ok (.lconst 0, 1) := by decide +kernel
theorem dX4_told_86 : decode cX4_told 86 = .ok (.goto 8, 3) := by decide +kernel
theorem dX4_told_89 : decode cX4_told 89 = .ok (.aload_n 0, 1) := by decide +kernel
theorem dX4_told_90 : decode cX4_told 90 = .ok (.getfield 92, 3) := by decide +kernel
theorem dX4_told_93 : decode cX4_told 93 = .ok (.i2l, 1) := by decide +kernel
theorem dX4_told_94 : decode cX4_told 94 = .ok (.lreturn, 1) := by decide +kernel
theorem dX4_told_95 : decode cX4_told 95 = .ok (.aload_n 0, 1) := by decide +kernel
theorem dX4_told_96 : decode cX4_told 96 = .ok (.getfield 95, 3) := by decide +kernel
theorem dX4_told_99 : decode cX4_told 99 = .ok (.i2l, 1) := by decide +kernel
theorem dX4_told_100 : decode cX4_told 100 = .ok (.lreturn, 1) := by decide +kernel
theorem dX4_told_101 : decode cX4_told 101 = .ok (.aload_n 0, 1) := by decide +kernel
theorem dX4_told_102 : decode cX4_told 102 = .ok (.getfield 110, 3) := by decide +kernel
theorem dX4_told_105 : decode cX4_told 105 = .ok (.i2l, 1) := by decide +kernel
theorem dX4_told_106 : decode cX4_told 106 = .ok (.lreturn, 1) := by decide +kernel
theorem dX4_told_107 : decode cX4_told 107 = .ok (.aload_n 0, 1) := by decide +kernel
theorem dX4_told_108 : decode cX4_told 108 = .ok (.getfield 98, 3) := by decide +kernel
theorem dX4_told_111 : decode cX4_told 111 = .ok (.i2l, 1) := by decide +kernel
theorem dX4_told_112 : decode cX4_told 112 = .ok (.lreturn, 1) := by decide +kernel
theorem dX4_told_113 : decode cX4_told 113 = .ok (.aload_n 0, 1) := by decide +kernel
theorem dX4_told_114 : decode cX4_told 114 = .ok (.getfield 101, 3) := by decide +kernel
theorem dX4_told_117 : decode cX4_told 117 = .ok (.i2l, 1) := by decide +kernel
theorem dX4_told_118 : decode cX4_told 118 = .ok (.lreturn, 1) := by decide +kernel
theorem dX4_told_119 : decode cX4_told 119 = .ok (.aload_n 0, 1) := by decide +kernel
theorem dX4_told_120 : decode cX4_told 120 = .ok (.getfield 80, 3) := by decide +kernel
theorem dX4_told_123 : decode cX4_told 123 = .ok (.ifCond .eq 7, 3) := by decide +kernel
theorem dX4_told_126 : decode cX4_told 126 = .ok (.lconst 1, 1) := by decide +kernel
theorem dX4_told_127 : decode cX4_told 127 = .ok (.goto 4, 3) := by decide +kernel
theorem dX4_told_130 : decode cX4_told 130 = .ok (.lconst 0, 1) := by decide +kernel
theorem dX4_told_131 : decode cX4_told 131 = .ok (.lreturn, 1) := by decide +kernel
theorem dX4_told_132 : decode cX4_told 132 = .ok (.aload_n 0, 1) := by decide +kernel
theorem dX4_told_133 : decode cX4_told 133 = .ok (.getfield 13, 3) := by decide +kernel
theorem dX4_told_136 : decode cX4_told 136 = .ok (.iload_n 1, 1) := by decide +kernel
theorem dX4_told_137 : decode cX4_told 137 = .ok (.laload, 1) := by decide +kernel
theorem dX4_told_138 : decode cX4_told 138 = .ok (.lreturn, 1) := by decide +kernel
theorem dX4_fails_0 : decode cX4_fails 0 = .ok (.aload_n 0, 1) := by decide +kernel
theorem dX4_fails_1 : decode cX4_fails 1 = .ok (.iload_n 1, 1) := by decide +kernel
theorem dX4_fails_2 : decode cX4_fails 2 = .ok (.putfield 98, 3) := by decide +kernel
theorem dX4_fails_5 : decode cX4_fails 5 = .ok (.aload_n 0, 1) := by decide +kernel
theorem dX4_fails_6 : decode cX4_fails 6 = .ok (.iload_n 2, 1) := by decide +kernel
theorem dX4_fails_7 : decode cX4_fails 7 = .ok (.putfield 101, 3) := by decide +kernel
theorem dX4_fails_10 : decode cX4_fails 10 = .ok (.return_, 1) := by decide +kernel
theorem dX4_isWidth_0 : decode cX4_isWidth 0 = .ok (.iload_n 0, 1) := by decide +kernel
theorem dX4_isWidth_1 : decode cX4_isWidth 1 = .ok (.iconst 1, 1) := by decide +kernel
theorem dX4_isWidth_2 : decode cX4_isWidth 2 = .ok (.if_icmp .eq 13, 3) := by decide +kernel
theorem dX4_isWidth_5 : decode cX4_isWidth 5 = .ok (.iload_n 0, 1) := by decide +kernel
theorem dX4_isWidth_6 : decode cX4_isWidth 6 = .ok (.iconst 2, 1) := by decide +kernel
theorem dX4_isWidth_7 : decode cX4_isWidth 7 = .ok (.if_icmp .eq 8, 3) := by decide +kernel
theorem dX4_isWidth_10 : decode cX4_isWidth 10 = .ok (.iload_n 0, 1) := by decide +kernel
theorem dX4_isWidth_11 : decode cX4_isWidth 11 = .ok (.iconst 4, 1) := by decide +kernel
theorem dX4_isWidth_12 : decode cX4_isWidth 12 = .ok (.if_icmp .ne 7, 3) := by decide +kernel
theorem dX4_isWidth_15 : decode cX4_isWidth 15 = .ok (.iconst 1, 1) := by decide +kernel
theorem dX4_isWidth_16 : decode cX4_isWidth 16 = .ok (.goto 4, 3) := by decide +kernel
theorem dX4_isWidth_19 : decode cX4_isWidth 19 = .ok (.iconst 0, 1) := by decide +kernel
theorem dX4_isWidth_20 : decode cX4_isWidth 20 = .ok (.ireturn, 1) := by decide +kernel
set_option maxRecDepth 20000 in
theorem ggX4_read_X4_isWidth : GoodIn wsX4_read wsX4_isWidth := goodIn_r _ [10] (by decide +kernel) (by decide +kernel)
set_option maxRecDepth 20000 in
theorem gX4_read_X4_isWidth : GoodIn wsX4_read (va_wsS RX4 115 yX4_isWidth wsX4_isWidth) := goodIn_app (goodIn_of _ (by decide +kernel)) ggX4_read_X4_isWidth
set_option maxRecDepth 20000 in
theorem ggX4_read_X4_in : GoodIn wsX4_read wsX4_in := goodIn_r _ [13] (by decide +kernel) (by decide +kernel)
set_option maxRecDepth 20000 in
theorem gX4_read_X4_in : GoodIn wsX4_read (va_wsS RX4 41 yX4_in wsX4_in) := goodIn_app (goodIn_of _ (by decide +kernel)) ggX4_read_X4_in
set_option maxRecDepth 20000 in
theorem ggX4_read_X4_fails : GoodIn wsX4_read wsX4_fails := goodIn_r _ [17, 18, 19, 20, 21, 22, 23, 24, 25, 26, 27, 28, 29, 30, 31, 32, 33, 34, 35, 36, 37, 38, 39, 40] (by decide +kernel) (by decide +kernel)
set_option maxRecDepth 20000 in
theorem gX4_read_X4_fails : GoodIn wsX4_read (wsV RX4 119 RX4 yX4_fails wsX4_fails) := goodIn_app (goodIn_of _ (by decide +kernel)) ggX4_read_X4_fails
theorem dX4_read_0 : decode cX4_read 0 = .ok (.aload_n 0, 1) := by decide +kernel
theorem dX4_read_1 : decode cX4_read 1 = .ok (.iconst 0, 1) := by decide +kernel
theorem dX4_read_2 : decode cX4_read 2 = .ok (.putfield 32, 3) := by decide +kernel
theorem dX4_read_5 : decode cX4_read 5 = .ok (.aload_n 0, 1) := by decide +kernel
theorem dX4_read_6 : decode cX4_read 6 = .ok (.getfield 76, 3) := by decide +kernel
theorem dX4_read_9 : decode cX4_read 9 = .ok (.ifCond .eq 10, 3) := by decide +kernel
theorem dX4_read_12 : decode cX4_read 12 = .ok (.iload_n 1, 1) := by decide +kernel
theorem dX4_read_13 : decode cX4_read 13 = .ok (.invokestatic 115, 3) := by decide +kernel
theorem dX4_read_16 : decode cX4_read 16 = .ok (.ifCond .ne 7, 3) := by decide +kernel
theorem dX4_read_19 : decode cX4_read 19 = .ok (.ldc2_w 70, 3) := by decide +kernel
theorem dX4_read_22 : decode cX4_read 22 = .ok (.lreturn, 1) := by decide +kernel
theorem dX4_read_23 : decode cX4_read 23 = .ok (.iload_n 2, 1) := by decide +kernel
theorem dX4_read_24 : decode cX4_read 24 = .ok (.i2l, 1) := by decide +kernel
theorem dX4_read_25 : decode cX4_read 25 = .ok (.lconst 0, 1) := by decide +kernel
theorem dX4_read_26 : decode cX4_read 26 = .ok (.aload_n 0, 1) := by decide +kernel
theorem dX4_read_27 : decode cX4_read 27 = .ok (.getfield 89, 3) := by decide +kernel
theorem dX4_read_30 : decode cX4_read 30 = .ok (.iload_n 1, 1) := by decide +kernel
theorem dX4_read_31 : decode cX4_read 31 = .ok (.isub, 1) := by decide +kernel
theorem dX4_read_32 : decode cX4_read 32 = .ok (.i2l, 1) := by decide +kernel
theorem dX4_read_33 : decode cX4_read 33 = .ok (.invokestatic 41, 3) := by decide +kernel
theorem dX4_read_36 : decode cX4_read 36 = .ok (.ifCond .ne 13, 3) := by decide +kernel
theorem dX4_read_39 : decode cX4_read 39 = .ok (.aload_n 0, 1) := by decide +kernel
theorem dX4_read_40 : decode cX4_read 40 = .ok (.iconst 1, 1) := by decide +kernel
theorem dX4_read_41 : decode cX4_read 41 = .ok (.iload_n 2, 1) := by decide +kernel
theorem dX4_read_42 : decode cX4_read 42 = .ok (.invokevirtual 119, 3) := by decide +kernel
theorem dX4_read_45 : decode cX4_read 45 = .ok (.ldc2_w 70, 3) := by decide +kernel
theorem dX4_read_48 : decode cX4_read 48 = .ok (.lreturn, 1) := by decide +kernel
theorem dX4_read_49 : decode cX4_read 49 = .ok (.lconst 0, 1) := by decide +kernel
theorem dX4_read_50 : decode cX4_read 50 = .ok (.lstore_n 3, 1) := by decide +kernel
theorem dX4_read_51 : decode cX4_read 51 = .ok (.iconst 0, 1) := by decide +kernel
theorem dX4_read_52 : decode cX4_read 52 = .ok (.istore 5, 2) := by decide +kernel
theorem dX4_read_54 : decode cX4_read 54 = .ok (.iload 5, 2) := by decide +kernel
theorem dX4_read_56 : decode cX4_read 56 = .ok (.iload_n 1, 1) := by decide +kernel
theorem dX4_read_57 : decode cX4_read 57 = .ok (.if_icmp .ge 26, 3) := by decide +kernel
theorem dX4_read_60 : decode cX4_read 60 = .ok (.lload_n 3, 1) := by decide +kernel
theorem dX4_read_61 : decode cX4_read 61 = .ok (.ldc2_w 46, 3) := by decide +kernel
theorem dX4_read_64 : decode cX4_read 64 = .ok (.lmul, 1) := by decide +kernel
theorem dX4_read_65 : decode cX4_read 65 = .ok (.aload_n 0, 1) := by decide +kernel
theorem dX4_read_66 : decode cX4_read 66 = .ok (.getfield 20, 3) := by decide +kernel
theorem dX4_read_69 : decode cX4_read 69 = .ok (.iload_n 2, 1) := by decide +kernel
theorem dX4_read_70 : decode cX4_read 70 = .ok (.iload 5, 2) := by decide +kernel
theorem dX4_read_72 : decode cX4_read 72 = .ok (.iadd, 1) := by decide +kernel
theorem dX4_read_73 : decode cX4_read 73 = .ok (.iaload, 1) := by decide +kernel
theorem dX4_read_74 : decode cX4_read 74 = .ok (.i2l, 1) := by decide +kernel
theorem dX4_read_75 : decode cX4_read 75 = .ok (.ladd, 1) := by decide +kernel
theorem dX4_read_76 : decode cX4_read 76 = .ok (.lstore_n 3, 1) := by decide +kernel
theorem dX4_read_77 : decode cX4_read 77 = .ok (.iinc 5 1, 3) := by decide +kernel
theorem dX4_read_80 : decode cX4_read 80 = .ok (.goto (-26), 3) := by decide +kernel
theorem dX4_read_83 : decode cX4_read 83 = .ok (.lload_n 3, 1) := by decide +kernel
theorem dX4_read_84 : decode cX4_read 84 = .ok (.lreturn, 1) := by decide +kernel
set_option maxRecDepth 20000 in
theorem ggX4_write_X4_isWidth : GoodIn wsX4_write wsX4_isWidth := goodIn_r _ [9] (by decide +kernel) (by decide +kernel)
set_option maxRecDepth 20000 in
theorem gX4_write_X4_isWidth : GoodIn wsX4_write (va_wsS RX4 115 yX4_isWidth wsX4_isWidth) := goodIn_app (goodIn_of _ (by decide +kernel)) ggX4_write_X4_isWidth
set_option maxRecDepth 20000 in
theorem ggX4_write_X4_fails : GoodIn wsX4_write wsX4_fails := goodIn_r _ [13, 14, 15, 16, 17, 18, 19, 20, 21, 22, 23, 24, 25, 26, 27, 28, 29, 30, 31, 32, 33, 34, 35, 36] (by decide +kernel) (by decide +kernel)
set_option maxRecDepth 20000 in
theorem gX4_write_X4_fails : GoodIn wsX4_write (wsV RX4 119 RX4 yX4_fails wsX4_fails) := goodIn_app (goodIn_of _ (by decide +kernel)) ggX4_write_X4_fails
theorem dX4_write_0 : decode cX4_write 0 = .ok (.aload_n 0, 1) := by decide +kernel
theorem dX4_write_1 : decode cX4_write 1 = .ok (.iconst 0, 1) := by decide +kernel
theorem dX4_write_2 : decode cX4_write 2 = .ok (.putfield 32, 3) := by decide +kernel
theorem dX4_write_5 : decode cX4_write 5 = .ok (.aload_n 0, 1) := by decide +kernel
theorem dX4_write_6 : decode cX4_write 6 = .ok (.getfield 76, 3) := by decide +kernel
theorem dX4_write_9 : decode cX4_write 9 = .ok (.ifCond .ne 6, 3) := by decide +kernel
theorem dX4_write_12 : decode cX4_write 12 = .ok (.bipush (-3), 2) := by decide +kernel
theorem dX4_write_14 : decode cX4_write 14 = .ok (.ireturn, 1) := by decide +kernel
theorem dX4_write_15 : decode cX4_write 15 = .ok (.iload_n 1, 1) := by decide +kernel
theorem dX4_write_16 : decode cX4_write 16 = .ok (.invokestatic 115, 3) := by decide +kernel
theorem dX4_write_19 : decode cX4_write 19 = .ok (.ifCond .ne 6, 3) := by decide +kernel
theorem dX4_write_22 : decode cX4_write 22 = .ok (.bipush (-2), 2) := by decide +kernel
theorem dX4_write_24 : decode cX4_write 24 = .ok (.ireturn, 1) := by decide +kernel
theorem dX4_write_25 : decode cX4_write 25 = .ok (.iload_n 2, 1) := by decide +kernel
theorem dX4_write_26 : decode cX4_write 26 = .ok (.aload_n 0, 1) := by decide +kernel
theorem dX4_write_27 : decode cX4_write 27 = .ok (.getfield 83, 3) := by decide +kernel
theorem dX4_write_30 : decode cX4_write 30 = .ok (.if_icmp .lt 13, 3) := by decide +kernel
theorem dX4_write_33 : decode cX4_write 33 = .ok (.iload_n 2, 1) := by decide +kernel
theorem dX4_write_34 : decode cX4_write 34 = .ok (.aload_n 0, 1) := by decide +kernel
theorem dX4_write_35 : decode cX4_write 35 = .ok (.getfield 89, 3) := by decide +kernel
theorem dX4_write_38 : decode cX4_write 38 = .ok (.iload_n 1, 1) := by decide +kernel
theorem dX4_write_39 : decode cX4_write 39 = .ok (.isub, 1) := by decide +kernel
theorem dX4_write_40 : decode cX4_write 40 = .ok (.if_icmp .le 24, 3) := by decide +kernel
theorem dX4_write_43 : decode cX4_write 43 = .ok (.aload_n 0, 1) := by decide +kernel
theorem dX4_write_44 : decode cX4_write 44 = .ok (.iload_n 2, 1) := by decide +kernel
theorem dX4_write_45 : decode cX4_write 45 = .ok (.aload_n 0, 1) := by decide +kernel
theorem dX4_write_46 : decode cX4_write 46 = .ok (.getfield 83, 3) := by decide +kernel
theorem dX4_write_49 : decode cX4_write 49 = .ok (.if_icmp .ge 7, 3) := by decide +kernel
theorem dX4_write_52 : decode cX4_write 52 = .ok (.iconst 2, 1) := by decide +kernel
theorem dX4_write_53 : decode cX4_write 53 = .ok (.goto 4, 3) := by decide +kernel
theorem dX4_write_56 : decode cX4_write 56 = .ok (.iconst 3, 1) := by decide +kernel
theorem dX4_write_57 : decode cX4_write 57 = .ok (.iload_n 2, 1) := by decide +kernel
theorem dX4_write_58 : decode cX4_write 58 = .ok (.invokevirtual 119, 3) := by decide +kernel
theorem dX4_write_61 : decode cX4_write 61 = .ok (.bipush (-3), 2) := by decide +kernel
theorem dX4_write_63 : decode cX4_write 63 = .ok (.ireturn, 1) := by decide +kernel
theorem dX4_write_64 : decode cX4_write 64 = .ok (.iconst 0, 1) := by decide +kernel
theorem dX4_write_65 : decode cX4_write 65 = .ok (.istore 4, 2) := by decide +kernel
theorem dX4_write_67 : decode cX4_write 67 = .ok (.iload 4, 2) := by decide +kernel
theorem dX4_write_69 : decode cX4_write 69 = .ok (.iload_n 1, 1) := by decide +kernel
theorem dX4_write_70 : decode cX4_write 70 = .ok (.if_icmp .ge 33, 3) := by decide +kernel
theorem dX4_write_73 : decode cX4_write 73 = .ok (.aload_n 0, 1) := by decide +kernel
theorem dX4_write_74 : decode cX4_write 74 = .ok (.getfield 20, 3) := by decide +kernel
theorem dX4_write_77 : decode cX4_write 77 = .ok (.iload_n 2, 1) := by decide +kernel
theorem dX4_write_78 : decode cX4_write 78 = .ok (.iload 4, 2) := by decide +kernel
theorem dX4_write_80 : decode cX4_write 80 = .ok (.iadd, 1) := by decide +kernel
theorem dX4_write_81 : decode cX4_write 81 = .ok (.iload_n 3, 1) := by decide +kernel
theorem dX4_write_82 : decode cX4_write 82 = .ok (.bipush 8, 2) := by decide +kernel
theorem dX4_write_84 : decode cX4_write 84 = .ok (.iload_n 1, 1) := by decide +kernel
theorem dX4_write_85 : decode cX4_write 85 = .ok (.iconst 1, 1) := by decide +kernel
theorem dX4_write_86 : decode cX4_write 86 = .ok (.isub, 1) := by decide +kernel
theorem dX4_write_87 : decode cX4_write 87 = .ok (.iload 4, 2) := by decide +kernel
theorem dX4_write_89 : decode cX4_write 89 = .ok (.isub, 1) := by decide +kernel
theorem dX4_write_90 : decode cX4_write 90 = .ok (.imul, 1) := by decide +kernel
theorem dX4_write_91 : decode cX4_write 91 = .ok (.ishr, 1) := by decide +kernel
theorem dX4_write_92 : decode cX4_write 92 = .ok (.sipush 255, 3) := by decide +kernel
theorem dX4_write_95 : decode cX4_write 95 = .ok (.iand, 1) := by decide +kernel
theorem dX4_write_96 : decode cX4_write 96 = .ok (.iastore, 1) := by decide +kernel
theorem dX4_write_97 : decode cX4_write 97 = .ok (.iinc 4 1, 3) := by decide +kernel
theorem dX4_write_100 : decode cX4_write 100 = .ok (.goto (-33), 3) := by decide +kernel
theorem dX4_write_103 : decode cX4_write 103 = .ok (.iconst 1, 1) := by decide +kernel
theorem dX4_write_104 : decode cX4_write 104 = .ok (.ireturn, 1) := by decide +kernel
theorem dX4_grow_0 : decode cX4_grow 0 = .ok (.aload_n 0, 1) := by decide +kernel
theorem dX4_grow_1 : decode cX4_grow 1 = .ok (.getfield 89, 3) := by decide +kernel
theorem dX4_grow_4 : decode cX4_grow 4 = .ok (.istore_n 2, 1) := by decide +kernel
theorem dX4_grow_5 : decode cX4_grow 5 = .ok (.iload_n 2, 1) := by decide +kernel
theorem dX4_grow_6 : decode cX4_grow 6 = .ok (.iload_n 1, 1) := by decide +kernel
theorem dX4_grow_7 : decode cX4_grow 7 = .ok (.if_icmp .ge 16, 3) := by decide +kernel
theorem dX4_grow_10 : decode cX4_grow 10 = .ok (.aload_n 0, 1) := by decide +kernel
theorem dX4_grow_11 : decode cX4_grow 11 = .ok (.getfield 20, 3) := by decide +kernel
theorem dX4_grow_14 : decode cX4_grow 14 = .ok (.iload_n 2, 1) := by decide +kernel
theorem dX4_grow_15 : decode cX4_grow 15 = .ok (.iconst 0, 1) := by decide +kernel
theorem dX4_grow_16 : decode cX4_grow 16 = .ok (.iastore, 1) := by decide +kernel
theorem dX4_grow_17 : decode cX4_grow 17 = .ok (.iinc 2 1, 3) := by decide +kernel
theorem dX4_grow_20 : decode cX4_grow 20 = .ok (.goto (-15), 3) := by decide +kernel
theorem dX4_grow_23 : decode cX4_grow 23 = .ok (.aload_n 0, 1) := by decide +kernel
theorem dX4_grow_24 : decode cX4_grow 24 = .ok (.iload_n 1, 1) := by decide +kernel
theorem dX4_grow_25 : decode cX4_grow 25 = .ok (.putfield 89, 3) := by decide +kernel
theorem dX4_grow_28 : decode cX4_grow 28 = .ok (.return_, 1) := by decide +kernel
set_option maxRecDepth 20000 in
theorem ggX4_resize_X4_grow : GoodIn wsX4_resize wsX4_grow := goodIn_r _ [9, 10, 11, 12, 13, 14, 15, 16, 17, 18, 19, 20, 21, 22, 23, 24, 25, 26, 27, 28, 29, 30, 31, 32] (by decide +kernel) (by decide +kernel)
set_option maxRecDepth 20000 in
theorem gX4_resize_X4_grow : GoodIn wsX4_resize (wsV RX4 123 RX4 yX4_grow wsX4_grow) := goodIn_app (goodIn_of _ (by decide +kernel)) ggX4_resize_X4_grow
theorem dX4_resize_0 : decode cX4_resize 0 = .ok (.aload_n 0, 1) := by decide +kernel
theorem dX4_resize_1 : decode cX4_resize 1 = .ok (.iconst 0, 1) := by decide +kernel
theorem dX4_resize_2 : decode cX4_resize 2 = .ok (.putfield 32, 3) := by decide +kernel
theorem dX4_resize_5 : decode cX4_resize 5 = .ok (.aload_n 0, 1) := by decide +kernel
theorem dX4_resize_6 : decode cX4_resize 6 = .ok (.getfield 76, 3) := by decide +kernel
theorem dX4_resize_9 : decode cX4_resize 9 = .ok (.ifCond .ne 6, 3) := by decide +kernel
theorem dX4_resize_12 : decode cX4_resize 12 = .ok (.bipush (-3), 2) := by decide +kernel
theorem dX4_resize_14 : decode cX4_resize 14 = .ok (.ireturn, 1) := by decide +kernel
theorem dX4_resize_15 : decode cX4_resize 15 = .ok (.iload_n 1, 1) := by decide +kernel
theorem dX4_resize_16 : decode cX4_resize 16 = .ok (.aload_n 0, 1) := by decide +kernel
theorem dX4_resize_17 : decode cX4_resize 17 = .ok (.getfield 86, 3) := by decide +kernel
theorem dX4_resize_20 : decode cX4_resize 20 = .ok (.if_icmp .lt 25, 3) := by decide +kernel
theorem dX4_resize_23 : decode cX4_resize 23 = .ok (.iload_n 1, 1) := by decide +kernel
theorem dX4_resize_24 : decode cX4_resize 24 = .ok (.sipush 4096, 3) := by decide +kernel
theorem dX4_resize_27 : decode cX4_resize 27 = .ok (.if_icmp .gt 18, 3) := by decide +kernel
theorem dX4_resize_30 : decode cX4_resize 30 = .ok (.iload_n 1, 1) := by decide +kernel
theorem dX4_resize_31 : decode cX4_resize 31 = .ok (.sipush 256, 3) := by decide +kernel
theorem dX4_resize_34 : decode cX4_resize 34 = .ok (.irem, 1) := by decide +kernel
theorem dX4_resize_35 : decode cX4_resize 35 = .ok (.ifCond .ne 10, 3) := by decide +kernel
theorem dX4_resize_38 : decode cX4_resize 38 = .ok (.aload_n 0, 1) := by decide +kernel
theorem dX4_resize_39 : decode cX4_resize 39 = .ok (.getfield 95, 3) := by decide +kernel
theorem dX4_resize_42 : decode cX4_resize 42 = .ok (.ifCond .le 5, 3) := by decide +kernel
theorem dX4_resize_45 : decode cX4_resize 45 = .ok (.iconst 1, 1) := by decide +kernel
theorem dX4_resize_46 : decode cX4_resize 46 = .ok (.ireturn, 1) := by decide +kernel
theorem dX4_resize_47 : decode cX4_resize 47 = .ok (.aload_n 0, 1) := by decide +kernel
theorem dX4_resize_48 : decode cX4_resize 48 = .ok (.iload_n 1, 1) := by decide +kernel
theorem dX4_resize_49 : decode cX4_resize 49 = .ok (.invokevirtual 123, 3) := by decide +kernel
theorem dX4_resize_52 : decode cX4_resize 52 = .ok (.iconst 0, 1) := by decide +kernel
theorem dX4_resize_53 : decode cX4_resize 53 = .ok (.ireturn, 1) := by decide +kernel
set_option maxRecDepth 20000 in
theorem ggX4_block_X4_grow : GoodIn wsX4_block wsX4_grow := goodIn_r _ [12, 4, 13, 14, 15, 16, 17, 18, 19, 20, 21, 22, 23, 24, 25, 26, 27, 28, 29, 30, 31, 32, 33, 34] (by decide +kernel) (by decide +kernel)
set_option maxRecDepth 20000 in
theorem gX4_block_X4_grow : GoodIn wsX4_block (wsV RX4 123 RX4 yX4_grow wsX4_grow) := goodIn_app (goodIn_of _ (by decide +kernel)) ggX4_block_X4_grow
theorem dX4_block_0 : decode cX4_block 0 = .ok (.aload_n 0, 1) := by decide +kernel
theorem dX4_block_1 : decode cX4_block 1 = .ok (.iconst 0, 1) := by decide +kernel
theorem dX4_block_2 : decode cX4_block 2 = .ok (.putfield 32, 3) := by decide +kernel
theorem dX4_block_5 : decode cX4_block 5 = .ok (.aload_n 0, 1) := by decide +kernel
theorem dX4_block_6 : decode cX4_block 6 = .ok (.getfield 76, 3) := by decide +kernel
theorem dX4_block_9 : decode cX4_block 9 = .ok (.ifCond .ne 6, 3) := by decide +kernel
theorem dX4_block_12 : decode cX4_block 12 = .ok (.bipush (-3), 2) := by decide +kernel
theorem dX4_block_14 : decode cX4_block 14 = .ok (.ireturn, 1) := by decide +kernel
theorem dX4_block_15 : decode cX4_block 15 = .ok (.iload_n 1, 1) := by decide +kernel
theorem dX4_block_16 : decode cX4_block 16 = .ok (.iconst 1, 1) := by decide +kernel
theorem dX4_block_17 : decode cX4_block 17 = .ok (.if_icmp .ge 6, 3) := by decide +kernel
theorem dX4_block_20 : decode cX4_block 20 = .ok (.bipush (-2), 2) := by decide +kernel
theorem dX4_block_22 : decode cX4_block 22 = .ok (.ireturn, 1) := by decide +kernel
theorem dX4_block_23 : decode cX4_block 23 = .ok (.aload_n 0, 1) := by decide +kernel
theorem dX4_block_24 : decode cX4_block 24 = .ok (.getfield 95, 3) := by decide +kernel
theorem dX4_block_27 : decode cX4_block 27 = .ok (.bipush 16, 2) := by decide +kernel
theorem dX4_block_29 : decode cX4_block 29 = .ok (.if_icmp .ne 5, 3) := by decide +kernel
theorem dX4_block_32 : decode cX4_block 32 = .ok (.iconst 0, 1) := by decide +kernel
theorem dX4_block_33 : decode cX4_block 33 = .ok (.ireturn, 1) := by decide +kernel
theorem dX4_block_34 : decode cX4_block 34 = .ok (.aload_n 0, 1) := by decide +kernel
theorem dX4_block_35 : decode cX4_block 35 = .ok (.getfield 95, 3) := by decide +kernel
theorem dX4_block_38 : decode cX4_block 38 = .ok (.ifCond .ne 10, 3) := by decide +kernel
theorem dX4_block_41 : decode cX4_block 41 = .ok (.aload_n 0, 1) := by decide +kernel
theorem dX4_block_42 : decode cX4_block 42 = .ok (.getfield 89, 3) := by decide +kernel
theorem dX4_block_45 : decode cX4_block 45 = .ok (.goto 7, 3) := by decide +kernel
theorem dX4_block_48 : decode cX4_block 48 = .ok (.aload_n 0, 1) := by decide +kernel
theorem dX4_block_49 : decode cX4_block 49 = .ok (.getfield 92, 3) := by decide +kernel
theorem dX4_block_52 : decode cX4_block 52 = .ok (.istore_n 2, 1) := by decide +kernel
theorem dX4_block_53 : decode cX4_block 53 = .ok (.iload_n 2, 1) := by decide +kernel
theorem dX4_block_54 : decode cX4_block 54 = .ok (.istore_n 3, 1) := by decide +kernel
theorem dX4_block_55 : decode cX4_block 55 = .ok (.iconst 0, 1) := by decide +kernel
theorem dX4_block_56 : decode cX4_block 56 = .ok (.istore 4, 2) := by decide +kernel
theorem dX4_block_58 : decode cX4_block 58 = .ok (.iload 4, 2) := by decide +kernel
theorem dX4_block_60 : decode cX4_block 60 = .ok (.aload_n 0, 1) := by decide +kernel
theorem dX4_block_61 : decode cX4_block 61 = .ok (.getfield 95, 3) := by decide +kernel
theorem dX4_block_64 : decode cX4_block 64 = .ok (.if_icmp .ge 38, 3) := by decide +kernel
theorem dX4_block_67 : decode cX4_block 67 = .ok (.aload_n 0, 1) := by decide +kernel
theorem dX4_block_68 : decode cX4_block 68 = .ok (.getfield 23, 3) := by decide +kernel
theorem dX4_block_71 : decode cX4_block 71 = .ok (.iload 4, 2) := by decide +kernel
theorem dX4_block_73 : decode cX4_block 73 = .ok (.iaload, 1) := by decide +kernel
theorem dX4_block_74 : decode cX4_block 74 = .ok (.iload_n 3, 1) := by decide +kernel
theorem dX4_block_75 : decode cX4_block 75 = .ok (.isub, 1) := by decide +kernel
theorem dX4_block_76 : decode cX4_block 76 = .ok (.iload_n 1, 1) := by decide +kernel
theorem dX4_block_77 : decode cX4_block 77 = .ok (.if_icmp .ge 25, 3) := by decide +kernel
theorem dX4_block_80 : decode cX4_block 80 = .ok (.aload_n 0, 1) := by decide +kernel
theorem dX4_block_81 : decode cX4_block 81 = .ok (.getfield 23, 3) := by decide +kernel
theorem dX4_block_84 : decode cX4_block 84 = .ok (.iload 4, 2) := by decide +kernel
theorem dX4_block_86 : decode cX4_block 86 = .ok (.iaload, 1) := by decide +kernel
theorem dX4_block_87 : decode cX4_block 87 = .ok (.aload_n 0, 1) := by decide +kernel
theorem dX4_block_88 : decode cX4_block 88 = .ok (.getfield 26, 3) := by decide +kernel
theorem dX4_block_91 : decode cX4_block 91 = .ok (.iload 4, 2) := by decide +kernel
theorem dX4_block_93 : decode cX4_block 93 = .ok (.iaload, 1) := by decide +kernel
theorem dX4_block_94 : decode cX4_block 94 = .ok (.iadd, 1) := by decide +kernel
theorem dX4_block_95 : decode cX4_block 95 = .ok (.istore_n 3, 1) := by decide +kernel
theorem dX4_block_96 : decode cX4_block 96 = .ok (.iinc 4 1, 3) := by decide +kernel
theorem dX4_block_99 : decode cX4_block 99 = .ok (.goto (-41), 3) := by decide +kernel
theorem dX4_block_102 : decode cX4_block 102 = .ok (.iload_n 1, 1) := by decide +kernel
theorem dX4_block_103 : decode cX4_block 103 = .ok (.sipush 8192, 3) := by decide +kernel
theorem dX4_block_106 : decode cX4_block 106 = .ok (.iload_n 3, 1) := by decide +kernel
theorem dX4_block_107 : decode cX4_block 107 = .ok (.isub, 1) := by decide +kernel
theorem dX4_block_108 : decode cX4_block 108 = .ok (.if_icmp .le 5, 3) := by decide +kernel
theorem dX4_block_111 : decode cX4_block 111 = .ok (.iconst 0, 1) := by decide +kernel
theorem dX4_block_112 : decode cX4_block 112 = .ok (.ireturn, 1) := by decide +kernel
theorem dX4_block_113 : decode cX4_block 113 = .ok (.aload_n 0, 1) := by decide +kernel
theorem dX4_block_114 : decode cX4_block 114 = .ok (.getfield 95, 3) := by decide +kernel
theorem dX4_block_117 : decode cX4_block 117 = .ok (.istore 5, 2) := by decide +kernel
theorem dX4_block_119 : decode cX4_block 119 = .ok (.iload 5, 2) := by decide +kernel
theorem dX4_block_121 : decode cX4_block 121 = .ok (.iload 4, 2) := by decide +kernel
theorem dX4_block_123 : decode cX4_block 123 = .ok (.if_icmp .le 41, 3) := by decide +kernel
theorem dX4_block_126 : decode cX4_block 126 = .ok (.aload_n 0, 1) := by decide +kernel
theorem dX4_block_127 : decode cX4_block 127 = .ok (.getfield 23, 3) := by decide +kernel
theorem dX4_block_130 : decode cX4_block 130 = .ok (.iload 5, 2) := by decide +kernel
theorem dX4_block_132 : decode cX4_block 132 = .ok (.aload_n 0, 1) := by decide +kernel
theorem dX4_block_133 : decode cX4_block 133 = .ok (.getfield 23, 3) := by decide +kernel
theorem dX4_block_136 : decode cX4_block 136 = .ok (.iload 5, 2) := by decide +kernel
theorem dX4_block_138 : decode cX4_block 138 = .ok (.iconst 1, 1) := by decide +kernel
theorem dX4_block_139 : decode cX4_block 139 = .ok (.isub, 1) := by decide +kernel
theorem dX4_block_140 : decode cX4_block 140 = .ok (.iaload, 1) := by decide +kernel
theorem dX4_block_141 : decode cX4_block 141 = .ok (.iastore, 1) := by decide +kernel
theorem dX4_block_142 : decode cX4_block 142 = .ok (.aload_n 0, 1) := by decide +kernel
theorem dX4_block_143 : decode cX4_block 143 = .ok (.getfield 26, 3) := by decide +kernel
theorem dX4_block_146 : decode cX4_block 146 = .ok (.iload 5, 2) := by decide +kernel
theorem dX4_block_148 : decode cX4_block 148 = .ok (.aload_n 0, 1) := by decide +kernel
theorem dX4_block_149 : decode cX4_block 149 = .ok (.getfield 26, 3) := by decide +kernel
theorem dX4_block_152 : decode cX4_block 152 = .ok (.iload 5, 2) := by decide +kernel
theorem dX4_block_154 : decode cX4_block 154 = .ok (.iconst 1, 1) := by decide +kernel
theorem dX4_block_155 : decode cX4_block 155 = .ok (.isub, 1) := by decide +kernel
theorem dX4_block_156 : decode cX4_block 156 = .ok (.iaload, 1) := by decide +kernel
theorem dX4_block_157 : decode cX4_block 157 = .ok (.iastore, 1) := by decide +kernel
theorem dX4_block_158 : decode cX4_block 158 = .ok (.iinc 5 (-1), 3) := by decide +kernel
theorem dX4_block_161 : decode cX4_block 161 = .ok (.goto (-42), 3) := by decide +kernel
theorem dX4_block_164 : decode cX4_block 164 = .ok (.aload_n 0, 1) := by decide +kernel
theorem dX4_block_165 : decode cX4_block 165 = .ok (.getfield 23, 3) := by decide +kernel
theorem dX4_block_168 : decode cX4_block 168 = .ok (.iload 4, 2) := by decide +kernel
theorem dX4_block_170 : decode cX4_block 170 = .ok (.iload_n 3, 1) := by decide +kernel
theorem dX4_block_171 : decode cX4_block 171 = .ok (.iastore, 1) := by decide +kernel
theorem dX4_block_172 : decode cX4_block 172 = .ok (.aload_n 0, 1) := by decide +kernel
theorem dX4_block_173 : decode cX4_block 173 = .ok (.getfield 26, 3) := by decide +kernel
theorem dX4_block_176 : decode cX4_block 176 = .ok (.iload 4, 2) := by decide +kernel
theorem dX4_block_178 : decode cX4_block 178 = .ok (.iload_n 1, 1) := by decide +kernel
theorem dX4_block_179 : decode cX4_block 179 = .ok (.iastore, 1) := by decide +kernel
theorem dX4_block_180 : decode cX4_block 180 = .ok (.aload_n 0, 1) := by decide +kernel
theorem dX4_block_181 : decode cX4_block 181 = .ok (.dup, 1) := by decide +kernel
theorem dX4_block_182 : decode cX4_block 182 = .ok (.getfield 95, 3) := by decide +kernel
theorem dX4_block_185 : decode cX4_block 185 = .ok (.iconst 1, 1) := by decide +kernel
theorem dX4_block_186 : decode cX4_block 186 = .ok (.iadd, 1) := by decide +kernel
theorem dX4_block_187 : decode cX4_block 187 = .ok (.putfield 95, 3) := by decide +kernel
theorem dX4_block_190 : decode cX4_block 190 = .ok (.aload_n 0, 1) := by decide +kernel
theorem dX4_block_191 : decode cX4_block 191 = .ok (.iload_n 2, 1) := by decide +kernel
theorem dX4_block_192 : decode cX4_block 192 = .ok (.putfield 92, 3) := by decide +kernel
theorem dX4_block_195 : decode cX4_block 195 = .ok (.iload_n 3, 1) := by decide +kernel
theorem dX4_block_196 : decode cX4_block 196 = .ok (.iload_n 1, 1) := by decide +kernel
theorem dX4_block_197 : decode cX4_block 197 = .ok (.iadd, 1) := by decide +kernel
theorem dX4_block_198 : decode cX4_block 198 = .ok (.sipush 255, 3) := by decide +kernel
theorem dX4_block_201 : decode cX4_block 201 = .ok (.iadd, 1) := by decide +kernel
theorem dX4_block_202 : decode cX4_block 202 = .ok (.sipush 256, 3) := by decide +kernel
theorem dX4_block_205 : decode cX4_block 205 = .ok (.idiv, 1) := by decide +kernel
theorem dX4_block_206 : decode cX4_block 206 = .ok (.sipush 256, 3) := by decide +kernel
theorem dX4_block_209 : decode cX4_block 209 = .ok (.imul, 1) := by decide +kernel
theorem dX4_block_210 : decode cX4_block 210 = .ok (.istore 5, 2) := by decide +kernel
theorem dX4_block_212 : decode cX4_block 212 = .ok (.iload 5, 2) := by decide +kernel
theorem dX4_block_214 : decode cX4_block 214 = .ok (.aload_n 0, 1) := by decide +kernel
theorem dX4_block_215 : decode cX4_block 215 = .ok (.getfield 89, 3) := by decide +kernel
theorem dX4_block_218 : decode cX4_block 218 = .ok (.if_icmp .le 9, 3) := by decide +kernel
theorem dX4_block_221 : decode cX4_block 221 = .ok (.aload_n 0, 1) := by decide +kernel
theorem dX4_block_222 : decode cX4_block 222 = .ok (.iload 5, 2) := by decide +kernel
theorem dX4_block_224 : decode cX4_block 224 = .ok (.invokevirtual 123, 3) := by decide +kernel
theorem dX4_block_227 : decode cX4_block 227 = .ok (.iload_n 3, 1) := by decide +kernel
theorem dX4_block_228 : decode cX4_block 228 = .ok (.ireturn, 1) := by decide +kernel
theorem dX4_free_0 : decode cX4_free 0 = .ok (.aload_n 0, 1) := by decide +kernel
theorem dX4_free_1 : decode cX4_free 1 = .ok (.iconst 0, 1) := by decide +kernel
theorem dX4_free_2 : decode cX4_free 2 = .ok (.putfield 32, 3) := by decide +kernel
theorem dX4_free_5 : decode cX4_free 5 = .ok (.aload_n 0, 1) := by decide +kernel
theorem dX4_free_6 : decode cX4_free 6 = .ok (.getfield 76, 3) := by decide +kernel
theorem dX4_free_9 : decode cX4_free 9 = .ok (.ifCond .ne 6, 3) := by decide +kernel
theorem dX4_free_12 : decode cX4_free 12 = .ok (.bipush (-3), 2) := by decide +kernel
theorem dX4_free_14 : decode cX4_free 14 = .ok (.ireturn, 1) := by decide +kernel
theorem dX4_free_15 : decode cX4_free 15 = .ok (.iconst 0, 1) := by decide +kernel
theorem dX4_free_16 : decode cX4_free 16 = .ok (.istore_n 2, 1) := by decide +kernel
theorem dX4_free_17 : decode cX4_free 17 = .ok (.iload_n 2, 1) := by decide +kernel
theorem dX4_free_18 : decode cX4_free 18 = .ok (.aload_n 0, 1) := by decide +kernel
theorem dX4_free_19 : decode cX4_free 19 = .ok (.getfield 95, 3) := by decide +kernel
theorem dX4_free_22 : decode cX4_free 22 = .ok (.if_icmp .ge 19, 3) := by decide +kernel
theorem dX4_free_25 : decode cX4_free 25 = .ok (.aload_n 0, 1) := by decide +kernel
theorem dX4_free_26 : decode cX4_free 26 = .ok (.getfield 23, 3) := by decide +kernel
theorem dX4_free_29 : decode cX4_free 29 = .ok (.iload_n 2, 1) := by decide +kernel
theorem dX4_free_30 : decode cX4_free 30 = .ok (.iaload, 1) := by decide +kernel
theorem dX4_free_31 : decode cX4_free 31 = .ok (.iload_n 1, 1) := by decide +kernel
theorem dX4_free_32 : decode cX4_free 32 = .ok (.if_icmp .eq 9, 3) := by decide +kernel
theorem dX4_free_35 : decode cX4_free 35 = .ok (.iinc 2 1, 3) := by decide +kernel
theorem dX4_free_38 : decode cX4_free 38 = .ok (.goto (-21), 3) := by decide +kernel
theorem dX4_free_41 : decode cX4_free 41 = .ok (.iload_n 2, 1) := by decide +kernel
theorem dX4_free_42 : decode cX4_free 42 = .ok (.aload_n 0, 1) := by decide +kernel
theorem dX4_free_43 : decode cX4_free 43 = .ok (.getfield 95, 3) := by decide +kernel
theorem dX4_free_46 : decode cX4_free 46 = .ok (.if_icmp .ne 5, 3) := by decide +kernel
theorem dX4_free_49 : decode cX4_free 49 = .ok (.iconst (-1), 1) := by decide +kernel
theorem dX4_free_50 : decode cX4_free 50 = .ok (.ireturn, 1) := by decide +kernel
theorem dX4_free_51 : decode cX4_free 51 = .ok (.aload_n 0, 1) := by decide +kernel
theorem dX4_free_52 : decode cX4_free 52 = .ok (.getfield 26, 3) := by decide +kernel
theorem dX4_free_55 : decode cX4_free 55 = .ok (.iload_n 2, 1) := by decide +kernel
theorem dX4_free_56 : decode cX4_free 56 = .ok (.iaload, 1) := by decide +kernel
theorem dX4_free_57 : decode cX4_free 57 = .ok (.istore_n 3, 1) := by decide +kernel
theorem dX4_free_58 : decode cX4_free 58 = .ok (.aload_n 0, 1) := by decide +kernel
theorem dX4_free_59 : decode cX4_free 59 = .ok (.dup, 1) := by decide +kernel
theorem dX4_free_60 : decode cX4_free 60 = .ok (.getfield 95, 3) := by decide +kernel
theorem dX4_free_63 : decode cX4_free 63 = .ok (.iconst 1, 1) := by decide +kernel
theorem dX4_free_64 : decode cX4_free 64 = .ok (.isub, 1) := by decide +kernel
theorem dX4_free_65 : decode cX4_free 65 = .ok (.putfield 95, 3) := by decide +kernel
theorem dX4_free_68 : decode cX4_free 68 = .ok (.iload_n 2, 1) := by decide +kernel
theorem dX4_free_69 : decode cX4_free 69 = .ok (.istore 4, 2) := by decide +kernel
theorem dX4_free_71 : decode cX4_free 71 = .ok (.iload 4, 2) := by decide +kernel
theorem dX4_free_73 : decode cX4_free 73 = .ok (.aload_n 0, 1) := by decide +kernel
theorem dX4_free_74 : decode cX4_free 74 = .ok (.getfield 95, 3) := by decide +kernel
theorem dX4_free_77 : decode cX4_free 77 = .ok (.if_icmp .ge 41, 3) := by decide +kernel
theorem dX4_free_80 : decode cX4_free 80 = .ok (.aload_n 0, 1) := by decide +kernel
theorem dX4_free_81 : decode cX4_free 81 = .ok (.getfield 23, 3) := by decide +kernel
theorem dX4_free_84 : decode cX4_free 84 = .ok (.iload 4, 2) := by decide +kernel
theorem dX4_free_86 : decode cX4_free 86 = .ok (.aload_n 0, 1) := by decide +kernel
theorem dX4_free_87 : decode cX4_free 87 = .ok (.getfield 23, 3) := by decide +kernel
theorem dX4_free_90 : decode cX4_free 90 = .ok (.iload 4, 2) := by decide +kernel
theorem dX4_free_92 : decode cX4_free 92 = .ok (.iconst 1, 1) := by decide +kernel
theorem dX4_free_93 : decode cX4_free 93 = .ok (.iadd, 1) := by decide +kernel
theorem dX4_free_94 : decode cX4_free 94 = .ok (.iaload, 1) := by decide +kernel
theorem dX4_free_95 : decode cX4_free 95 = .ok (.iastore, 1) := by decide +kernel
theorem dX4_free_96 : decode cX4_free 96 = .ok (.aload_n 0, 1) := by decide +kernel
theorem dX4_free_97 : decode cX4_free 97 = .ok (.getfield 26, 3) := by decide +kernel
theorem dX4_free_100 : decode cX4_free 100 = .ok (.iload 4, 2) := by decide +kernel
theorem dX4_free_102 : decode cX4_free 102 = .ok (.aload_n 0, 1) := by decide +kernel
theorem dX4_free_103 : decode cX4_free 103 = .ok (.getfield 26, 3) := by decide +kernel
theorem dX4_free_106 : decode cX4_free 106 = .ok (.iload 4, 2) := by decide +kernel
theorem dX4_free_108 : decode cX4_free 108 = .ok (.iconst 1, 1) := by decide +kernel
theorem dX4_free_109 : decode cX4_free 109 = .ok (.iadd, 1) := by decide +kernel
theorem dX4_free_110 : decode cX4_free 110 = .ok (.iaload, 1) := by decide +kernel
theorem dX4_free_111 : decode cX4_free 111 = .ok (.iastore, 1) := by decide +kernel
theorem dX4_free_112 : decode cX4_free 112 = .ok (.iinc 4 1, 3) := by decide +kernel
theorem dX4_free_115 : decode cX4_free 115 = .ok (.goto (-44), 3) := by decide +kernel
theorem dX4_free_118 : decode cX4_free 118 = .ok (.aload_n 0, 1) := by decide +kernel
theorem dX4_free_119 : decode cX4_free 119 = .ok (.aload_n 0, 1) := by decide +kernel
theorem dX4_free_120 : decode cX4_free 120 = .ok (.getfield 95, 3) := by decide +kernel
theorem dX4_free_123 : decode cX4_free 123 = .ok (.ifCond .ne 10, 3) := by decide +kernel
theorem dX4_free_126 : decode cX4_free 126 = .ok (.aload_n 0, 1) := by decide +kernel
theorem dX4_free_127 : decode cX4_free 127 = .ok (.getfield 92, 3) := by decide +kernel
theorem dX4_free_130 : decode cX4_free 130 = .ok (.goto 7, 3) := by decide +kernel
theorem dX4_free_133 : decode cX4_free 133 = .ok (.aload_n 0, 1) := by decide +kernel
theorem dX4_free_134 : decode cX4_free 134 = .ok (.getfield 89, 3) := by decide +kernel
theorem dX4_free_137 : decode cX4_free 137 = .ok (.putfield 89, 3) := by decide +kernel
theorem dX4_free_140 : decode cX4_free 140 = .ok (.iload_n 3, 1) := by decide +kernel
theorem dX4_free_141 : decode cX4_free 141 = .ok (.ireturn, 1) := by decide +kernel
set_option maxRecDepth 20000 in
theorem ggX4_protect_X4_in : GoodIn wsX4_protect wsX4_in := goodIn_r _ [9] (by decide +kernel) (by decide +kernel)
set_option maxRecDepth 20000 in
theorem gX4_protect_X4_in : GoodIn wsX4_protect (va_wsS RX4 41 yX4_in wsX4_in) := goodIn_app (goodIn_of _ (by decide +kernel)) ggX4_protect_X4_in
theorem dX4_protect_0 : decode cX4_protect 0 = .ok (.aload_n 0, 1) := by decide +kernel
theorem dX4_protect_1 : decode cX4_protect 1 = .ok (.iconst 0, 1) := by decide +kernel
theorem dX4_protect_2 : decode cX4_protect 2 = .ok (.putfield 32, 3) := by decide +kernel
theorem dX4_protect_5 : decode cX4_protect 5 = .ok (.aload_n 0, 1) := by decide +kernel
theorem dX4_protect_6 : decode cX4_protect 6 = .ok (.getfield 76, 3) := by decide +kernel
theorem dX4_protect_9 : decode cX4_protect 9 = .ok (.ifCond .ne 6, 3) := by decide +kernel
theorem dX4_protect_12 : decode cX4_protect 12 = .ok (.bipush (-3), 2) := by decide +kernel
theorem dX4_protect_14 : decode cX4_protect 14 = .ok (.ireturn, 1) := by decide +kernel
theorem dX4_protect_15 : decode cX4_protect 15 = .ok (.iload_n 1, 1) := by decide +kernel
theorem dX4_protect_16 : decode cX4_protect 16 = .ok (.i2l, 1) := by decide +kernel
theorem dX4_protect_17 : decode cX4_protect 17 = .ok (.lconst 0, 1) := by decide +kernel
theorem dX4_protect_18 : decode cX4_protect 18 = .ok (.ldc2_w 127, 3) := by decide +kernel
theorem dX4_protect_21 : decode cX4_protect 21 = .ok (.invokestatic 41, 3) := by decide +kernel
theorem dX4_protect_24 : decode cX4_protect 24 = .ok (.ifCond .eq 15, 3) := by decide +kernel
theorem dX4_protect_27 : decode cX4_protect 27 = .ok (.iload_n 2, 1) := by decide +kernel
theorem dX4_protect_28 : decode cX4_protect 28 = .ok (.i2l, 1) := by decide +kernel
theorem dX4_protect_29 : decode cX4_protect 29 = .ok (.lconst 0, 1) := by decide +kernel
theorem dX4_protect_30 : decode cX4_protect 30 = .ok (.ldc2_w 127, 3) := by decide +kernel
theorem dX4_protect_33 : decode cX4_protect 33 = .ok (.invokestatic 41, 3) := by decide +kernel
theorem dX4_protect_36 : decode cX4_protect 36 = .ok (.ifCond .ne 6, 3) := by decide +kernel
theorem dX4_protect_39 : decode cX4_protect 39 = .ok (.bipush (-2), 2) := by decide +kernel
theorem dX4_protect_41 : decode cX4_protect 41 = .ok (.ireturn, 1) := by decide +kernel
theorem dX4_protect_42 : decode cX4_protect 42 = .ok (.aload_n 0, 1) := by decide +kernel
theorem dX4_protect_43 : decode cX4_protect 43 = .ok (.iload_n 1, 1) := by decide +kernel
theorem dX4_protect_44 : decode cX4_protect 44 = .ok (.putfield 104, 3) := by decide +kernel
theorem dX4_protect_47 : decode cX4_protect 47 = .ok (.aload_n 0, 1) := by decide +kernel
theorem dX4_protect_48 : decode cX4_protect 48 = .ok (.iload_n 2, 1) := by decide +kernel
theorem dX4_protect_49 : decode cX4_protect 49 = .ok (.putfield 107, 3) := by decide +kernel
theorem dX4_protect_52 : decode cX4_protect 52 = .ok (.iconst 1, 1) := by decide +kernel
theorem dX4_protect_53 : decode cX4_protect 53 = .ok (.ireturn, 1) := by decide +kernel
theorem dX4_isSafe_0 : decode cX4_isSafe 0 = .ok (.iload_n 1, 1) := by decide +kernel
theorem dX4_isSafe_1 : decode cX4_isSafe 1 = .ok (.aload_n 0, 1) := by decide +kernel
theorem dX4_isSafe_2 : decode cX4_isSafe 2 = .ok (.getfield 104, 3) := by decide +kernel
theorem dX4_isSafe_5 : decode cX4_isSafe 5 = .ok (.if_icmp .lt 30, 3) := by decide +kernel
theorem dX4_isSafe_8 : decode cX4_isSafe 8 = .ok (.iload_n 1, 1) := by decide +kernel
theorem dX4_isSafe_9 : decode cX4_isSafe 9 = .ok (.aload_n 0, 1) := by decide +kernel
theorem dX4_isSafe_10 : decode cX4_isSafe 10 = .ok (.getfield 104, 3) := by decide +kernel
theorem dX4_isSafe_13 : decode cX4_isSafe 13 = .ok (.aload_n 0, 1) := by decide +kernel
theorem dX4_isSafe_14 : decode cX4_isSafe 14 = .ok (.getfield 107, 3) := by decide +kernel
theorem dX4_isSafe_17 : decode cX4_isSafe 17 = .ok (.iadd, 1) := by decide +kernel
theorem dX4_isSafe_18 : decode cX4_isSafe 18 = .ok (.if_icmp .ge 17, 3) := by decide +kernel
theorem dX4_isSafe_21 : decode cX4_isSafe 21 = .ok (.iload_n 1, 1) := by decide +kernel
theorem dX4_isSafe_22 : decode cX4_isSafe 22 = .ok (.iload_n 2, 1) := by decide +kernel
theorem dX4_isSafe_23 : decode cX4_isSafe 23 = .ok (.if_icmp .ge 12, 3) := by decide +kernel
theorem dX4_isSafe_26 : decode cX4_isSafe 26 = .ok (.iload_n 1, 1) := by decide +kernel
theorem dX4_isSafe_27 : decode cX4_isSafe 27 = .ok (.iload_n 3, 1) := by decide +kernel
theorem dX4_isSafe_28 : decode cX4_isSafe 28 = .ok (.if_icmp .ge 7, 3) := by decide +kernel
theorem dX4_isSafe_31 : decode cX4_isSafe 31 = .ok (.iconst 1, 1) := by decide +kernel
theorem dX4_isSafe_32 : decode cX4_isSafe 32 = .ok (.goto 4, 3) := by decide +kernel
theorem dX4_isSafe_35 : decode cX4_isSafe 35 = .ok (.iconst 0, 1) := by decide +kernel
theorem dX4_isSafe_36 : decode cX4_isSafe 36 = .ok (.ireturn, 1) := by decide +kernel
set_option maxRecDepth 20000 in
theorem ggX4_restart_X4_isSafe : GoodIn wsX4_restart wsX4_isSafe := goodIn_r _ [12, 13, 14, 15, 16, 17, 18, 19, 20, 21, 22, 23, 24, 25, 26, 27, 28, 29, 30, 31, 32, 33, 34, 35] (by decide +kernel) (by decide +kernel)
set_option maxRecDepth 20000 in
theorem gX4_restart_X4_isSafe : GoodIn wsX4_restart (wsV RX4 129 RX4 yX4_isSafe wsX4_isSafe) := goodIn_app (goodIn_of _ (by decide +kernel)) ggX4_restart_X4_isSafe
theorem dX4_restart_0 : decode cX4_restart 0 = .ok (.aload_n 0, 1) := by decide +kernel
theorem dX4_restart_1 : decode cX4_restart 1 = .ok (.iconst 0, 1) := by decide +kernel
theorem dX4_restart_2 : decode cX4_restart 2 = .ok (.putfield 32, 3) := by decide +kernel
theorem dX4_restart_5 : decode cX4_restart 5 = .ok (.aload_n 0, 1) := by decide +kernel
theorem dX4_restart_6 : decode cX4_restart 6 = .ok (.getfield 76, 3) := by decide +kernel
theorem dX4_restart_9 : decode cX4_restart 9 = .ok (.ifCond .ne 6, 3) := by decide +kernel
theorem dX4_restart_12 : decode cX4_restart 12 = .ok (.bipush (-3), 2) := by decide +kernel
theorem dX4_restart_14 : decode cX4_restart 14 = .ok (.ireturn, 1) := by decide +kernel
theorem dX4_restart_15 : decode cX4_restart 15 = .ok (.iconst 0, 1) := by decide +kernel
theorem dX4_restart_16 : decode cX4_restart 16 = .ok (.istore_n 1, 1) := by decide +kernel
theorem dX4_restart_17 : decode cX4_restart 17 = .ok (.iload_n 1, 1) := by decide +kernel
theorem dX4_restart_18 : decode cX4_restart 18 = .ok (.aload_n 0, 1) := by decide +kernel
theorem dX4_restart_19 : decode cX4_restart 19 = .ok (.getfield 86, 3) := by decide +kernel
theorem dX4_restart_22 : decode cX4_restart 22 = .ok (.if_icmp .ge 37, 3) := by decide +kernel
theorem dX4_restart_25 : decode cX4_restart 25 = .ok (.aload_n 0, 1) := by decide +kernel
theorem dX4_restart_26 : decode cX4_restart 26 = .ok (.iload_n 1, 1) := by decide +kernel
theorem dX4_restart_27 : decode cX4_restart 27 = .ok (.aload_n 0, 1) := by decide +kernel
theorem dX4_restart_28 : decode cX4_restart 28 = .ok (.getfield 89, 3) := by decide +kernel
theorem dX4_restart_31 : decode cX4_restart 31 = .ok (.aload_n 0, 1) := by decide +kernel
theorem dX4_restart_32 : decode cX4_restart 32 = .ok (.getfield 86, 3) := by decide +kernel
theorem dX4_restart_35 : decode cX4_restart 35 = .ok (.invokevirtual 129, 3) := by decide +kernel
theorem dX4_restart_38 : decode cX4_restart 38 = .ok (.ifCond .ne 15, 3) := by decide +kernel
theorem dX4_restart_41 : decode cX4_restart 41 = .ok (.aload_n 0, 1) := by decide +kernel
theorem dX4_restart_42 : decode cX4_restart 42 = .ok (.getfield 20, 3) := by decide +kernel
theorem dX4_restart_45 : decode cX4_restart 45 = .ok (.iload_n 1, 1) := by decide +kernel
theorem dX4_restart_46 : decode cX4_restart 46 = .ok (.aload_n 0, 1) := by decide +kernel
theorem dX4_restart_47 : decode cX4_restart 47 = .ok (.getfield 17, 3) := by decide +kernel
theorem dX4_restart_50 : decode cX4_restart 50 = .ok (.iload_n 1, 1) := by decide +kernel
theorem dX4_restart_51 : decode cX4_restart 51 = .ok (.iaload, 1) := by decide +kernel
theorem dX4_restart_52 : decode cX4_restart 52 = .ok (.iastore, 1) := by decide +kernel
theorem dX4_restart_53 : decode cX4_restart 53 = .ok (.iinc 1 1, 3) := by decide +kernel
theorem dX4_restart_56 : decode cX4_restart 56 = .ok (.goto (-39), 3) := by decide +kernel
theorem dX4_restart_59 : decode cX4_restart 59 = .ok (.aload_n 0, 1) := by decide +kernel
theorem dX4_restart_60 : decode cX4_restart 60 = .ok (.aload_n 0, 1) := by decide +kernel
theorem dX4_restart_61 : decode cX4_restart 61 = .ok (.getfield 86, 3) := by decide +kernel
theorem dX4_restart_64 : decode cX4_restart 64 = .ok (.putfield 89, 3) := by decide +kernel
theorem dX4_restart_67 : decode cX4_restart 67 = .ok (.aload_n 0, 1) := by decide +kernel
theorem dX4_restart_68 : decode cX4_restart 68 = .ok (.iconst 0, 1) := by decide +kernel
theorem dX4_restart_69 : decode cX4_restart 69 = .ok (.putfield 95, 3) := by decide +kernel
theorem dX4_restart_72 : decode cX4_restart 72 = .ok (.aload_n 0, 1) := by decide +kernel
theorem dX4_restart_73 : decode cX4_restart 73 = .ok (.getfield 89, 3) := by decide +kernel
theorem dX4_restart_76 : decode cX4_restart 76 = .ok (.ireturn, 1) := by decide +kernel
theorem dX4_save_0 : decode cX4_save 0 = .ok (.aload_n 0, 1) := by decide +kernel
theorem dX4_save_1 : decode cX4_save 1 = .ok (.iconst 0, 1) := by decide +kernel
theorem dX4_save_2 : decode cX4_save 2 = .ok (.putfield 32, 3) := by decide +kernel
theorem dX4_save_5 : decode cX4_save 5 = .ok (.aload_n 0, 1) := by decide +kernel
theorem dX4_save_6 : decode cX4_save 6 = .ok (.getfield 76, 3) := by decide +kernel
theorem dX4_save_9 : decode cX4_save 9 = .ok (.ifCond .ne 6, 3) := by decide +kernel
theorem dX4_save_12 : decode cX4_save 12 = .ok (.bipush (-3), 2) := by decide +kernel
theorem dX4_save_14 : decode cX4_save 14 = .ok (.ireturn, 1) := by decide +kernel
theorem dX4_save_15 : decode cX4_save 15 = .ok (.aload_n 0, 1) := by decide +kernel
theorem dX4_save_16 : decode cX4_save 16 = .ok (.getfield 110, 3) := by decide +kernel
theorem dX4_save_19 : decode cX4_save 19 = .ok (.iconst 2, 1) := by decide +kernel
theorem dX4_save_20 : decode cX4_save 20 = .ok (.if_icmp .ne 39, 3) := by decide +kernel
theorem dX4_save_23 : decode cX4_save 23 = .ok (.iconst 0, 1) := by decide +kernel
theorem dX4_save_24 : decode cX4_save 24 = .ok (.istore_n 1, 1) := by decide +kernel
theorem dX4_save_25 : decode cX4_save 25 = .ok (.iload_n 1, 1) := by decide +kernel
theorem dX4_save_26 : decode cX4_save 26 = .ok (.sipush 8232, 3) := by decide +kernel
theorem dX4_save_29 : decode cX4_save 29 = .ok (.if_icmp .ge 25, 3) := by decide +kernel
theorem dX4_save_32 : decode cX4_save 32 = .ok (.aload_n 0, 1) := by decide +kernel
theorem dX4_save_33 : decode cX4_save 33 = .ok (.getfield 29, 3) := by decide +kernel
theorem dX4_save_36 : decode cX4_save 36 = .ok (.iload_n 1, 1) := by decide +kernel
theorem dX4_save_37 : decode cX4_save 37 = .ok (.aload_n 0, 1) := by decide +kernel
theorem dX4_save_38 : decode cX4_save 38 = .ok (.getfield 29, 3) := by decide +kernel
theorem dX4_save_41 : decode cX4_save 41 = .ok (.sipush 8232, 3) := by decide +kernel
theorem dX4_save_44 : decode cX4_save 44 = .ok (.iload_n 1, 1) := by decide +kernel
theorem dX4_save_45 : decode cX4_save 45 = .ok (.iadd, 1) := by decide +kernel
theorem dX4_save_46 : decode cX4_save 46 = .ok (.iaload, 1) := by decide +kernel
theorem dX4_save_47 : decode cX4_save 47 = .ok (.iastore, 1) := by decide +kernel
theorem dX4_save_48 : decode cX4_save 48 = .ok (.iinc 1 1, 3) := by decide +kernel
theorem dX4_save_51 : decode cX4_save 51 = .ok (.goto (-26), 3) := by decide +kernel
theorem dX4_save_54 : decode cX4_save 54 = .ok (.aload_n 0, 1) := by decide +kernel
theorem dX4_save_55 : decode cX4_save 55 = .ok (.iconst 1, 1) := by decide +kernel
theorem dX4_save_56 : decode cX4_save 56 = .ok (.putfield 110, 3) := by decide +kernel
theorem dX4_save_59 : decode cX4_save 59 = .ok (.sipush 8232, 3) := by decide +kernel
theorem dX4_save_62 : decode cX4_save 62 = .ok (.aload_n 0, 1) := by decide +kernel
theorem dX4_save_63 : decode cX4_save 63 = .ok (.getfield 110, 3) := by decide +kernel
theorem dX4_save_66 : decode cX4_save 66 = .ok (.imul, 1) := by decide +kernel
theorem dX4_save_67 : decode cX4_save 67 = .ok (.istore_n 1, 1) := by decide +kernel
theorem dX4_save_68 : decode cX4_save 68 = .ok (.iconst 0, 1) := by decide +kernel
theorem dX4_save_69 : decode cX4_save 69 = .ok (.istore_n 2, 1) := by decide +kernel
theorem dX4_save_70 : decode cX4_save 70 = .ok (.iload_n 2, 1) := by decide +kernel
theorem dX4_save_71 : decode cX4_save 71 = .ok (.aload_n 0, 1) := by decide +kernel
theorem dX4_save_72 : decode cX4_save 72 = .ok (.getfield 89, 3) := by decide +kernel
theorem dX4_save_75 : decode cX4_save 75 = .ok (.if_icmp .ge 23, 3) := by decide +kernel
theorem dX4_save_78 : decode cX4_save 78 = .ok (.aload_n 0, 1) := by decide +kernel
theorem dX4_save_79 : decode cX4_save 79 = .ok (.getfield 29, 3) := by decide +kernel
theorem dX4_save_82 : decode cX4_save 82 = .ok (.iload_n 1, 1) := by decide +kernel
theorem dX4_save_83 : decode cX4_save 83 = .ok (.iload_n 2, 1) := by decide +kernel
theorem dX4_save_84 : decode cX4_save 84 = .ok (.iadd, 1) := by decide +kernel
theorem dX4_save_85 : decode cX4_save 85 = .ok (.aload_n 0, 1) := by decide +kernel
theorem dX4_save_86 : decode cX4_save 86 = .ok (.getfield 20, 3) := by decide +kernel
theorem dX4_save_89 : decode cX4_save 89 = .ok (.iload_n 2, 1) := by decide +kernel
theorem dX4_save_90 : decode cX4_save 90 = .ok (.iaload, 1) := by decide +kernel
theorem dX4_save_91 : decode cX4_save 91 = .ok (.iastore, 1) := by decide +kernel
theorem dX4_save_92 : decode cX4_save 92 = .ok (.iinc 2 1, 3) := by decide +kernel
theorem dX4_save_95 : decode cX4_save 95 = .ok (.goto (-25), 3) := by decide +kernel
theorem dX4_save_98 : decode cX4_save 98 = .ok (.aload_n 0, 1) := by decide +kernel
theorem dX4_save_99 : decode cX4_save 99 = .ok (.getfield 29, 3) := by decide +kernel
theorem dX4_save_102 : decode cX4_save 102 = .ok (.iload_n 1, 1) := by decide +kernel
theorem dX4_save_103 : decode cX4_save 103 = .ok (.sipush 8192, 3) := by decide +kernel
theorem dX4_save_106 : decode cX4_save 106 = .ok (.iadd, 1) := by decide +kernel
theorem dX4_save_107 : decode cX4_save 107 = .ok (.aload_n 0, 1) := by decide +kernel
theorem dX4_save_108 : decode cX4_save 108 = .ok (.getfield 89, 3) := by decide +kernel
theorem dX4_save_111 : decode cX4_save 111 = .ok (.iastore, 1) := by decide +kernel
theorem dX4_save_112 : decode cX4_save 112 = .ok (.aload_n 0, 1) := by decide +kernel
theorem dX4_save_113 : decode cX4_save 113 = .ok (.getfield 29, 3) := by decide +kernel
theorem dX4_save_116 : decode cX4_save 116 = .ok (.iload_n 1, 1) := by decide +kernel
theorem dX4_save_117 : decode cX4_save 117 = .ok (.sipush 8193, 3) := by decide +kernel
theorem dX4_save_120 : decode cX4_save 120 = .ok (.iadd, 1) := by decide +kernel
theorem dX4_save_121 : decode cX4_save 121 = .ok (.aload_n 0, 1) := by decide +kernel
theorem dX4_save_122 : decode cX4_save 122 = .ok (.getfield 92, 3) := by decide +kernel
theorem dX4_save_125 : decode cX4_save 125 = .ok (.iastore, 1) := by decide +kernel
theorem dX4_save_126 : decode cX4_save 126 = .ok (.aload_n 0, 1) := by decide +kernel
theorem dX4_save_127 : decode cX4_save 127 = .ok (.getfield 29, 3) := by decide +kernel
theorem dX4_save_130 : decode cX4_save 130 = .ok (.iload_n 1, 1) := by decide +kernel
theorem dX4_save_131 : decode cX4_save 131 = .ok (.sipush 8194, 3) := by decide +kernel
theorem dX4_save_134 : decode cX4_save 134 = .ok (.iadd, 1) := by decide +kernel
theorem dX4_save_135 : decode cX4_save 135 = .ok (.aload_n 0, 1) := by decide +kernel
theorem dX4_save_136 : decode cX4_save 136 = .ok (.getfield 95, 3) := by decide +kernel
theorem dX4_save_139 : decode cX4_save 139 = .ok (.iastore, 1) := by decide +kernel
theorem dX4_save_140 : decode cX4_save 140 = .ok (.iconst 0, 1) := by decide +kernel
theorem dX4_save_141 : decode cX4_save 141 = .ok (.istore_n 2, 1) := by decide +kernel
theorem dX4_save_142 : decode cX4_save 142 = .ok (.iload_n 2, 1) := by decide +kernel
theorem dX4_save_143 : decode cX4_save 143 = .ok (.aload_n 0, 1) := by decide +kernel
theorem dX4_save_144 : decode cX4_save 144 = .ok (.getfield 95, 3) := by decide +kernel
theorem dX4_save_147 : decode cX4_save 147 = .ok (.if_icmp .ge 49, 3) := by decide +kernel
theorem dX4_save_150 : decode cX4_save 150 = .ok (.aload_n 0, 1) := by decide +kernel
theorem dX4_save_151 : decode cX4_save 151 = .ok (.getfield 29, 3) := by decide +kernel
theorem dX4_save_154 : decode cX4_save 154 = .ok (.iload_n 1, 1) := by decide +kernel
theorem dX4_save_155 : decode cX4_save 155 = .ok (.sipush 8195, 3) := by decide +kernel
theorem dX4_save_158 : decode cX4_save 158 = .ok (.iadd, 1) := by decide +kernel
theorem dX4_save_159 : decode cX4_save 159 = .ok (.iconst 2, 1) := by decide +kernel
theorem dX4_save_160 : decode cX4_save 160 = .ok (.iload_n 2, 1) := by decide +kernel
theorem dX4_save_161 : decode cX4_save 161 = .ok (.imul, 1) := by decide +kernel
theorem dX4_save_162 : decode cX4_save 162 = .ok (.iadd, 1) := by decide +kernel
theorem dX4_save_163 : decode cX4_save 163 = .ok (.aload_n 0, 1) := by decide +kernel
theorem dX4_save_164 : decode cX4_save 164 = .ok (.getfield 23, 3) := by decide +kernel
theorem dX4_save_167 : decode cX4_save 167 = .ok (.iload_n 2, 1) := by decide +kernel
theorem dX4_save_168 : decode cX4_save 168 = .ok (.iaload, 1) := by decide +kernel
theorem dX4_save_169 : decode cX4_save 169 = .ok (.iastore, 1) := by decide +kernel
theorem dX4_save_170 : decode cX4_save 170 = .ok (.aload_n 0, 1) := by decide +kernel
theorem dX4_save_171 : decode cX4_save 171 = .ok (.getfield 29, 3) := by decide +kernel
theorem dX4_save_174 : decode cX4_save 174 = .ok (.iload_n 1, 1) := by decide +kernel
theorem dX4_save_175 : decode cX4_save 175 = .ok (.sipush 8196, 3) := by decide +kernel
theorem dX4_save_178 : decode cX4_save 178 = .ok (.iadd, 1) := by decide +kernel
theorem dX4_save_179 : decode cX4_save 179 = .ok (.iconst 2, 1) := by decide +kernel
theorem dX4_save_180 : decode cX4_save 180 = .ok (.iload_n 2, 1) := by decide +kernel
theorem dX4_save_181 : decode cX4_save 181 = .ok (.imul, 1) := by decide +kernel
theorem dX4_save_182 : decode cX4_save 182 = .ok (.iadd, 1) := by decide +kernel
theorem dX4_save_183 : decode cX4_save 183 = .ok (.aload_n 0, 1) := by decide +kernel
theorem dX4_save_184 : decode cX4_save 184 = .ok (.getfield 26, 3) := by decide +kernel
theorem dX4_save_187 : decode cX4_save 187 = .ok (.iload_n 2, 1) := by decide +kernel
theorem dX4_save_188 : decode cX4_save 188 = .ok (.iaload, 1) := by decide +kernel
theorem dX4_save_189 : decode cX4_save 189 = .ok (.iastore, 1) := by decide +kernel
theorem dX4_save_190 : decode cX4_save 190 = .ok (.iinc 2 1, 3) := by decide +kernel
theorem dX4_save_193 : decode cX4_save 193 = .ok (.goto (-51), 3) := by decide +kernel
theorem dX4_save_196 : decode cX4_save 196 = .ok (.aload_n 0, 1) := by decide +kernel
theorem dX4_save_197 : decode cX4_save 197 = .ok (.dup, 1) := by decide +kernel
theorem dX4_save_198 : decode cX4_save 198 = .ok (.getfield 110, 3) := by decide +kernel
theorem dX4_save_201 : decode cX4_save 201 = .ok (.iconst 1, 1) := by decide +kernel
theorem dX4_save_202 : decode cX4_save 202 = .ok (.iadd, 1) := by decide +kernel
theorem dX4_save_203 : decode cX4_save 203 = .ok (.putfield 110, 3) := by decide +kernel
theorem dX4_save_206 : decode cX4_save 206 = .ok (.aload_n 0, 1) := by decide +kernel
theorem dX4_save_207 : decode cX4_save 207 = .ok (.getfield 110, 3) := by decide +kernel
theorem dX4_save_210 : decode cX4_save 210 = .ok (.ireturn, 1) := by decide +kernel
set_option maxRecDepth 20000 in
theorem ggX4_restore_X4_isSafe : GoodIn wsX4_restore wsX4_isSafe := goodIn_r _ [15, 16, 17, 18, 19, 20, 21, 22, 23, 24, 25, 26, 27, 28, 29, 30, 31, 32, 33, 34, 35, 36, 37, 38] (by decide +kernel) (by decide +kernel)
set_option maxRecDepth 20000 in
theorem gX4_restore_X4_isSafe : GoodIn wsX4_restore (wsV RX4 129 RX4 yX4_isSafe wsX4_isSafe) := goodIn_app (goodIn_of _ (by decide +kernel)) ggX4_restore_X4_isSafe
theorem dX4_restore_0 : decode cX4_restore 0 = .ok (.aload_n 0, 1) := by decide +kernel
theorem dX4_restore_1 : decode cX4_restore 1 = .ok (.iconst 0, 1) := by decide +kernel
theorem dX4_restore_2 : decode cX4_restore 2 = .ok (.putfield 32, 3) := by decide +kernel
theorem dX4_restore_5 : decode cX4_restore 5 = .ok (.aload_n 0, 1) := by decide +kernel
theorem dX4_restore_6 : decode cX4_restore 6 = .ok (.getfield 76, 3) := by decide +kernel
theorem dX4_restore_9 : decode cX4_restore 9 = .ok (.ifCond .eq 10, 3) := by decide +kernel
theorem dX4_restore_12 : decode cX4_restore 12 = .ok (.aload_n 0, 1) := by decide +kernel
theorem dX4_restore_13 : decode cX4_restore 13 = .ok (.getfield 110, 3) := by decide +kernel
theorem dX4_restore_16 : decode cX4_restore 16 = .ok (.ifCond .ne 6, 3) := by decide +kernel
theorem dX4_restore_19 : decode cX4_restore 19 = .ok (.bipush (-3), 2) := by decide +kernel
theorem dX4_restore_21 : decode cX4_restore 21 = .ok (.ireturn, 1) := by decide +kernel
theorem dX4_restore_22 : decode cX4_restore 22 = .ok (.aload_n 0, 1) := by decide +kernel
theorem dX4_restore_23 : decode cX4_restore 23 = .ok (.dup, 1) := by decide +kernel
theorem dX4_restore_24 : decode cX4_restore 24 = .ok (.getfield 110, 3) := by decide +kernel
theorem dX4_restore_27 : decode cX4_restore 27 = .ok (.iconst 1, 1) := by decide +kernel
theorem dX4_restore_28 : decode cX4_restore 28 = .ok (.isub, 1) := by decide +kernel
theorem dX4_restore_29 : decode cX4_restore 29 = .ok (.putfield 110, 3) := by decide +kernel
theorem dX4_restore_32 : decode cX4_restore 32 = .ok (.sipush 8232, 3) := by decide +kernel
theorem dX4_restore_35 : decode cX4_restore 35 = .ok (.aload_n 0, 1) := by decide +kernel
theorem dX4_restore_36 : decode cX4_restore 36 = .ok (.getfield 110, 3) := by decide +kernel
theorem dX4_restore_39 : decode cX4_restore 39 = .ok (.imul, 1) := by decide +kernel
theorem dX4_restore_40 : decode cX4_restore 40 = .ok (.istore_n 1, 1) := by decide +kernel
theorem dX4_restore_41 : decode cX4_restore 41 = .ok (.aload_n 0, 1) := by decide +kernel
theorem dX4_restore_42 : decode cX4_restore 42 = .ok (.getfield 29, 3) := by decide +kernel
theorem dX4_restore_45 : decode cX4_restore 45 = .ok (.iload_n 1, 1) := by decide +kernel
theorem dX4_restore_46 : decode cX4_restore 46 = .ok (.sipush 8192, 3) := by decide +kernel
theorem dX4_restore_49 : decode cX4_restore 49 = .ok (.iadd, 1) := by decide +kernel
theorem dX4_restore_50 : decode cX4_restore 50 = .ok (.iaload, 1) := by decide +kernel
theorem dX4_restore_51 : decode cX4_restore 51 = .ok (.istore_n 2, 1) := by decide +kernel
theorem dX4_restore_52 : decode cX4_restore 52 = .ok (.iconst 0, 1) := by decide +kernel
theorem dX4_restore_53 : decode cX4_restore 53 = .ok (.istore_n 3, 1) := by decide +kernel
theorem dX4_restore_54 : decode cX4_restore 54 = .ok (.iload_n 3, 1) := by decide +kernel
theorem dX4_restore_55 : decode cX4_restore 55 = .ok (.iload_n 2, 1) := by decide +kernel
theorem dX4_restore_56 : decode cX4_restore 56 = .ok (.if_icmp .ge 36, 3) := by decide +kernel
theorem dX4_restore_59 : decode cX4_restore 59 = .ok (.aload_n 0, 1) := by decide +kernel
theorem dX4_restore_60 : decode cX4_restore 60 = .ok (.iload_n 3, 1) := by decide +kernel
theorem dX4_restore_61 : decode cX4_restore 61 = .ok (.aload_n 0, 1) := by decide +kernel
theorem dX4_restore_62 : decode cX4_restore 62 = .ok (.getfield 89, 3) := by decide +kernel
theorem dX4_restore_65 : decode cX4_restore 65 = .ok (.iload_n 2, 1) := by decide +kernel
theorem dX4_restore_66 : decode cX4_restore 66 = .ok (.invokevirtual 129, 3) := by decide +kernel
theorem dX4_restore_69 : decode cX4_restore 69 = .ok (.ifCond .ne 17, 3) := by decide +kernel
theorem dX4_restore_72 : decode cX4_restore 72 = .ok (.aload_n 0, 1) := by decide +kernel
theorem dX4_restore_73 : decode cX4_restore 73 = .ok (.getfield 20, 3) := by decide +kernel
theorem dX4_restore_76 : decode cX4_restore 76 = .ok (.iload_n 3, 1) := by decide +kernel
theorem dX4_restore_77 : decode cX4_restore 77 = .ok (.aload_n 0, 1) := by decide +kernel
theorem dX4_restore_78 : decode cX4_restore 78 = .ok (.getfield 29, 3) := by decide +kernel
theorem dX4_restore_81 : decode cX4_restore 81 = .ok (.iload_n 1, 1) := by decide +kernel
theorem dX4_restore_82 : decode cX4_restore 82 = .ok (.iload_n 3, 1) := by decide +kernel
theorem dX4_restore_83 : decode cX4_restore 83 = .ok (.iadd, 1) := by decide +kernel
theorem dX4_restore_84 : decode cX4_restore 84 = .ok (.iaload, 1) := by decide +kernel
theorem dX4_restore_85 : decode cX4_restore 85 = .ok (.iastore, 1) := by decide +kernel
theorem dX4_restore_86 : decode cX4_restore 86 = .ok (.iinc 3 1, 3) := by decide +kernel
theorem dX4_restore_89 : decode cX4_restore 89 = .ok (.goto (-35), 3) := by decide +kernel
theorem dX4_restore_92 : decode cX4_restore 92 = .ok (.aload_n 0, 1) := by decide +kernel
theorem dX4_restore_93 : decode cX4_restore 93 = .ok (.iload_n 2, 1) := by decide +kernel
theorem dX4_restore_94 : decode cX4_restore 94 = .ok (.putfield 89, 3) := by decide +kernel
theorem dX4_restore_97 : decode cX4_restore 97 = .ok (.aload_n 0, 1) := by decide +kernel
theorem dX4_restore_98 : decode cX4_restore 98 = .ok (.aload_n 0, 1) := by decide +kernel
theorem dX4_restore_99 : decode cX4_restore 99 = .ok (.getfield 29, 3) := by decide +kernel
theorem dX4_restore_102 : decode cX4_restore 102 = .ok (.iload_n 1, 1) := by decide +kernel
theorem dX4_restore_103 : decode cX4_restore 103 = .ok (.sipush 8193, 3) := by decide +kernel
theorem dX4_restore_106 : decode cX4_restore 106 = .ok (.iadd, 1) := by decide +kernel
theorem dX4_restore_107 : decode cX4_restore 107 = .ok (.iaload, 1) := by decide +kernel
theorem dX4_restore_108 : decode cX4_restore 108 = .ok (.putfield 92, 3) := by decide +kernel
theorem dX4_restore_111 : decode cX4_restore 111 = .ok (.aload_n 0, 1) := by decide +kernel
theorem dX4_restore_112 : decode cX4_restore 112 = .ok (.aload_n 0, 1) := by decide +kernel
theorem dX4_restore_113 : decode cX4_restore 113 = .ok (.getfield 29, 3) := by decide +kernel
theorem dX4_restore_116 : decode cX4_restore 116 = .ok (.iload_n 1, 1) := by decide +kernel
theorem dX4_restore_117 : decode cX4_restore 117 = .ok (.sipush 8194, 3) := by decide +kernel
theorem dX4_restore_120 : decode cX4_restore 120 = .ok (.iadd, 1) := by decide +kernel
theorem dX4_restore_121 : decode cX4_restore 121 = .ok (.iaload, 1) := by decide +kernel
theorem dX4_restore_122 : decode cX4_restore 122 = .ok (.putfield 95, 3) := by decide +kernel
theorem dX4_restore_125 : decode cX4_restore 125 = .ok (.iconst 0, 1) := by decide +kernel
theorem dX4_restore_126 : decode cX4_restore 126 = .ok (.istore_n 3, 1) := by decide +kernel
theorem dX4_restore_127 : decode cX4_restore 127 = .ok (.iload_n 3, 1) := by decide +kernel
theorem dX4_restore_128 : decode cX4_restore 128 = .ok (.aload_n 0, 1) := by decide +kernel
theorem dX4_restore_129 : decode cX4_restore 129 = .ok (.getfield 95, 3) := by decide +kernel
theorem dX4_restore_132 : decode cX4_restore 132 = .ok (.if_icmp .ge 49, 3) := by decide +kernel
theorem dX4_restore_135 : decode cX4_restore 135 = .ok (.aload_n 0, 1) := by decide +kernel
theorem dX4_restore_136 : decode cX4_restore 136 = .ok (.getfield 23, 3) := by decide +kernel
theorem dX4_restore_139 : decode cX4_restore 139 = .ok (.iload_n 3, 1) := by decide +kernel
theorem dX4_restore_140 : decode cX4_restore 140 = .ok (.aload_n 0, 1) := by decide +kernel
theorem dX4_restore_141 : decode cX4_restore 141 = .ok (.getfield 29, 3) := by decide +kernel
theorem dX4_restore_144 : decode cX4_restore 144 = .ok (.iload_n 1, 1) := by decide +kernel
theorem dX4_restore_145 : decode cX4_restore 145 = .ok (.sipush 8195, 3) := by decide +kernel
theorem dX4_restore_148 : decode cX4_restore 148 = .ok (.iadd, 1) := by decide +kernel
theorem dX4_restore_149 : decode cX4_restore 149 = .ok (.iconst 2, 1) := by decide +kernel
theorem dX4_restore_150 : decode cX4_restore 150 = .ok (.iload_n 3, 1) := by decide +kernel
theorem dX4_restore_151 : decode cX4_restore 151 = .ok (.imul, 1) := by decide +kernel
theorem dX4_restore_152 : decode cX4_restore 152 = .ok (.iadd, 1) := by decide +kernel
theorem dX4_restore_153 : decode cX4_restore 153 = .ok (.iaload, 1) := by decide +kernel
theorem dX4_restore_154 : decode cX4_restore 154 = .ok (.iastore, 1) := by decide +kernel
theorem dX4_restore_155 : decode cX4_restore 155 = .ok (.aload_n 0, 1) := by decide +kernel
theorem dX4_restore_156 : decode cX4_restore 156 = .ok (.getfield 26, 3) := by decide +kernel
theorem dX4_restore_159 : decode cX4_restore 159 = .ok (.iload_n 3, 1) := by decide +kernel
theorem dX4_restore_160 : decode cX4_restore 160 = .ok (.aload_n 0, 1) := by decide +kernel
theorem dX4_restore_161 : decode cX4_restore 161 = .ok (.getfield 29, 3) := by decide +kernel
theorem dX4_restore_164 : decode cX4_restore 164 = .ok (.iload_n 1, 1) := by decide +kernel
theorem dX4_restore_165 : decode cX4_restore 165 = .ok (.sipush 8196, 3) := by decide +kernel
theorem dX4_restore_168 : decode cX4_restore 168 = .ok (.iadd, 1) := by decide +kernel
theorem dX4_restore_169 : decode cX4_restore 169 = .ok (.iconst 2, 1) := by decide +kernel
theorem dX4_restore_170 : decode cX4_restore 170 = .ok (.iload_n 3, 1) := by decide +kernel
theorem dX4_restore_171 : decode cX4_restore 171 = .ok (.imul, 1) := by decide +kernel
theorem dX4_restore_172 : decode cX4_restore 172 = .ok (.iadd, 1) := by decide +kernel
theorem dX4_restore_173 : decode cX4_restore 173 = .ok (.iaload, 1) := by decide +kernel
theorem dX4_restore_174 : decode cX4_restore 174 = .ok (.iastore, 1) := by decide +kernel
theorem dX4_restore_175 : decode cX4_restore 175 = .ok (.iinc 3 1, 3) := by decide +kernel
theorem dX4_restore_178 : decode cX4_restore 178 = .ok (.goto (-51), 3) := by decide +kernel
theorem dX4_restore_181 : decode cX4_restore 181 = .ok (.aload_n 0, 1) := by decide +kernel
theorem dX4_restore_182 : decode cX4_restore 182 = .ok (.getfield 89, 3) := by decide +kernel
theorem dX4_restore_185 : decode cX4_restore 185 = .ok (.ireturn, 1) := by decide +kernel
set_option maxRecDepth 20000 in
theorem ggX4_changed_X4_in : GoodIn wsX4_changed wsX4_in := goodIn_r _ [10] (by decide +kernel) (by decide +kernel)
set_option maxRecDepth 20000 in
theorem gX4_changed_X4_in : GoodIn wsX4_changed (va_wsS RX4 41 yX4_in wsX4_in) := goodIn_app (goodIn_of _ (by decide +kernel)) ggX4_changed_X4_in
theorem dX4_changed_0 : decode cX4_changed 0 = .ok (.aload_n 0, 1) := by decide +kernel
theorem dX4_changed_1 : decode cX4_changed 1 = .ok (.iconst 0, 1) := by decide +kernel
theorem dX4_changed_2 : decode cX4_changed 2 = .ok (.putfield 32, 3) := by decide +kernel
theorem dX4_changed_5 : decode cX4_changed 5 = .ok (.aload_n 0, 1) := by decide +kernel
theorem dX4_changed_6 : decode cX4_changed 6 = .ok (.getfield 76, 3) := by decide +kernel
theorem dX4_changed_9 : decode cX4_changed 9 = .ok (.ifCond .ne 6, 3) := by decide +kernel
theorem dX4_changed_12 : decode cX4_changed 12 = .ok (.bipush (-3), 2) := by decide +kernel
theorem dX4_changed_14 : decode cX4_changed 14 = .ok (.ireturn, 1) := by decide +kernel
theorem dX4_changed_15 : decode cX4_changed 15 = .ok (.iload_n 1, 1) := by decide +kernel
theorem dX4_changed_16 : decode cX4_changed 16 = .ok (.i2l, 1) := by decide +kernel
theorem dX4_changed_17 : decode cX4_changed 17 = .ok (.lconst 0, 1) := by decide +kernel
theorem dX4_changed_18 : decode cX4_changed 18 = .ok (.aload_n 0, 1) := by decide +kernel
theorem dX4_changed_19 : decode cX4_changed 19 = .ok (.getfield 89, 3) := by decide +kernel
theorem dX4_changed_22 : decode cX4_changed 22 = .ok (.sipush 256, 3) := by decide +kernel
theorem dX4_changed_25 : decode cX4_changed 25 = .ok (.idiv, 1) := by decide +kernel
theorem dX4_changed_26 : decode cX4_changed 26 = .ok (.iconst 1, 1) := by decide +kernel
theorem dX4_changed_27 : decode cX4_changed 27 = .ok (.isub, 1) := by decide +kernel
theorem dX4_changed_28 : decode cX4_changed 28 = .ok (.i2l, 1) := by decide +kernel
theorem dX4_changed_29 : decode cX4_changed 29 = .ok (.invokestatic 41, 3) := by decide +kernel
theorem dX4_changed_32 : decode cX4_changed 32 = .ok (.ifCond .ne 5, 3) := by decide +kernel
theorem dX4_changed_35 : decode cX4_changed 35 = .ok (.iconst (-1), 1) := by decide +kernel
theorem dX4_changed_36 : decode cX4_changed 36 = .ok (.ireturn, 1) := by decide +kernel
theorem dX4_changed_37 : decode cX4_changed 37 = .ok (.sipush 256, 3) := by decide +kernel
theorem dX4_changed_40 : decode cX4_changed 40 = .ok (.iload_n 1, 1) := by decide +kernel
theorem dX4_changed_41 : decode cX4_changed 41 = .ok (.imul, 1) := by decide +kernel
theorem dX4_changed_42 : decode cX4_changed 42 = .ok (.istore_n 2, 1) := by decide +kernel
theorem dX4_changed_43 : decode cX4_changed 43 = .ok (.iload_n 2, 1) := by decide +kernel
theorem dX4_changed_44 : decode cX4_changed 44 = .ok (.sipush 256, 3) := by decide +kernel
theorem dX4_changed_47 : decode cX4_changed 47 = .ok (.iload_n 1, 1) := by decide +kernel
theorem dX4_changed_48 : decode cX4_changed 48 = .ok (.imul, 1) := by decide +kernel
theorem dX4_changed_49 : decode cX4_changed 49 = .ok (.sipush 256, 3) := by decide +kernel
theorem dX4_changed_52 : decode cX4_changed 52 = .ok (.iadd, 1) := by decide +kernel
theorem dX4_changed_53 : decode cX4_changed 53 = .ok (.if_icmp .ge 38, 3) := by decide +kernel
theorem dX4_changed_56 : decode cX4_changed 56 = .ok (.aload_n 0, 1) := by decide +kernel
theorem dX4_changed_57 : decode cX4_changed 57 = .ok (.getfield 20, 3) := by decide +kernel
theorem dX4_changed_60 : decode cX4_changed 60 = .ok (.iload_n 2, 1) := by decide +kernel
theorem dX4_changed_61 : decode cX4_changed 61 = .ok (.iaload, 1) := by decide +kernel
theorem dX4_changed_62 : decode cX4_changed 62 = .ok (.iload_n 2, 1) := by decide +kernel
theorem dX4_changed_63 : decode cX4_changed 63 = .ok (.aload_n 0, 1) := by decide +kernel
theorem dX4_changed_64 : decode cX4_changed 64 = .ok (.getfield 86, 3) := by decide +kernel
theorem dX4_changed_67 : decode cX4_changed 67 = .ok (.if_icmp .ge 12, 3) := by decide +kernel
theorem dX4_changed_70 : decode cX4_changed 70 = .ok (.aload_n 0, 1) := by decide +kernel
theorem dX4_changed_71 : decode cX4_changed 71 = .ok (.getfield 17, 3) := by decide +kernel
theorem dX4_changed_74 : decode cX4_changed 74 = .ok (.iload_n 2, 1) := by decide +kernel
theorem dX4_changed_75 : decode cX4_changed 75 = .ok (.iaload, 1) := by decide +kernel
theorem dX4_changed_76 : decode cX4_changed 76 = .ok (.goto 4, 3) := by decide +kernel
theorem dX4_changed_79 : decode cX4_changed 79 = .ok (.iconst 0, 1) := by decide +kernel
theorem dX4_changed_80 : decode cX4_changed 80 = .ok (.if_icmp .eq 5, 3) := by decide +kernel
theorem dX4_changed_83 : decode cX4_changed 83 = .ok (.iconst 1, 1) := by decide +kernel
theorem dX4_changed_84 : decode cX4_changed 84 = .ok (.ireturn, 1) := by decide +kernel
theorem dX4_changed_85 : decode cX4_changed 85 = .ok (.iinc 2 1, 3) := by decide +kernel
theorem dX4_changed_88 : decode cX4_changed 88 = .ok (.goto (-45), 3) := by decide +kernel
theorem dX4_changed_91 : decode cX4_changed 91 = .ok (.iconst 0, 1) := by decide +kernel
theorem dX4_changed_92 : decode cX4_changed 92 = .ok (.ireturn, 1) := by decide +kernel
set_option maxRecDepth 20000 in
theorem ggX4_hash_X4_in : GoodIn wsX4_hash wsX4_in := goodIn_r _ [8] (by decide +kernel) (by decide +kernel)
set_option maxRecDepth 20000 in
theorem gX4_hash_X4_in : GoodIn wsX4_hash (va_wsS RX4 41 yX4_in wsX4_in) := goodIn_app (goodIn_of _ (by decide +kernel)) ggX4_hash_X4_in
theorem dX4_hash_0 : decode cX4_hash 0 = .ok (.aload_n 0, 1) := by decide +kernel
theorem dX4_hash_1 : decode cX4_hash 1 = .ok (.iconst 0, 1) := by decide +kernel
theorem dX4_hash_2 : decode cX4_hash 2 = .ok (.putfield 32, 3) := by decide +kernel
theorem dX4_hash_5 : decode cX4_hash 5 = .ok (.aload_n 0, 1) := by decide +kernel
theorem dX4_hash_6 : decode cX4_hash 6 = .ok (.getfield 76, 3) := by decide +kernel
theorem dX4_hash_9 : decode cX4_hash 9 = .ok (.ifCond .ne 6, 3) := by decide +kernel
theorem dX4_hash_12 : decode cX4_hash 12 = .ok (.bipush (-3), 2) := by decide +kernel
theorem dX4_hash_14 : decode cX4_hash 14 = .ok (.ireturn, 1) := by decide +kernel
theorem dX4_hash_15 : decode cX4_hash 15 = .ok (.iload_n 2, 1) := by decide +kernel
theorem dX4_hash_16 : decode cX4_hash 16 = .ok (.ifCond .ge 6, 3) := by decide +kernel
theorem dX4_hash_19 : decode cX4_hash 19 = .ok (.bipush (-2), 2) := by decide +kernel
theorem dX4_hash_21 : decode cX4_hash 21 = .ok (.ireturn, 1) := by decide +kernel
theorem dX4_hash_22 : decode cX4_hash 22 = .ok (.iload_n 1, 1) := by decide +kernel
theorem dX4_hash_23 : decode cX4_hash 23 = .ok (.i2l, 1) := by decide +kernel
theorem dX4_hash_24 : decode cX4_hash 24 = .ok (.lconst 0, 1) := by decide +kernel
theorem dX4_hash_25 : decode cX4_hash 25 = .ok (.aload_n 0, 1) := by decide +kernel
theorem dX4_hash_26 : decode cX4_hash 26 = .ok (.getfield 89, 3) := by decide +kernel
theorem dX4_hash_29 : decode cX4_hash 29 = .ok (.i2l, 1) := by decide +kernel
theorem dX4_hash_30 : decode cX4_hash 30 = .ok (.invokestatic 41, 3) := by decide +kernel
theorem dX4_hash_33 : decode cX4_hash 33 = .ok (.ifCond .eq 13, 3) := by decide +kernel
theorem dX4_hash_36 : decode cX4_hash 36 = .ok (.iload_n 2, 1) := by decide +kernel
theorem dX4_hash_37 : decode cX4_hash 37 = .ok (.aload_n 0, 1) := by decide +kernel
theorem dX4_hash_38 : decode cX4_hash 38 = .ok (.getfield 89, 3) := by decide +kernel
theorem dX4_hash_41 : decode cX4_hash 41 = .ok (.iload_n 1, 1) := by decide +kernel
theorem dX4_hash_42 : decode cX4_hash 42 = .ok (.isub, 1) := by decide +kernel
theorem dX4_hash_43 : decode cX4_hash 43 = .ok (.if_icmp .le 5, 3) := by decide +kernel
theorem dX4_hash_46 : decode cX4_hash 46 = .ok (.iconst (-1), 1) := by decide +kernel
theorem dX4_hash_47 : decode cX4_hash 47 = .ok (.ireturn, 1) := by decide +kernel
theorem dX4_hash_48 : decode cX4_hash 48 = .ok (.iconst 0, 1) := by decide +kernel
theorem dX4_hash_49 : decode cX4_hash 49 = .ok (.istore_n 3, 1) := by decide +kernel
theorem dX4_hash_50 : decode cX4_hash 50 = .ok (.iconst 0, 1) := by decide +kernel
theorem dX4_hash_51 : decode cX4_hash 51 = .ok (.istore 4, 2) := by decide +kernel
theorem dX4_hash_53 : decode cX4_hash 53 = .ok (.iload 4, 2) := by decide +kernel
theorem dX4_hash_55 : decode cX4_hash 55 = .ok (.iload_n 2, 1) := by decide +kernel
theorem dX4_hash_56 : decode cX4_hash 56 = .ok (.if_icmp .ge 24, 3) := by decide +kernel
theorem dX4_hash_59 : decode cX4_hash 59 = .ok (.bipush 31, 2) := by decide +kernel
theorem dX4_hash_61 : decode cX4_hash 61 = .ok (.iload_n 3, 1) := by decide +kernel
theorem dX4_hash_62 : decode cX4_hash 62 = .ok (.imul, 1) := by decide +kernel
theorem dX4_hash_63 : decode cX4_hash 63 = .ok (.aload_n 0, 1) := by decide +kernel
theorem dX4_hash_64 : decode cX4_hash 64 = .ok (.getfield 20, 3) := by decide +kernel
theorem dX4_hash_67 : decode cX4_hash 67 = .ok (.iload_n 1, 1) := by decide +kernel
theorem dX4_hash_68 : decode cX4_hash 68 = .ok (.iload 4, 2) := by decide +kernel
theorem dX4_hash_70 : decode cX4_hash 70 = .ok (.iadd, 1) := by decide +kernel
theorem dX4_hash_71 : decode cX4_hash 71 = .ok (.iaload, 1) := by decide +kernel
theorem dX4_hash_72 : decode cX4_hash 72 = .ok (.iadd, 1) := by decide +kernel
theorem dX4_hash_73 : decode cX4_hash 73 = .ok (.istore_n 3, 1) := by decide +kernel
theorem dX4_hash_74 : decode cX4_hash 74 = .ok (.iinc 4 1, 3) := by decide +kernel
theorem dX4_hash_77 : decode cX4_hash 77 = .ok (.goto (-24), 3) := by decide +kernel
theorem dX4_hash_80 : decode cX4_hash 80 = .ok (.iload_n 3, 1) := by decide +kernel
theorem dX4_hash_81 : decode cX4_hash 81 = .ok (.ireturn, 1) := by decide +kernel
set_option maxRecDepth 20000 in
theorem ggX4_cell_X4_in : GoodIn wsX4_cell wsX4_in := goodIn_r _ [8] (by decide +kernel) (by decide +kernel)
set_option maxRecDepth 20000 in
theorem gX4_cell_X4_in : GoodIn wsX4_cell (va_wsS RX4 41 yX4_in wsX4_in) := goodIn_app (goodIn_of _ (by decide +kernel)) ggX4_cell_X4_in
theorem dX4_cell_0 : decode cX4_cell 0 = .ok (.aload_n 0, 1) := by decide +kernel
theorem dX4_cell_1 : decode cX4_cell 1 = .ok (.iconst 0, 1) := by decide +kernel
theorem dX4_cell_2 : decode cX4_cell 2 = .ok (.putfield 32, 3) := by decide +kernel
theorem dX4_cell_5 : decode cX4_cell 5 = .ok (.aload_n 0, 1) := by decide +kernel
theorem dX4_cell_6 : decode cX4_cell 6 = .ok (.getfield 76, 3) := by decide +kernel
theorem dX4_cell_9 : decode cX4_cell 9 = .ok (.ifCond .ne 6, 3) := by decide +kernel
theorem dX4_cell_12 : decode cX4_cell 12 = .ok (.bipush (-3), 2) := by decide +kernel
theorem dX4_cell_14 : decode cX4_cell 14 = .ok (.ireturn, 1) := by decide +kernel
theorem dX4_cell_15 : decode cX4_cell 15 = .ok (.iload_n 1, 1) := by decide +kernel
theorem dX4_cell_16 : decode cX4_cell 16 = .ok (.i2l, 1) := by decide +kernel
theorem dX4_cell_17 : decode cX4_cell 17 = .ok (.lconst 0, 1) := by decide +kernel
theorem dX4_cell_18 : decode cX4_cell 18 = .ok (.aload_n 0, 1) := by decide +kernel
theorem dX4_cell_19 : decode cX4_cell 19 = .ok (.getfield 89, 3) := by decide +kernel
theorem dX4_cell_22 : decode cX4_cell 22 = .ok (.iconst 1, 1) := by decide +kernel
theorem dX4_cell_23 : decode cX4_cell 23 = .ok (.isub, 1) := by decide +kernel
theorem dX4_cell_24 : decode cX4_cell 24 = .ok (.i2l, 1) := by decide +kernel
theorem dX4_cell_25 : decode cX4_cell 25 = .ok (.invokestatic 41, 3) := by decide +kernel
theorem dX4_cell_28 : decode cX4_cell 28 = .ok (.ifCond .ne 10, 3) := by decide +kernel
theorem dX4_cell_31 : decode cX4_cell 31 = .ok (.aload_n 0, 1) := by decide +kernel
theorem dX4_cell_32 : decode cX4_cell 32 = .ok (.iconst 1, 1) := by decide +kernel
theorem dX4_cell_33 : decode cX4_cell 33 = .ok (.putfield 32, 3) := by decide +kernel
theorem dX4_cell_36 : decode cX4_cell 36 = .ok (.iconst 0, 1) := by decide +kernel
theorem dX4_cell_37 : decode cX4_cell 37 = .ok (.ireturn, 1) := by decide +kernel
theorem dX4_cell_38 : decode cX4_cell 38 = .ok (.aload_n 0, 1) := by decide +kernel
theorem dX4_cell_39 : decode cX4_cell 39 = .ok (.getfield 20, 3) := by decide +kernel
theorem dX4_cell_42 : decode cX4_cell 42 = .ok (.iload_n 1, 1) := by decide +kernel
theorem dX4_cell_43 : decode cX4_cell 43 = .ok (.iaload, 1) := by decide +kernel
theorem dX4_cell_44 : decode cX4_cell 44 = .ok (.ireturn, 1) := by decide +kernel
