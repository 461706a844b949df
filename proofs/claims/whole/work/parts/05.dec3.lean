set_option maxRecDepth 20000 in
theorem ggX3_init_X2_init : GoodIn wsX3_init wsX2_init := goodIn_r _ [10, 11, 2, 3, 12, 13, 14, 15, 16] (by decide +kernel) (by decide +kernel)
set_option maxRecDepth 20000 in
theorem gX3_init_X2_init_n11 : GoodIn wsX3_init (wsX2_init) := ggX3_init_X2_init
theorem dX3_init_0 : decode cX3_init 0 = .ok (.aload_n 0, 1) := by decide +kernel
theorem dX3_init_1 : decode cX3_init 1 = .ok (.invokespecial 3, 3) := by decide +kernel
theorem dX3_init_4 : decode cX3_init 4 = .ok (.aload_n 0, 1) := by decide +kernel
theorem dX3_init_5 : decode cX3_init 5 = .ok (.new 9, 3) := by decide +kernel
theorem dX3_init_8 : decode cX3_init 8 = .ok (.dup, 1) := by decide +kernel
theorem dX3_init_9 : decode cX3_init 9 = .ok (.invokespecial 11, 3) := by decide +kernel
theorem dX3_init_12 : decode cX3_init 12 = .ok (.putfield 12, 3) := by decide +kernel
theorem dX3_init_15 : decode cX3_init 15 = .ok (.aload_n 0, 1) := by decide +kernel
theorem dX3_init_16 : decode cX3_init 16 = .ok (.aconst_null, 1) := by decide +kernel
theorem dX3_init_17 : decode cX3_init 17 = .ok (.putfield 18, 3) := by decide +kernel
theorem dX3_init_20 : decode cX3_init 20 = .ok (.return_, 1) := by decide +kernel
set_option maxRecDepth 20000 in
theorem ggX3_feed_X2_hasRoomFor : GoodIn wsX3_feed wsX2_hasRoomFor := goodIn_r _ [5, 6, 17, 18] (by decide +kernel) (by decide +kernel)
set_option maxRecDepth 20000 in
theorem gX3_feed_X2_hasRoomFor_n22 : GoodIn wsX3_feed (wsX2_hasRoomFor) := ggX3_feed_X2_hasRoomFor
set_option maxRecDepth 20000 in
theorem ggX3_feed_X2_appendWord : GoodIn wsX3_feed wsX2_appendWord := goodIn_r _ [9, 10, 11, 12, 3, 13, 6, 14, 17, 18] (by decide +kernel) (by decide +kernel)
set_option maxRecDepth 20000 in
theorem gX3_feed_X2_appendWord_n26 : GoodIn wsX3_feed (wsX2_appendWord) := ggX3_feed_X2_appendWord
theorem dX3_feed_0 : decode cX3_feed 0 = .ok (.aload_n 0, 1) := by decide +kernel
theorem dX3_feed_1 : decode cX3_feed 1 = .ok (.getfield 12, 3) := by decide +kernel
theorem dX3_feed_4 : decode cX3_feed 4 = .ok (.bipush 20, 2) := by decide +kernel
theorem dX3_feed_6 : decode cX3_feed 6 = .ok (.invokevirtual 22, 3) := by decide +kernel
theorem dX3_feed_9 : decode cX3_feed 9 = .ok (.ifCond .ne 6, 3) := by decide +kernel
theorem dX3_feed_12 : decode cX3_feed 12 = .ok (.bipush (-4), 2) := by decide +kernel
theorem dX3_feed_14 : decode cX3_feed 14 = .ok (.ireturn, 1) := by decide +kernel
theorem dX3_feed_15 : decode cX3_feed 15 = .ok (.aload_n 0, 1) := by decide +kernel
theorem dX3_feed_16 : decode cX3_feed 16 = .ok (.getfield 12, 3) := by decide +kernel
theorem dX3_feed_19 : decode cX3_feed 19 = .ok (.iload_n 1, 1) := by decide +kernel
theorem dX3_feed_20 : decode cX3_feed 20 = .ok (.invokevirtual 26, 3) := by decide +kernel
theorem dX3_feed_23 : decode cX3_feed 23 = .ok (.aload_n 0, 1) := by decide +kernel
theorem dX3_feed_24 : decode cX3_feed 24 = .ok (.getfield 12, 3) := by decide +kernel
theorem dX3_feed_27 : decode cX3_feed 27 = .ok (.iload_n 2, 1) := by decide +kernel
theorem dX3_feed_28 : decode cX3_feed 28 = .ok (.invokevirtual 26, 3) := by decide +kernel
theorem dX3_feed_31 : decode cX3_feed 31 = .ok (.aload_n 0, 1) := by decide +kernel
theorem dX3_feed_32 : decode cX3_feed 32 = .ok (.getfield 12, 3) := by decide +kernel
theorem dX3_feed_35 : decode cX3_feed 35 = .ok (.iload_n 3, 1) := by decide +kernel
theorem dX3_feed_36 : decode cX3_feed 36 = .ok (.invokevirtual 26, 3) := by decide +kernel
theorem dX3_feed_39 : decode cX3_feed 39 = .ok (.aload_n 0, 1) := by decide +kernel
theorem dX3_feed_40 : decode cX3_feed 40 = .ok (.getfield 12, 3) := by decide +kernel
theorem dX3_feed_43 : decode cX3_feed 43 = .ok (.iload 4, 2) := by decide +kernel
theorem dX3_feed_45 : decode cX3_feed 45 = .ok (.invokevirtual 26, 3) := by decide +kernel
theorem dX3_feed_48 : decode cX3_feed 48 = .ok (.aload_n 0, 1) := by decide +kernel
theorem dX3_feed_49 : decode cX3_feed 49 = .ok (.getfield 12, 3) := by decide +kernel
theorem dX3_feed_52 : decode cX3_feed 52 = .ok (.iload 5, 2) := by decide +kernel
theorem dX3_feed_54 : decode cX3_feed 54 = .ok (.invokevirtual 26, 3) := by decide +kernel
theorem dX3_feed_57 : decode cX3_feed 57 = .ok (.aload_n 0, 1) := by decide +kernel
theorem dX3_feed_58 : decode cX3_feed 58 = .ok (.getfield 12, 3) := by decide +kernel
theorem dX3_feed_61 : decode cX3_feed 61 = .ok (.getfield 30, 3) := by decide +kernel
theorem dX3_feed_64 : decode cX3_feed 64 = .ok (.ireturn, 1) := by decide +kernel
set_option maxRecDepth 20000 in
theorem ggX3_fill_X2_hasRoomFor : GoodIn wsX3_fill wsX2_hasRoomFor := goodIn_r _ [6, 7, 14, 15] (by decide +kernel) (by decide +kernel)
set_option maxRecDepth 20000 in
theorem gX3_fill_X2_hasRoomFor_n22 : GoodIn wsX3_fill (wsX2_hasRoomFor) := ggX3_fill_X2_hasRoomFor
set_option maxRecDepth 20000 in
theorem ggX3_fill_X2_appendByte : GoodIn wsX3_fill wsX2_appendByte := goodIn_r _ [10, 7, 11, 14, 15] (by decide +kernel) (by decide +kernel)
set_option maxRecDepth 20000 in
theorem gX3_fill_X2_appendByte_n35 : GoodIn wsX3_fill (wsX2_appendByte) := ggX3_fill_X2_appendByte
theorem dX3_fill_0 : decode cX3_fill 0 = .ok (.iload_n 1, 1) := by decide +kernel
theorem dX3_fill_1 : decode cX3_fill 1 = .ok (.iconst 1, 1) := by decide +kernel
theorem dX3_fill_2 : decode cX3_fill 2 = .ok (.if_icmp .lt 10, 3) := by decide +kernel
theorem dX3_fill_5 : decode cX3_fill 5 = .ok (.iload_n 1, 1) := by decide +kernel
theorem dX3_fill_6 : decode cX3_fill 6 = .ok (.sipush 3000, 3) := by decide +kernel
theorem dX3_fill_9 : decode cX3_fill 9 = .ok (.if_icmp .le 6, 3) := by decide +kernel
theorem dX3_fill_12 : decode cX3_fill 12 = .ok (.bipush (-2), 2) := by decide +kernel
theorem dX3_fill_14 : decode cX3_fill 14 = .ok (.ireturn, 1) := by decide +kernel
theorem dX3_fill_15 : decode cX3_fill 15 = .ok (.aload_n 0, 1) := by decide +kernel
theorem dX3_fill_16 : decode cX3_fill 16 = .ok (.getfield 12, 3) := by decide +kernel
theorem dX3_fill_19 : decode cX3_fill 19 = .ok (.iload_n 1, 1) := by decide +kernel
theorem dX3_fill_20 : decode cX3_fill 20 = .ok (.invokevirtual 22, 3) := by decide +kernel
theorem dX3_fill_23 : decode cX3_fill 23 = .ok (.ifCond .ne 6, 3) := by decide +kernel
theorem dX3_fill_26 : decode cX3_fill 26 = .ok (.bipush (-4), 2) := by decide +kernel
theorem dX3_fill_28 : decode cX3_fill 28 = .ok (.ireturn, 1) := by decide +kernel
theorem dX3_fill_29 : decode cX3_fill 29 = .ok (.iload_n 2, 1) := by decide +kernel
theorem dX3_fill_30 : decode cX3_fill 30 = .ok (.istore_n 3, 1) := by decide +kernel
theorem dX3_fill_31 : decode cX3_fill 31 = .ok (.iconst 0, 1) := by decide +kernel
theorem dX3_fill_32 : decode cX3_fill 32 = .ok (.istore 4, 2) := by decide +kernel
theorem dX3_fill_34 : decode cX3_fill 34 = .ok (.iload 4, 2) := by decide +kernel
theorem dX3_fill_36 : decode cX3_fill 36 = .ok (.iload_n 1, 1) := by decide +kernel
theorem dX3_fill_37 : decode cX3_fill 37 = .ok (.if_icmp .ge 29, 3) := by decide +kernel
theorem dX3_fill_40 : decode cX3_fill 40 = .ok (.iload_n 3, 1) := by decide +kernel
theorem dX3_fill_41 : decode cX3_fill 41 = .ok (.ldc 34, 2) := by decide +kernel
theorem dX3_fill_43 : decode cX3_fill 43 = .ok (.imul, 1) := by decide +kernel
theorem dX3_fill_44 : decode cX3_fill 44 = .ok (.sipush 12345, 3) := by decide +kernel
theorem dX3_fill_47 : decode cX3_fill 47 = .ok (.iadd, 1) := by decide +kernel
theorem dX3_fill_48 : decode cX3_fill 48 = .ok (.istore_n 3, 1) := by decide +kernel
theorem dX3_fill_49 : decode cX3_fill 49 = .ok (.aload_n 0, 1) := by decide +kernel
theorem dX3_fill_50 : decode cX3_fill 50 = .ok (.getfield 12, 3) := by decide +kernel
theorem dX3_fill_53 : decode cX3_fill 53 = .ok (.iload_n 3, 1) := by decide +kernel
theorem dX3_fill_54 : decode cX3_fill 54 = .ok (.bipush 16, 2) := by decide +kernel
theorem dX3_fill_56 : decode cX3_fill 56 = .ok (.iushr, 1) := by decide +kernel
theorem dX3_fill_57 : decode cX3_fill 57 = .ok (.invokevirtual 35, 3) := by decide +kernel
theorem dX3_fill_60 : decode cX3_fill 60 = .ok (.iinc 4 1, 3) := by decide +kernel
theorem dX3_fill_63 : decode cX3_fill 63 = .ok (.goto (-29), 3) := by decide +kernel
theorem dX3_fill_66 : decode cX3_fill 66 = .ok (.aload_n 0, 1) := by decide +kernel
theorem dX3_fill_67 : decode cX3_fill 67 = .ok (.getfield 12, 3) := by decide +kernel
theorem dX3_fill_70 : decode cX3_fill 70 = .ok (.getfield 30, 3) := by decide +kernel
theorem dX3_fill_73 : decode cX3_fill 73 = .ok (.ireturn, 1) := by decide +kernel
set_option maxRecDepth 20000 in
theorem ggX3_word_X2_hasWholeWord : GoodIn wsX3_word wsX2_hasWholeWord := goodIn_r _ [5, 6, 17, 18] (by decide +kernel) (by decide +kernel)
set_option maxRecDepth 20000 in
theorem gX3_word_X2_hasWholeWord_n38 : GoodIn wsX3_word (wsX2_hasWholeWord) := ggX3_word_X2_hasWholeWord
set_option maxRecDepth 20000 in
theorem ggX3_word_X2_putWord : GoodIn wsX3_word wsX2_putWord := goodIn_r _ [9, 10, 11, 12, 3, 13, 6, 14, 17, 18] (by decide +kernel) (by decide +kernel)
set_option maxRecDepth 20000 in
theorem gX3_word_X2_putWord_n41 : GoodIn wsX3_word (wsX2_putWord) := ggX3_word_X2_putWord
theorem dX3_word_0 : decode cX3_word 0 = .ok (.aload_n 0, 1) := by decide +kernel
theorem dX3_word_1 : decode cX3_word 1 = .ok (.getfield 12, 3) := by decide +kernel
theorem dX3_word_4 : decode cX3_word 4 = .ok (.iload_n 1, 1) := by decide +kernel
theorem dX3_word_5 : decode cX3_word 5 = .ok (.invokevirtual 38, 3) := by decide +kernel
theorem dX3_word_8 : decode cX3_word 8 = .ok (.ifCond .ne 5, 3) := by decide +kernel
theorem dX3_word_11 : decode cX3_word 11 = .ok (.iconst (-1), 1) := by decide +kernel
theorem dX3_word_12 : decode cX3_word 12 = .ok (.ireturn, 1) := by decide +kernel
theorem dX3_word_13 : decode cX3_word 13 = .ok (.aload_n 0, 1) := by decide +kernel
theorem dX3_word_14 : decode cX3_word 14 = .ok (.getfield 12, 3) := by decide +kernel
theorem dX3_word_17 : decode cX3_word 17 = .ok (.iload_n 1, 1) := by decide +kernel
theorem dX3_word_18 : decode cX3_word 18 = .ok (.iload_n 2, 1) := by decide +kernel
theorem dX3_word_19 : decode cX3_word 19 = .ok (.invokevirtual 41, 3) := by decide +kernel
theorem dX3_word_22 : decode cX3_word 22 = .ok (.iconst 1, 1) := by decide +kernel
theorem dX3_word_23 : decode cX3_word 23 = .ok (.ireturn, 1) := by decide +kernel
theorem dX3_cut_0 : decode cX3_cut 0 = .ok (.iload_n 1, 1) := by decide +kernel
theorem dX3_cut_1 : decode cX3_cut 1 = .ok (.ifCond .lt 14, 3) := by decide +kernel
theorem dX3_cut_4 : decode cX3_cut 4 = .ok (.iload_n 1, 1) := by decide +kernel
theorem dX3_cut_5 : decode cX3_cut 5 = .ok (.aload_n 0, 1) := by decide +kernel
theorem dX3_cut_6 : decode cX3_cut 6 = .ok (.getfield 12, 3) := by decide +kernel
theorem dX3_cut_9 : decode cX3_cut 9 = .ok (.getfield 30, 3) := by decide +kernel
theorem dX3_cut_12 : decode cX3_cut 12 = .ok (.if_icmp .le 5, 3) := by decide +kernel
theorem dX3_cut_15 : decode cX3_cut 15 = .ok (.iconst (-1), 1) := by decide +kernel
theorem dX3_cut_16 : decode cX3_cut 16 = .ok (.ireturn, 1) := by decide +kernel
theorem dX3_cut_17 : decode cX3_cut 17 = .ok (.aload_n 0, 1) := by decide +kernel
theorem dX3_cut_18 : decode cX3_cut 18 = .ok (.getfield 12, 3) := by decide +kernel
theorem dX3_cut_21 : decode cX3_cut 21 = .ok (.getfield 30, 3) := by decide +kernel
theorem dX3_cut_24 : decode cX3_cut 24 = .ok (.iload_n 1, 1) := by decide +kernel
theorem dX3_cut_25 : decode cX3_cut 25 = .ok (.isub, 1) := by decide +kernel
theorem dX3_cut_26 : decode cX3_cut 26 = .ok (.istore_n 2, 1) := by decide +kernel
theorem dX3_cut_27 : decode cX3_cut 27 = .ok (.aload_n 0, 1) := by decide +kernel
theorem dX3_cut_28 : decode cX3_cut 28 = .ok (.getfield 12, 3) := by decide +kernel
theorem dX3_cut_31 : decode cX3_cut 31 = .ok (.iload_n 1, 1) := by decide +kernel
theorem dX3_cut_32 : decode cX3_cut 32 = .ok (.putfield 30, 3) := by decide +kernel
theorem dX3_cut_35 : decode cX3_cut 35 = .ok (.iload_n 2, 1) := by decide +kernel
theorem dX3_cut_36 : decode cX3_cut 36 = .ok (.ireturn, 1) := by decide +kernel
set_option maxRecDepth 20000 in
theorem ggX3_verdict_X2_judge : GoodIn wsX3_verdict wsX2_judge := goodIn_r _ [5, 6, 7, 8, 9, 10, 11, 12, 3, 13, 14, 15, 16, 17, 18, 19, 20, 21, 22, 23, 24, 25, 26, 27, 28, 29, 30, 31, 32, 33, 34, 37, 38] (by decide +kernel) (by decide +kernel)
set_option maxRecDepth 20000 in
theorem gX3_verdict_X2_judge_n45 : GoodIn wsX3_verdict (wsX2_judge) := ggX3_verdict_X2_judge
theorem dX3_verdict_0 : decode cX3_verdict 0 = .ok (.aload_n 0, 1) := by decide +kernel
theorem dX3_verdict_1 : decode cX3_verdict 1 = .ok (.getfield 12, 3) := by decide +kernel
theorem dX3_verdict_4 : decode cX3_verdict 4 = .ok (.invokevirtual 45, 3) := by decide +kernel
theorem dX3_verdict_7 : decode cX3_verdict 7 = .ok (.ireturn, 1) := by decide +kernel
set_option maxRecDepth 20000 in
theorem ggX3_sum_X2_rightSum : GoodIn wsX3_sum wsX2_rightSum := goodIn_r _ [6, 7, 8, 9, 10, 11, 4, 12, 13, 14, 15, 16, 17, 20, 21] (by decide +kernel) (by decide +kernel)
set_option maxRecDepth 20000 in
theorem gX3_sum_X2_rightSum_n51 : GoodIn wsX3_sum (wsX2_rightSum) := ggX3_sum_X2_rightSum
theorem dX3_sum_0 : decode cX3_sum 0 = .ok (.aload_n 0, 1) := by decide +kernel
theorem dX3_sum_1 : decode cX3_sum 1 = .ok (.getfield 12, 3) := by decide +kernel
theorem dX3_sum_4 : decode cX3_sum 4 = .ok (.getfield 30, 3) := by decide +kernel
theorem dX3_sum_7 : decode cX3_sum 7 = .ok (.bipush 36, 2) := by decide +kernel
theorem dX3_sum_9 : decode cX3_sum 9 = .ok (.if_icmp .ge 9, 3) := by decide +kernel
theorem dX3_sum_12 : decode cX3_sum 12 = .ok (.ldc2_w 49, 3) := by decide +kernel
theorem dX3_sum_15 : decode cX3_sum 15 = .ok (.goto 10, 3) := by decide +kernel
theorem dX3_sum_18 : decode cX3_sum 18 = .ok (.aload_n 0, 1) := by decide +kernel
theorem dX3_sum_19 : decode cX3_sum 19 = .ok (.getfield 12, 3) := by decide +kernel
theorem dX3_sum_22 : decode cX3_sum 22 = .ok (.invokevirtual 51, 3) := by decide +kernel
theorem dX3_sum_25 : decode cX3_sum 25 = .ok (.lreturn, 1) := by decide +kernel
set_option maxRecDepth 20000 in
theorem ggX3_load_X2_judge : GoodIn wsX3_load wsX2_judge := goodIn_r _ [9, 10, 11, 12, 13, 14, 15, 16, 7, 17, 18, 19, 20, 21, 22, 23, 24, 25, 26, 27, 28, 29, 30, 31, 32, 33, 34, 35, 36, 37, 38, 115, 116] (by decide +kernel) (by decide +kernel)
set_option maxRecDepth 20000 in
theorem gX3_load_X2_judge_n45 : GoodIn wsX3_load (wsX2_judge) := ggX3_load_X2_judge
set_option maxRecDepth 20000 in
theorem ggX3_load_X0_init : GoodIn wsX3_load wsX0_init := goodIn_r _ [40, 41, 42, 43, 44, 45, 46, 47, 48, 49, 50, 51, 52, 53, 54, 55, 56, 57, 58, 59, 60, 61, 62, 63, 64, 65, 66, 67, 117, 118, 119, 120, 121, 122, 105, 106, 107, 108, 109, 110, 111, 112, 113, 114] (by decide +kernel) (by decide +kernel)
set_option maxRecDepth 20000 in
theorem gX3_load_X0_init_n57 : GoodIn wsX3_load (wsX0_init) := ggX3_load_X0_init
set_option maxRecDepth 20000 in
theorem ggX3_load_X0_begin : GoodIn wsX3_load wsX0_begin := goodIn_r _ [70, 47, 48, 56, 51, 52, 53, 54, 55, 15, 7, 16, 17, 18, 19, 20, 21, 22, 10, 23, 71, 46, 72, 73, 74, 75, 76, 77, 62, 61, 78, 79, 80, 81, 82, 83, 84, 85, 86, 87, 88, 89, 90, 91, 92, 93, 94, 95, 96, 97, 98, 99, 64, 65, 66, 67, 100, 101, 102, 14, 105, 106, 107, 108, 109, 110, 111, 112, 113, 114, 115, 116, 117, 118, 119, 120, 121, 122] (by decide +kernel) (by decide +kernel)
set_option maxRecDepth 20000 in
theorem gX3_load_X0_begin_n58 : GoodIn wsX3_load (wsX0_begin) := ggX3_load_X0_begin
theorem dX3_load_0 : decode cX3_load 0 = .ok (.aload_n 0, 1) := by decide +kernel
theorem dX3_load_1 : decode cX3_load 1 = .ok (.getfield 12, 3) := by decide +kernel
theorem dX3_load_4 : decode cX3_load 4 = .ok (.invokevirtual 45, 3) := by decide +kernel
theorem dX3_load_7 : decode cX3_load 7 = .ok (.istore_n 1, 1) := by decide +kernel
theorem dX3_load_8 : decode cX3_load 8 = .ok (.iload_n 1, 1) := by decide +kernel
theorem dX3_load_9 : decode cX3_load 9 = .ok (.ifCond .ne 32, 3) := by decide +kernel
theorem dX3_load_12 : decode cX3_load 12 = .ok (.aload_n 0, 1) := by decide +kernel
theorem dX3_load_13 : decode cX3_load 13 = .ok (.getfield 18, 3) := by decide +kernel
theorem dX3_load_16 : decode cX3_load 16 = .ok (.ifnonnull 14, 3) := by decide +kernel
theorem dX3_load_19 : decode cX3_load 19 = .ok (.aload_n 0, 1) := by decide +kernel
theorem dX3_load_20 : decode cX3_load 20 = .ok (.new 55, 3) := by decide +kernel
theorem dX3_load_23 : decode cX3_load 23 = .ok (.dup, 1) := by decide +kernel
theorem dX3_load_24 : decode cX3_load 24 = .ok (.invokespecial 57, 3) := by decide +kernel
theorem dX3_load_27 : decode cX3_load 27 = .ok (.putfield 18, 3) := by decide +kernel
theorem dX3_load_30 : decode cX3_load 30 = .ok (.aload_n 0, 1) := by decide +kernel
theorem dX3_load_31 : decode cX3_load 31 = .ok (.getfield 18, 3) := by decide +kernel
theorem dX3_load_34 : decode cX3_load 34 = .ok (.aload_n 0, 1) := by decide +kernel
theorem dX3_load_35 : decode cX3_load 35 = .ok (.getfield 12, 3) := by decide +kernel
theorem dX3_load_38 : decode cX3_load 38 = .ok (.invokevirtual 58, 3) := by decide +kernel
theorem dX3_load_41 : decode cX3_load 41 = .ok (.iload_n 1, 1) := by decide +kernel
theorem dX3_load_42 : decode cX3_load 42 = .ok (.ireturn, 1) := by decide +kernel
set_option maxRecDepth 20000 in
theorem ggX3_told_X1_valueAt : GoodIn wsX3_told wsX1_valueAt := goodIn_r _ [6, 7, 8, 9, 4, 10, 11, 12, 35, 36, 37, 38, 39, 40] (by decide +kernel) (by decide +kernel)
set_option maxRecDepth 20000 in
theorem gX3_told_X1_valueAt_n66 : GoodIn wsX3_told (wsX1_valueAt) := ggX3_told_X1_valueAt
set_option maxRecDepth 20000 in
theorem ggX3_told_X0_tell : GoodIn wsX3_told wsX0_tell := goodIn_r _ [16, 17, 18, 19, 20, 21, 22, 25, 26, 27, 28, 29, 30, 31, 32, 33, 34, 35, 36, 37, 38, 39, 40] (by decide +kernel) (by decide +kernel)
set_option maxRecDepth 20000 in
theorem gX3_told_X0_tell_n72 : GoodIn wsX3_told (wsX0_tell) := ggX3_told_X0_tell
theorem dX3_told_0 : decode cX3_told 0 = .ok (.aload_n 0, 1) := by decide +kernel
theorem dX3_told_1 : decode cX3_told 1 = .ok (.getfield 18, 3) := by decide +kernel
theorem dX3_told_4 : decode cX3_told 4 = .ok (.ifnull 13, 3) := by decide +kernel
theorem dX3_told_7 : decode cX3_told 7 = .ok (.iload_n 1, 1) := by decide +kernel
theorem dX3_told_8 : decode cX3_told 8 = .ok (.ifCond .lt 9, 3) := by decide +kernel
theorem dX3_told_11 : decode cX3_told 11 = .ok (.iload_n 1, 1) := by decide +kernel
theorem dX3_told_12 : decode cX3_told 12 = .ok (.bipush 15, 2) := by decide +kernel
theorem dX3_told_14 : decode cX3_told 14 = .ok (.if_icmp .le 7, 3) := by decide +kernel
theorem dX3_told_17 : decode cX3_told 17 = .ok (.ldc2_w 49, 3) := by decide +kernel
theorem dX3_told_20 : decode cX3_told 20 = .ok (.lreturn, 1) := by decide +kernel
theorem dX3_told_21 : decode cX3_told 21 = .ok (.iload_n 1, 1) := by decide +kernel
theorem dX3_told_22 : decode cX3_told 22 = .ok (.bipush 8, 2) := by decide +kernel
theorem dX3_told_24 : decode cX3_told 24 = .ok (.if_icmp .gt 20, 3) := by decide +kernel
theorem dX3_told_27 : decode cX3_told 27 = .ok (.aload_n 0, 1) := by decide +kernel
theorem dX3_told_28 : decode cX3_told 28 = .ok (.getfield 18, 3) := by decide +kernel
theorem dX3_told_31 : decode cX3_told 31 = .ok (.getfield 62, 3) := by decide +kernel
theorem dX3_told_34 : decode cX3_told 34 = .ok (.iconst 4, 1) := by decide +kernel
theorem dX3_told_35 : decode cX3_told 35 = .ok (.iconst 4, 1) := by decide +kernel
theorem dX3_told_36 : decode cX3_told 36 = .ok (.iload_n 1, 1) := by decide +kernel
theorem dX3_told_37 : decode cX3_told 37 = .ok (.imul, 1) := by decide +kernel
theorem dX3_told_38 : decode cX3_told 38 = .ok (.invokevirtual 66, 3) := by decide +kernel
theorem dX3_told_41 : decode cX3_told 41 = .ok (.goto 11, 3) := by decide +kernel
theorem dX3_told_44 : decode cX3_told 44 = .ok (.aload_n 0, 1) := by decide +kernel
theorem dX3_told_45 : decode cX3_told 45 = .ok (.getfield 18, 3) := by decide +kernel
theorem dX3_told_48 : decode cX3_told 48 = .ok (.iload_n 1, 1) := by decide +kernel
theorem dX3_told_49 : decode cX3_told 49 = .ok (.invokevirtual 72, 3) := by decide +kernel
theorem dX3_told_52 : decode cX3_told 52 = .ok (.lreturn, 1) := by decide +kernel
set_option maxRecDepth 20000 in
theorem ggX3_read_X3_isWidth : GoodIn wsX3_read wsX3_isWidth := goodIn_r _ [6] (by decide +kernel) (by decide +kernel)
set_option maxRecDepth 20000 in
theorem gX3_read_X3_isWidth : GoodIn wsX3_read (va_wsS RX3 76 yX3_isWidth wsX3_isWidth) := goodIn_app (goodIn_of _ (by decide +kernel)) ggX3_read_X3_isWidth
set_option maxRecDepth 20000 in
theorem ggX3_read_X1_holds : GoodIn wsX3_read wsX1_holds := goodIn_r _ [10, 11, 38, 39, 40, 41, 42, 43] (by decide +kernel) (by decide +kernel)
set_option maxRecDepth 20000 in
theorem gX3_read_X1_holds_n82 : GoodIn wsX3_read (wsX1_holds) := ggX3_read_X1_holds
set_option maxRecDepth 20000 in
theorem ggX3_read_X0_noteFault : GoodIn wsX3_read wsX0_noteFault := goodIn_r _ [15, 16, 17, 28, 29, 30, 31, 32, 33, 34, 35, 36, 37] (by decide +kernel) (by decide +kernel)
set_option maxRecDepth 20000 in
theorem gX3_read_X0_noteFault_n86 : GoodIn wsX3_read (wsX0_noteFault) := ggX3_read_X0_noteFault
set_option maxRecDepth 20000 in
theorem ggX3_read_X1_valueAt : GoodIn wsX3_read wsX1_valueAt := goodIn_r _ [20, 21, 22, 23, 8, 24, 11, 25, 38, 39, 40, 41, 42, 43] (by decide +kernel) (by decide +kernel)
set_option maxRecDepth 20000 in
theorem gX3_read_X1_valueAt_n66 : GoodIn wsX3_read (wsX1_valueAt) := ggX3_read_X1_valueAt
theorem dX3_read_0 : decode cX3_read 0 = .ok (.aload_n 0, 1) := by decide +kernel
theorem dX3_read_1 : decode cX3_read 1 = .ok (.getfield 18, 3) := by decide +kernel
theorem dX3_read_4 : decode cX3_read 4 = .ok (.ifnull 10, 3) := by decide +kernel
theorem dX3_read_7 : decode cX3_read 7 = .ok (.iload_n 1, 1) := by decide +kernel
theorem dX3_read_8 : decode cX3_read 8 = .ok (.invokestatic 76, 3) := by decide +kernel
theorem dX3_read_11 : decode cX3_read 11 = .ok (.ifCond .ne 7, 3) := by decide +kernel
theorem dX3_read_14 : decode cX3_read 14 = .ok (.ldc2_w 49, 3) := by decide +kernel
theorem dX3_read_17 : decode cX3_read 17 = .ok (.lreturn, 1) := by decide +kernel
theorem dX3_read_18 : decode cX3_read 18 = .ok (.aload_n 0, 1) := by decide +kernel
theorem dX3_read_19 : decode cX3_read 19 = .ok (.getfield 18, 3) := by decide +kernel
theorem dX3_read_22 : decode cX3_read 22 = .ok (.getfield 79, 3) := by decide +kernel
theorem dX3_read_25 : decode cX3_read 25 = .ok (.iload_n 2, 1) := by decide +kernel
theorem dX3_read_26 : decode cX3_read 26 = .ok (.iload_n 1, 1) := by decide +kernel
theorem dX3_read_27 : decode cX3_read 27 = .ok (.invokevirtual 82, 3) := by decide +kernel
theorem dX3_read_30 : decode cX3_read 30 = .ok (.ifCond .ne 16, 3) := by decide +kernel
theorem dX3_read_33 : decode cX3_read 33 = .ok (.aload_n 0, 1) := by decide +kernel
theorem dX3_read_34 : decode cX3_read 34 = .ok (.getfield 18, 3) := by decide +kernel
theorem dX3_read_37 : decode cX3_read 37 = .ok (.iconst 1, 1) := by decide +kernel
theorem dX3_read_38 : decode cX3_read 38 = .ok (.iload_n 2, 1) := by decide +kernel
theorem dX3_read_39 : decode cX3_read 39 = .ok (.invokevirtual 86, 3) := by decide +kernel
theorem dX3_read_42 : decode cX3_read 42 = .ok (.ldc2_w 49, 3) := by decide +kernel
theorem dX3_read_45 : decode cX3_read 45 = .ok (.lreturn, 1) := by decide +kernel
theorem dX3_read_46 : decode cX3_read 46 = .ok (.aload_n 0, 1) := by decide +kernel
theorem dX3_read_47 : decode cX3_read 47 = .ok (.getfield 18, 3) := by decide +kernel
theorem dX3_read_50 : decode cX3_read 50 = .ok (.getfield 79, 3) := by decide +kernel
theorem dX3_read_53 : decode cX3_read 53 = .ok (.iload_n 1, 1) := by decide +kernel
theorem dX3_read_54 : decode cX3_read 54 = .ok (.iload_n 2, 1) := by decide +kernel
theorem dX3_read_55 : decode cX3_read 55 = .ok (.invokevirtual 66, 3) := by decide +kernel
theorem dX3_read_58 : decode cX3_read 58 = .ok (.lreturn, 1) := by decide +kernel
set_option maxRecDepth 20000 in
theorem ggX3_write_X3_isWidth : GoodIn wsX3_write wsX3_isWidth := goodIn_r _ [5] (by decide +kernel) (by decide +kernel)
set_option maxRecDepth 20000 in
theorem gX3_write_X3_isWidth : GoodIn wsX3_write (va_wsS RX3 76 yX3_isWidth wsX3_isWidth) := goodIn_app (goodIn_of _ (by decide +kernel)) ggX3_write_X3_isWidth
set_option maxRecDepth 20000 in
theorem ggX3_write_X0_writeFault : GoodIn wsX3_write wsX0_writeFault := goodIn_r _ [9, 10, 11, 12, 13, 14, 15, 16, 17, 18, 19, 20, 21, 22, 23, 24, 39, 40, 41, 42, 43, 44, 45, 46, 47, 48, 49, 50, 51, 52, 53, 54] (by decide +kernel) (by decide +kernel)
set_option maxRecDepth 20000 in
theorem gX3_write_X0_writeFault_n89 : GoodIn wsX3_write (wsX0_writeFault) := ggX3_write_X0_writeFault
set_option maxRecDepth 20000 in
theorem ggX3_write_X0_noteFault : GoodIn wsX3_write wsX0_noteFault := goodIn_r _ [27, 28, 29, 39, 40, 41, 42, 43, 44, 45, 46, 47, 48] (by decide +kernel) (by decide +kernel)
set_option maxRecDepth 20000 in
theorem gX3_write_X0_noteFault_n86 : GoodIn wsX3_write (wsX0_noteFault) := ggX3_write_X0_noteFault
set_option maxRecDepth 20000 in
theorem ggX3_write_X1_putValue : GoodIn wsX3_write wsX1_putValue := goodIn_r _ [32, 33, 34, 35, 13, 36, 20, 21, 49, 50, 51, 52, 53, 54] (by decide +kernel) (by decide +kernel)
set_option maxRecDepth 20000 in
theorem gX3_write_X1_putValue_n93 : GoodIn wsX3_write (wsX1_putValue) := ggX3_write_X1_putValue
theorem dX3_write_0 : decode cX3_write 0 = .ok (.aload_n 0, 1) := by decide +kernel
theorem dX3_write_1 : decode cX3_write 1 = .ok (.getfield 18, 3) := by decide +kernel
theorem dX3_write_4 : decode cX3_write 4 = .ok (.ifnonnull 6, 3) := by decide +kernel
theorem dX3_write_7 : decode cX3_write 7 = .ok (.bipush (-3), 2) := by decide +kernel
theorem dX3_write_9 : decode cX3_write 9 = .ok (.ireturn, 1) := by decide +kernel
theorem dX3_write_10 : decode cX3_write 10 = .ok (.iload_n 1, 1) := by decide +kernel
theorem dX3_write_11 : decode cX3_write 11 = .ok (.invokestatic 76, 3) := by decide +kernel
theorem dX3_write_14 : decode cX3_write 14 = .ok (.ifCond .ne 6, 3) := by decide +kernel
theorem dX3_write_17 : decode cX3_write 17 = .ok (.bipush (-2), 2) := by decide +kernel
theorem dX3_write_19 : decode cX3_write 19 = .ok (.ireturn, 1) := by decide +kernel
theorem dX3_write_20 : decode cX3_write 20 = .ok (.aload_n 0, 1) := by decide +kernel
theorem dX3_write_21 : decode cX3_write 21 = .ok (.getfield 18, 3) := by decide +kernel
theorem dX3_write_24 : decode cX3_write 24 = .ok (.iload_n 1, 1) := by decide +kernel
theorem dX3_write_25 : decode cX3_write 25 = .ok (.iload_n 2, 1) := by decide +kernel
theorem dX3_write_26 : decode cX3_write 26 = .ok (.invokevirtual 89, 3) := by decide +kernel
theorem dX3_write_29 : decode cX3_write 29 = .ok (.istore 4, 2) := by decide +kernel
theorem dX3_write_31 : decode cX3_write 31 = .ok (.iload 4, 2) := by decide +kernel
theorem dX3_write_33 : decode cX3_write 33 = .ok (.ifCond .eq 16, 3) := by decide +kernel
theorem dX3_write_36 : decode cX3_write 36 = .ok (.aload_n 0, 1) := by decide +kernel
theorem dX3_write_37 : decode cX3_write 37 = .ok (.getfield 18, 3) := by decide +kernel
theorem dX3_write_40 : decode cX3_write 40 = .ok (.iload 4, 2) := by decide +kernel
theorem dX3_write_42 : decode cX3_write 42 = .ok (.iload_n 2, 1) := by decide +kernel
theorem dX3_write_43 : decode cX3_write 43 = .ok (.invokevirtual 86, 3) := by decide +kernel
theorem dX3_write_46 : decode cX3_write 46 = .ok (.bipush (-3), 2) := by decide +kernel
theorem dX3_write_48 : decode cX3_write 48 = .ok (.ireturn, 1) := by decide +kernel
theorem dX3_write_49 : decode cX3_write 49 = .ok (.aload_n 0, 1) := by decide +kernel
theorem dX3_write_50 : decode cX3_write 50 = .ok (.getfield 18, 3) := by decide +kernel
theorem dX3_write_53 : decode cX3_write 53 = .ok (.getfield 79, 3) := by decide +kernel
theorem dX3_write_56 : decode cX3_write 56 = .ok (.iload_n 1, 1) := by decide +kernel
theorem dX3_write_57 : decode cX3_write 57 = .ok (.iload_n 2, 1) := by decide +kernel
theorem dX3_write_58 : decode cX3_write 58 = .ok (.iload_n 3, 1) := by decide +kernel
theorem dX3_write_59 : decode cX3_write 59 = .ok (.invokevirtual 93, 3) := by decide +kernel
theorem dX3_write_62 : decode cX3_write 62 = .ok (.iconst 1, 1) := by decide +kernel
theorem dX3_write_63 : decode cX3_write 63 = .ok (.ireturn, 1) := by decide +kernel
set_option maxRecDepth 20000 in
theorem ggX3_resize_X1_setSize : GoodIn wsX3_resize wsX1_setSize := goodIn_r _ [5, 6, 7, 20, 21, 22, 23, 24, 25] (by decide +kernel) (by decide +kernel)
set_option maxRecDepth 20000 in
theorem gX3_resize_X1_setSize_n103 : GoodIn wsX3_resize (wsX1_setSize) := ggX3_resize_X1_setSize
theorem dX3_resize_0 : decode cX3_resize 0 = .ok (.aload_n 0, 1) := by decide +kernel
theorem dX3_resize_1 : decode cX3_resize 1 = .ok (.getfield 18, 3) := by decide +kernel
theorem dX3_resize_4 : decode cX3_resize 4 = .ok (.ifnonnull 6, 3) := by decide +kernel
theorem dX3_resize_7 : decode cX3_resize 7 = .ok (.bipush (-3), 2) := by decide +kernel
theorem dX3_resize_9 : decode cX3_resize 9 = .ok (.ireturn, 1) := by decide +kernel
theorem dX3_resize_10 : decode cX3_resize 10 = .ok (.iload_n 1, 1) := by decide +kernel
theorem dX3_resize_11 : decode cX3_resize 11 = .ok (.sipush 256, 3) := by decide +kernel
theorem dX3_resize_14 : decode cX3_resize 14 = .ok (.irem, 1) := by decide +kernel
theorem dX3_resize_15 : decode cX3_resize 15 = .ok (.ifCond .ne 37, 3) := by decide +kernel
theorem dX3_resize_18 : decode cX3_resize 18 = .ok (.iload_n 1, 1) := by decide +kernel
theorem dX3_resize_19 : decode cX3_resize 19 = .ok (.aload_n 0, 1) := by decide +kernel
theorem dX3_resize_20 : decode cX3_resize 20 = .ok (.getfield 18, 3) := by decide +kernel
theorem dX3_resize_23 : decode cX3_resize 23 = .ok (.getfield 62, 3) := by decide +kernel
theorem dX3_resize_26 : decode cX3_resize 26 = .ok (.getfield 97, 3) := by decide +kernel
theorem dX3_resize_29 : decode cX3_resize 29 = .ok (.if_icmp .lt 23, 3) := by decide +kernel
theorem dX3_resize_32 : decode cX3_resize 32 = .ok (.iload_n 1, 1) := by decide +kernel
theorem dX3_resize_33 : decode cX3_resize 33 = .ok (.sipush 4096, 3) := by decide +kernel
theorem dX3_resize_36 : decode cX3_resize 36 = .ok (.if_icmp .gt 16, 3) := by decide +kernel
theorem dX3_resize_39 : decode cX3_resize 39 = .ok (.aload_n 0, 1) := by decide +kernel
theorem dX3_resize_40 : decode cX3_resize 40 = .ok (.getfield 18, 3) := by decide +kernel
theorem dX3_resize_43 : decode cX3_resize 43 = .ok (.getfield 79, 3) := by decide +kernel
theorem dX3_resize_46 : decode cX3_resize 46 = .ok (.getfield 100, 3) := by decide +kernel
theorem dX3_resize_49 : decode cX3_resize 49 = .ok (.ifCond .le 5, 3) := by decide +kernel
theorem dX3_resize_52 : decode cX3_resize 52 = .ok (.iconst 1, 1) := by decide +kernel
theorem dX3_resize_53 : decode cX3_resize 53 = .ok (.ireturn, 1) := by decide +kernel
theorem dX3_resize_54 : decode cX3_resize 54 = .ok (.aload_n 0, 1) := by decide +kernel
theorem dX3_resize_55 : decode cX3_resize 55 = .ok (.getfield 18, 3) := by decide +kernel
theorem dX3_resize_58 : decode cX3_resize 58 = .ok (.getfield 79, 3) := by decide +kernel
theorem dX3_resize_61 : decode cX3_resize 61 = .ok (.iload_n 1, 1) := by decide +kernel
theorem dX3_resize_62 : decode cX3_resize 62 = .ok (.invokevirtual 103, 3) := by decide +kernel
theorem dX3_resize_65 : decode cX3_resize 65 = .ok (.iconst 0, 1) := by decide +kernel
theorem dX3_resize_66 : decode cX3_resize 66 = .ok (.ireturn, 1) := by decide +kernel
set_option maxRecDepth 20000 in
theorem ggX3_block_X1_addBlock : GoodIn wsX3_block wsX1_addBlock := goodIn_r _ [5, 6, 7, 8, 9, 10, 11, 12, 13, 14, 15, 3, 16, 17, 18, 19, 20, 21, 22, 23, 24, 25, 26, 27, 28, 29, 30, 31, 32, 33, 34, 47, 48, 49, 50, 51, 52] (by decide +kernel) (by decide +kernel)
set_option maxRecDepth 20000 in
theorem gX3_block_X1_addBlock_n106 : GoodIn wsX3_block (wsX1_addBlock) := ggX3_block_X1_addBlock
theorem dX3_block_0 : decode cX3_block 0 = .ok (.aload_n 0, 1) := by decide +kernel
theorem dX3_block_1 : decode cX3_block 1 = .ok (.getfield 18, 3) := by decide +kernel
theorem dX3_block_4 : decode cX3_block 4 = .ok (.ifnonnull 6, 3) := by decide +kernel
theorem dX3_block_7 : decode cX3_block 7 = .ok (.bipush (-3), 2) := by decide +kernel
theorem dX3_block_9 : decode cX3_block 9 = .ok (.ireturn, 1) := by decide +kernel
theorem dX3_block_10 : decode cX3_block 10 = .ok (.iload_n 1, 1) := by decide +kernel
theorem dX3_block_11 : decode cX3_block 11 = .ok (.iconst 1, 1) := by decide +kernel
theorem dX3_block_12 : decode cX3_block 12 = .ok (.if_icmp .ge 8, 3) := by decide +kernel
theorem dX3_block_15 : decode cX3_block 15 = .ok (.bipush (-2), 2) := by decide +kernel
theorem dX3_block_17 : decode cX3_block 17 = .ok (.goto 14, 3) := by decide +kernel
theorem dX3_block_20 : decode cX3_block 20 = .ok (.aload_n 0, 1) := by decide +kernel
theorem dX3_block_21 : decode cX3_block 21 = .ok (.getfield 18, 3) := by decide +kernel
theorem dX3_block_24 : decode cX3_block 24 = .ok (.getfield 79, 3) := by decide +kernel
theorem dX3_block_27 : decode cX3_block 27 = .ok (.iload_n 1, 1) := by decide +kernel
theorem dX3_block_28 : decode cX3_block 28 = .ok (.invokevirtual 106, 3) := by decide +kernel
theorem dX3_block_31 : decode cX3_block 31 = .ok (.ireturn, 1) := by decide +kernel
set_option maxRecDepth 20000 in
theorem ggX3_free_X1_blockIndexAt : GoodIn wsX3_free wsX1_blockIndexAt := goodIn_r _ [5, 6, 7, 31, 32, 33, 34, 35, 36] (by decide +kernel) (by decide +kernel)
set_option maxRecDepth 20000 in
theorem gX3_free_X1_blockIndexAt_n110 : GoodIn wsX3_free (wsX1_blockIndexAt) := ggX3_free_X1_blockIndexAt
set_option maxRecDepth 20000 in
theorem ggX3_free_X1_removeBlock : GoodIn wsX3_free wsX1_removeBlock := goodIn_r _ [10, 11, 6, 7, 12, 13, 14, 15, 3, 16, 17, 18, 31, 32, 33, 34, 35, 36] (by decide +kernel) (by decide +kernel)
set_option maxRecDepth 20000 in
theorem gX3_free_X1_removeBlock_n113 : GoodIn wsX3_free (wsX1_removeBlock) := ggX3_free_X1_removeBlock
theorem dX3_free_0 : decode cX3_free 0 = .ok (.aload_n 0, 1) := by decide +kernel
theorem dX3_free_1 : decode cX3_free 1 = .ok (.getfield 18, 3) := by decide +kernel
theorem dX3_free_4 : decode cX3_free 4 = .ok (.ifnonnull 6, 3) := by decide +kernel
theorem dX3_free_7 : decode cX3_free 7 = .ok (.bipush (-3), 2) := by decide +kernel
theorem dX3_free_9 : decode cX3_free 9 = .ok (.ireturn, 1) := by decide +kernel
theorem dX3_free_10 : decode cX3_free 10 = .ok (.aload_n 0, 1) := by decide +kernel
theorem dX3_free_11 : decode cX3_free 11 = .ok (.getfield 18, 3) := by decide +kernel
theorem dX3_free_14 : decode cX3_free 14 = .ok (.getfield 79, 3) := by decide +kernel
theorem dX3_free_17 : decode cX3_free 17 = .ok (.iload_n 1, 1) := by decide +kernel
theorem dX3_free_18 : decode cX3_free 18 = .ok (.invokevirtual 110, 3) := by decide +kernel
theorem dX3_free_21 : decode cX3_free 21 = .ok (.istore_n 2, 1) := by decide +kernel
theorem dX3_free_22 : decode cX3_free 22 = .ok (.iload_n 2, 1) := by decide +kernel
theorem dX3_free_23 : decode cX3_free 23 = .ok (.ifCond .ge 7, 3) := by decide +kernel
theorem dX3_free_26 : decode cX3_free 26 = .ok (.iconst (-1), 1) := by decide +kernel
theorem dX3_free_27 : decode cX3_free 27 = .ok (.goto 14, 3) := by decide +kernel
theorem dX3_free_30 : decode cX3_free 30 = .ok (.aload_n 0, 1) := by decide +kernel
theorem dX3_free_31 : decode cX3_free 31 = .ok (.getfield 18, 3) := by decide +kernel
theorem dX3_free_34 : decode cX3_free 34 = .ok (.getfield 79, 3) := by decide +kernel
theorem dX3_free_37 : decode cX3_free 37 = .ok (.iload_n 2, 1) := by decide +kernel
theorem dX3_free_38 : decode cX3_free 38 = .ok (.invokevirtual 113, 3) := by decide +kernel
theorem dX3_free_41 : decode cX3_free 41 = .ok (.ireturn, 1) := by decide +kernel
theorem dX3_protect_0 : decode cX3_protect 0 = .ok (.aload_n 0, 1) := by decide +kernel
theorem dX3_protect_1 : decode cX3_protect 1 = .ok (.getfield 18, 3) := by decide +kernel
theorem dX3_protect_4 : decode cX3_protect 4 = .ok (.ifnonnull 6, 3) := by decide +kernel
theorem dX3_protect_7 : decode cX3_protect 7 = .ok (.bipush (-3), 2) := by decide +kernel
theorem dX3_protect_9 : decode cX3_protect 9 = .ok (.ireturn, 1) := by decide +kernel
theorem dX3_protect_10 : decode cX3_protect 10 = .ok (.iload_n 1, 1) := by decide +kernel
theorem dX3_protect_11 : decode cX3_protect 11 = .ok (.ifCond .lt 21, 3) := by decide +kernel
theorem dX3_protect_14 : decode cX3_protect 14 = .ok (.iload_n 1, 1) := by decide +kernel
theorem dX3_protect_15 : decode cX3_protect 15 = .ok (.sipush 8192, 3) := by decide +kernel
theorem dX3_protect_18 : decode cX3_protect 18 = .ok (.if_icmp .gt 14, 3) := by decide +kernel
theorem dX3_protect_21 : decode cX3_protect 21 = .ok (.iload_n 2, 1) := by decide +kernel
theorem dX3_protect_22 : decode cX3_protect 22 = .ok (.ifCond .lt 10, 3) := by decide +kernel
theorem dX3_protect_25 : decode cX3_protect 25 = .ok (.iload_n 2, 1) := by decide +kernel
theorem dX3_protect_26 : decode cX3_protect 26 = .ok (.sipush 8192, 3) := by decide +kernel
theorem dX3_protect_29 : decode cX3_protect 29 = .ok (.if_icmp .le 6, 3) := by decide +kernel
theorem dX3_protect_32 : decode cX3_protect 32 = .ok (.bipush (-2), 2) := by decide +kernel
theorem dX3_protect_34 : decode cX3_protect 34 = .ok (.ireturn, 1) := by decide +kernel
theorem dX3_protect_35 : decode cX3_protect 35 = .ok (.aload_n 0, 1) := by decide +kernel
theorem dX3_protect_36 : decode cX3_protect 36 = .ok (.getfield 18, 3) := by decide +kernel
theorem dX3_protect_39 : decode cX3_protect 39 = .ok (.iload_n 1, 1) := by decide +kernel
theorem dX3_protect_40 : decode cX3_protect 40 = .ok (.putfield 116, 3) := by decide +kernel
theorem dX3_protect_43 : decode cX3_protect 43 = .ok (.aload_n 0, 1) := by decide +kernel
theorem dX3_protect_44 : decode cX3_protect 44 = .ok (.getfield 18, 3) := by decide +kernel
theorem dX3_protect_47 : decode cX3_protect 47 = .ok (.iload_n 1, 1) := by decide +kernel
theorem dX3_protect_48 : decode cX3_protect 48 = .ok (.iload_n 2, 1) := by decide +kernel
theorem dX3_protect_49 : decode cX3_protect 49 = .ok (.iadd, 1) := by decide +kernel
theorem dX3_protect_50 : decode cX3_protect 50 = .ok (.putfield 119, 3) := by decide +kernel
theorem dX3_protect_53 : decode cX3_protect 53 = .ok (.iconst 1, 1) := by decide +kernel
theorem dX3_protect_54 : decode cX3_protect 54 = .ok (.ireturn, 1) := by decide +kernel
set_option maxRecDepth 20000 in
theorem ggX3_restart_X0_goBackTo : GoodIn wsX3_restart wsX0_goBackTo := goodIn_r _ [5, 6, 7, 8, 9, 10, 11, 12, 13, 14, 15, 16, 17, 18, 19, 20, 21, 22, 23, 24, 25, 26, 27, 28, 29, 32, 33, 34, 35, 36, 37, 38, 39, 40, 41, 42, 43, 44, 45, 46, 47] (by decide +kernel) (by decide +kernel)
set_option maxRecDepth 20000 in
theorem gX3_restart_X0_goBackTo_n122 : GoodIn wsX3_restart (wsX0_goBackTo) := ggX3_restart_X0_goBackTo
theorem dX3_restart_0 : decode cX3_restart 0 = .ok (.aload_n 0, 1) := by decide +kernel
theorem dX3_restart_1 : decode cX3_restart 1 = .ok (.getfield 18, 3) := by decide +kernel
theorem dX3_restart_4 : decode cX3_restart 4 = .ok (.ifnonnull 6, 3) := by decide +kernel
theorem dX3_restart_7 : decode cX3_restart 7 = .ok (.bipush (-3), 2) := by decide +kernel
theorem dX3_restart_9 : decode cX3_restart 9 = .ok (.ireturn, 1) := by decide +kernel
theorem dX3_restart_10 : decode cX3_restart 10 = .ok (.aload_n 0, 1) := by decide +kernel
theorem dX3_restart_11 : decode cX3_restart 11 = .ok (.getfield 18, 3) := by decide +kernel
theorem dX3_restart_14 : decode cX3_restart 14 = .ok (.aload_n 0, 1) := by decide +kernel
theorem dX3_restart_15 : decode cX3_restart 15 = .ok (.getfield 18, 3) := by decide +kernel
theorem dX3_restart_18 : decode cX3_restart 18 = .ok (.getfield 62, 3) := by decide +kernel
theorem dX3_restart_21 : decode cX3_restart 21 = .ok (.invokevirtual 122, 3) := by decide +kernel
theorem dX3_restart_24 : decode cX3_restart 24 = .ok (.aload_n 0, 1) := by decide +kernel
theorem dX3_restart_25 : decode cX3_restart 25 = .ok (.getfield 18, 3) := by decide +kernel
theorem dX3_restart_28 : decode cX3_restart 28 = .ok (.getfield 79, 3) := by decide +kernel
theorem dX3_restart_31 : decode cX3_restart 31 = .ok (.getfield 97, 3) := by decide +kernel
theorem dX3_restart_34 : decode cX3_restart 34 = .ok (.ireturn, 1) := by decide +kernel
set_option maxRecDepth 20000 in
theorem ggX3_save_X0_keepState : GoodIn wsX3_save wsX0_keepState := goodIn_r _ [5, 6, 7, 8, 9, 10, 11, 12, 13, 14, 15, 3, 16, 17, 18, 19, 20, 21, 22, 23, 24, 25, 26, 27, 28, 29, 30, 31, 32, 33, 34, 35, 36, 37, 38, 39, 42, 43, 44, 45, 46, 47, 48, 49, 50, 51, 52, 53, 54, 55, 56, 57] (by decide +kernel) (by decide +kernel)
set_option maxRecDepth 20000 in
theorem gX3_save_X0_keepState_n126 : GoodIn wsX3_save (wsX0_keepState) := ggX3_save_X0_keepState
theorem dX3_save_0 : decode cX3_save 0 = .ok (.aload_n 0, 1) := by decide +kernel
theorem dX3_save_1 : decode cX3_save 1 = .ok (.getfield 18, 3) := by decide +kernel
theorem dX3_save_4 : decode cX3_save 4 = .ok (.ifnonnull 6, 3) := by decide +kernel
theorem dX3_save_7 : decode cX3_save 7 = .ok (.bipush (-3), 2) := by decide +kernel
theorem dX3_save_9 : decode cX3_save 9 = .ok (.ireturn, 1) := by decide +kernel
theorem dX3_save_10 : decode cX3_save 10 = .ok (.aload_n 0, 1) := by decide +kernel
theorem dX3_save_11 : decode cX3_save 11 = .ok (.getfield 18, 3) := by decide +kernel
theorem dX3_save_14 : decode cX3_save 14 = .ok (.invokevirtual 126, 3) := by decide +kernel
theorem dX3_save_17 : decode cX3_save 17 = .ok (.aload_n 0, 1) := by decide +kernel
theorem dX3_save_18 : decode cX3_save 18 = .ok (.getfield 18, 3) := by decide +kernel
theorem dX3_save_21 : decode cX3_save 21 = .ok (.getfield 129, 3) := by decide +kernel
theorem dX3_save_24 : decode cX3_save 24 = .ok (.ireturn, 1) := by decide +kernel
set_option maxRecDepth 20000 in
theorem ggX3_restore_X0_takeStateBack : GoodIn wsX3_restore wsX0_takeStateBack := goodIn_r _ [5, 6, 7, 8, 9, 10, 3, 11, 12, 13, 14, 15, 16, 17, 18, 19, 20, 21, 22, 23, 24, 25, 26, 27, 28, 29, 30, 31, 32, 33, 34, 35, 36, 37, 38, 39, 40, 43, 44, 45, 46, 47, 48, 49, 50, 51, 52, 53, 54, 55, 56, 57, 58] (by decide +kernel) (by decide +kernel)
set_option maxRecDepth 20000 in
theorem gX3_restore_X0_takeStateBack_n132 : GoodIn wsX3_restore (wsX0_takeStateBack) := ggX3_restore_X0_takeStateBack
theorem dX3_restore_0 : decode cX3_restore 0 = .ok (.aload_n 0, 1) := by decide +kernel
theorem dX3_restore_1 : decode cX3_restore 1 = .ok (.getfield 18, 3) := by decide +kernel
theorem dX3_restore_4 : decode cX3_restore 4 = .ok (.ifnull 13, 3) := by decide +kernel
theorem dX3_restore_7 : decode cX3_restore 7 = .ok (.aload_n 0, 1) := by decide +kernel
theorem dX3_restore_8 : decode cX3_restore 8 = .ok (.getfield 18, 3) := by decide +kernel
theorem dX3_restore_11 : decode cX3_restore 11 = .ok (.getfield 129, 3) := by decide +kernel
theorem dX3_restore_14 : decode cX3_restore 14 = .ok (.ifCond .ne 6, 3) := by decide +kernel
theorem dX3_restore_17 : decode cX3_restore 17 = .ok (.bipush (-3), 2) := by decide +kernel
theorem dX3_restore_19 : decode cX3_restore 19 = .ok (.ireturn, 1) := by decide +kernel
theorem dX3_restore_20 : decode cX3_restore 20 = .ok (.aload_n 0, 1) := by decide +kernel
theorem dX3_restore_21 : decode cX3_restore 21 = .ok (.getfield 18, 3) := by decide +kernel
theorem dX3_restore_24 : decode cX3_restore 24 = .ok (.invokevirtual 132, 3) := by decide +kernel
theorem dX3_restore_27 : decode cX3_restore 27 = .ok (.aload_n 0, 1) := by decide +kernel
theorem dX3_restore_28 : decode cX3_restore 28 = .ok (.getfield 18, 3) := by decide +kernel
theorem dX3_restore_31 : decode cX3_restore 31 = .ok (.getfield 79, 3) := by decide +kernel
theorem dX3_restore_34 : decode cX3_restore 34 = .ok (.getfield 97, 3) := by decide +kernel
theorem dX3_restore_37 : decode cX3_restore 37 = .ok (.ireturn, 1) := by decide +kernel
set_option maxRecDepth 20000 in
theorem ggX3_changed_X0_differsOnPage : GoodIn wsX3_changed wsX0_differsOnPage := goodIn_r _ [5, 6, 7, 8, 9, 10, 11, 12, 13, 16, 17, 18, 19, 20, 21, 22, 23, 24, 25, 26, 27, 28, 29, 30, 31] (by decide +kernel) (by decide +kernel)
set_option maxRecDepth 20000 in
theorem gX3_changed_X0_differsOnPage_n135 : GoodIn wsX3_changed (wsX0_differsOnPage) := ggX3_changed_X0_differsOnPage
theorem dX3_changed_0 : decode cX3_changed 0 = .ok (.aload_n 0, 1) := by decide +kernel
theorem dX3_changed_1 : decode cX3_changed 1 = .ok (.getfield 18, 3) := by decide +kernel
theorem dX3_changed_4 : decode cX3_changed 4 = .ok (.ifnonnull 6, 3) := by decide +kernel
theorem dX3_changed_7 : decode cX3_changed 7 = .ok (.bipush (-3), 2) := by decide +kernel
theorem dX3_changed_9 : decode cX3_changed 9 = .ok (.ireturn, 1) := by decide +kernel
theorem dX3_changed_10 : decode cX3_changed 10 = .ok (.iload_n 1, 1) := by decide +kernel
theorem dX3_changed_11 : decode cX3_changed 11 = .ok (.ifCond .lt 21, 3) := by decide +kernel
theorem dX3_changed_14 : decode cX3_changed 14 = .ok (.iload_n 1, 1) := by decide +kernel
theorem dX3_changed_15 : decode cX3_changed 15 = .ok (.aload_n 0, 1) := by decide +kernel
theorem dX3_changed_16 : decode cX3_changed 16 = .ok (.getfield 18, 3) := by decide +kernel
theorem dX3_changed_19 : decode cX3_changed 19 = .ok (.getfield 79, 3) := by decide +kernel
theorem dX3_changed_22 : decode cX3_changed 22 = .ok (.getfield 97, 3) := by decide +kernel
theorem dX3_changed_25 : decode cX3_changed 25 = .ok (.sipush 256, 3) := by decide +kernel
theorem dX3_changed_28 : decode cX3_changed 28 = .ok (.idiv, 1) := by decide +kernel
theorem dX3_changed_29 : decode cX3_changed 29 = .ok (.if_icmp .lt 5, 3) := by decide +kernel
theorem dX3_changed_32 : decode cX3_changed 32 = .ok (.iconst (-1), 1) := by decide +kernel
theorem dX3_changed_33 : decode cX3_changed 33 = .ok (.ireturn, 1) := by decide +kernel
theorem dX3_changed_34 : decode cX3_changed 34 = .ok (.aload_n 0, 1) := by decide +kernel
theorem dX3_changed_35 : decode cX3_changed 35 = .ok (.getfield 18, 3) := by decide +kernel
theorem dX3_changed_38 : decode cX3_changed 38 = .ok (.iload_n 1, 1) := by decide +kernel
theorem dX3_changed_39 : decode cX3_changed 39 = .ok (.invokevirtual 135, 3) := by decide +kernel
theorem dX3_changed_42 : decode cX3_changed 42 = .ok (.ifCond .eq 7, 3) := by decide +kernel
theorem dX3_changed_45 : decode cX3_changed 45 = .ok (.iconst 1, 1) := by decide +kernel
theorem dX3_changed_46 : decode cX3_changed 46 = .ok (.goto 4, 3) := by decide +kernel
theorem dX3_changed_49 : decode cX3_changed 49 = .ok (.iconst 0, 1) := by decide +kernel
theorem dX3_changed_50 : decode cX3_changed 50 = .ok (.ireturn, 1) := by decide +kernel
set_option maxRecDepth 20000 in
theorem ggX3_hash_X1_holds : GoodIn wsX3_hash wsX1_holds := goodIn_r _ [5, 6, 23, 24, 25, 26, 27, 28] (by decide +kernel) (by decide +kernel)
set_option maxRecDepth 20000 in
theorem gX3_hash_X1_holds_n82 : GoodIn wsX3_hash (wsX1_holds) := ggX3_hash_X1_holds
set_option maxRecDepth 20000 in
theorem ggX3_hash_X1_byteAt : GoodIn wsX3_hash wsX1_byteAt := goodIn_r _ [9, 6, 10, 23, 24, 25, 26, 27, 28] (by decide +kernel) (by decide +kernel)
set_option maxRecDepth 20000 in
theorem gX3_hash_X1_byteAt_n138 : GoodIn wsX3_hash (wsX1_byteAt) := ggX3_hash_X1_byteAt
theorem dX3_hash_0 : decode cX3_hash 0 = .ok (.aload_n 0, 1) := by decide +kernel
theorem dX3_hash_1 : decode cX3_hash 1 = .ok (.getfield 18, 3) := by decide +kernel
theorem dX3_hash_4 : decode cX3_hash 4 = .ok (.ifnonnull 6, 3) := by decide +kernel
theorem dX3_hash_7 : decode cX3_hash 7 = .ok (.bipush (-3), 2) := by decide +kernel
theorem dX3_hash_9 : decode cX3_hash 9 = .ok (.ireturn, 1) := by decide +kernel
theorem dX3_hash_10 : decode cX3_hash 10 = .ok (.iload_n 2, 1) := by decide +kernel
theorem dX3_hash_11 : decode cX3_hash 11 = .ok (.ifCond .ge 6, 3) := by decide +kernel
theorem dX3_hash_14 : decode cX3_hash 14 = .ok (.bipush (-2), 2) := by decide +kernel
theorem dX3_hash_16 : decode cX3_hash 16 = .ok (.ireturn, 1) := by decide +kernel
theorem dX3_hash_17 : decode cX3_hash 17 = .ok (.aload_n 0, 1) := by decide +kernel
theorem dX3_hash_18 : decode cX3_hash 18 = .ok (.getfield 18, 3) := by decide +kernel
theorem dX3_hash_21 : decode cX3_hash 21 = .ok (.getfield 79, 3) := by decide +kernel
theorem dX3_hash_24 : decode cX3_hash 24 = .ok (.iload_n 1, 1) := by decide +kernel
theorem dX3_hash_25 : decode cX3_hash 25 = .ok (.iload_n 2, 1) := by decide +kernel
theorem dX3_hash_26 : decode cX3_hash 26 = .ok (.invokevirtual 82, 3) := by decide +kernel
theorem dX3_hash_29 : decode cX3_hash 29 = .ok (.ifCond .ne 5, 3) := by decide +kernel
theorem dX3_hash_32 : decode cX3_hash 32 = .ok (.iconst (-1), 1) := by decide +kernel
theorem dX3_hash_33 : decode cX3_hash 33 = .ok (.ireturn, 1) := by decide +kernel
theorem dX3_hash_34 : decode cX3_hash 34 = .ok (.iconst 0, 1) := by decide +kernel
theorem dX3_hash_35 : decode cX3_hash 35 = .ok (.istore_n 3, 1) := by decide +kernel
theorem dX3_hash_36 : decode cX3_hash 36 = .ok (.iconst 0, 1) := by decide +kernel
theorem dX3_hash_37 : decode cX3_hash 37 = .ok (.istore 4, 2) := by decide +kernel
theorem dX3_hash_39 : decode cX3_hash 39 = .ok (.iload 4, 2) := by decide +kernel
theorem dX3_hash_41 : decode cX3_hash 41 = .ok (.iload_n 2, 1) := by decide +kernel
theorem dX3_hash_42 : decode cX3_hash 42 = .ok (.if_icmp .ge 29, 3) := by decide +kernel
theorem dX3_hash_45 : decode cX3_hash 45 = .ok (.bipush 31, 2) := by decide +kernel
theorem dX3_hash_47 : decode cX3_hash 47 = .ok (.iload_n 3, 1) := by decide +kernel
theorem dX3_hash_48 : decode cX3_hash 48 = .ok (.imul, 1) := by decide +kernel
theorem dX3_hash_49 : decode cX3_hash 49 = .ok (.aload_n 0, 1) := by decide +kernel
theorem dX3_hash_50 : decode cX3_hash 50 = .ok (.getfield 18, 3) := by decide +kernel
theorem dX3_hash_53 : decode cX3_hash 53 = .ok (.getfield 79, 3) := by decide +kernel
theorem dX3_hash_56 : decode cX3_hash 56 = .ok (.iload_n 1, 1) := by decide +kernel
theorem dX3_hash_57 : decode cX3_hash 57 = .ok (.iload 4, 2) := by decide +kernel
theorem dX3_hash_59 : decode cX3_hash 59 = .ok (.iadd, 1) := by decide +kernel
theorem dX3_hash_60 : decode cX3_hash 60 = .ok (.invokevirtual 138, 3) := by decide +kernel
theorem dX3_hash_63 : decode cX3_hash 63 = .ok (.iadd, 1) := by decide +kernel
theorem dX3_hash_64 : decode cX3_hash 64 = .ok (.istore_n 3, 1) := by decide +kernel
theorem dX3_hash_65 : decode cX3_hash 65 = .ok (.iinc 4 1, 3) := by decide +kernel
theorem dX3_hash_68 : decode cX3_hash 68 = .ok (.goto (-29), 3) := by decide +kernel
theorem dX3_hash_71 : decode cX3_hash 71 = .ok (.iload_n 3, 1) := by decide +kernel
theorem dX3_hash_72 : decode cX3_hash 72 = .ok (.ireturn, 1) := by decide +kernel
theorem dX3_isWidth_0 : decode cX3_isWidth 0 = .ok (.iload_n 0, 1) := by decide +kernel
theorem dX3_isWidth_1 : decode cX3_isWidth 1 = .ok (.iconst 1, 1) := by decide +kernel
theorem dX3_isWidth_2 : decode cX3_isWidth 2 = .ok (.if_icmp .eq 13, 3) := by decide +kernel
theorem dX3_isWidth_5 : decode cX3_isWidth 5 = .ok (.iload_n 0, 1) := by decide +kernel
theorem dX3_isWidth_6 : decode cX3_isWidth 6 = .ok (.iconst 2, 1) := by decide +kernel
theorem dX3_isWidth_7 : decode cX3_isWidth 7 = .ok (.if_icmp .eq 8, 3) := by decide +kernel
theorem dX3_isWidth_10 : decode cX3_isWidth 10 = .ok (.iload_n 0, 1) := by decide +kernel
theorem dX3_isWidth_11 : decode cX3_isWidth 11 = .ok (.iconst 4, 1) := by decide +kernel
theorem dX3_isWidth_12 : decode cX3_isWidth 12 = .ok (.if_icmp .ne 7, 3) := by decide +kernel
theorem dX3_isWidth_15 : decode cX3_isWidth 15 = .ok (.iconst 1, 1) := by decide +kernel
theorem dX3_isWidth_16 : decode cX3_isWidth 16 = .ok (.goto 4, 3) := by decide +kernel
theorem dX3_isWidth_19 : decode cX3_isWidth 19 = .ok (.iconst 0, 1) := by decide +kernel
theorem dX3_isWidth_20 : decode cX3_isWidth 20 = .ok (.ireturn, 1) := by decide +kernel
