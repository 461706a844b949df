def wsX3_cell : List Cond := .code yX3_cell cX3_cell 2 (some .int) :: ([.classLink RX3 141 "java/lang/IndexOutOfBoundsException", .initialized "java/lang/IndexOutOfBoundsException", .fieldLink RX3 18 "GlulxHeads" "machine" "LGlulxHeads$Machine;", .instanceMethod yX1_holds, .initialized RX1, .selects RX1 yX1_holds yX1_holds, .code yX1_holds cX1_holds 3 (some .boolean), .fieldLink RX1 15 "GlulxHeads$State" "size" "I", .instanceMethod yX1_byteAt, .selects RX1 yX1_byteAt yX1_byteAt, .code yX1_byteAt cX1_byteAt 2 (some .int), .fieldLink RX1 9 "GlulxHeads$State" "bytes" "[B"] ++ wsX30 ++ wsX00 ++ wsX10 ++ (vx_atS RX3 145 "java/lang/IndexOutOfBoundsException" ["java/lang/RuntimeException", "java/lang/Exception"]).filter goodWord)
def wsL_cell : List Cond := .codeWith yL_cell cL_cell 4 (some .int) [(0, 9, 12, 13)] :: ([.classLink RL 13 "java/lang/IndexOutOfBoundsException", .methodLink RL 7 yX3_cell, .instanceMethod yX3_cell, .selects RX3 yX3_cell yX3_cell, .initialized RX3, .code yX3_cell cX3_cell 2 (some .int), .classLink RX3 141 "java/lang/IndexOutOfBoundsException", .initialized "java/lang/IndexOutOfBoundsException", .fieldLink RX3 18 "GlulxHeads" "machine" "LGlulxHeads$Machine;", .instanceMethod yX1_holds, .initialized RX1, .selects RX1 yX1_holds yX1_holds, .code yX1_holds cX1_holds 3 (some .boolean), .fieldLink RX1 15 "GlulxHeads$State" "size" "I", .instanceMethod yX1_byteAt, .selects RX1 yX1_byteAt yX1_byteAt, .code yX1_byteAt cX1_byteAt 2 (some .int), .fieldLink RX1 9 "GlulxHeads$State" "bytes" "[B"] ++ wsX30 ++ wsX00 ++ wsX10 ++ (vx_atS RX3 145 "java/lang/IndexOutOfBoundsException" ["java/lang/RuntimeException", "java/lang/Exception"]).filter goodWord)
set_option maxRecDepth 20000 in
theorem ggX3_cell_X1_holds : GoodIn wsX3_cell wsX1_holds := goodIn_r _ [7, 8, 25, 26, 27, 28, 29, 30] (by decide +kernel) (by decide +kernel)
set_option maxRecDepth 20000 in
theorem gX3_cell_X1_holds_n82 : GoodIn wsX3_cell (wsX1_holds) := ggX3_cell_X1_holds
set_option maxRecDepth 20000 in
theorem ggX3_cell_X1_byteAt : GoodIn wsX3_cell wsX1_byteAt := goodIn_r _ [11, 8, 12, 25, 26, 27, 28, 29, 30] (by decide +kernel) (by decide +kernel)
set_option maxRecDepth 20000 in
theorem gX3_cell_X1_byteAt_n138 : GoodIn wsX3_cell (wsX1_byteAt) := ggX3_cell_X1_byteAt
theorem dX3_cell_0 : decode cX3_cell 0 = .ok (.aload_n 0, 1) := by decide +kernel
theorem dX3_cell_1 : decode cX3_cell 1 = .ok (.getfield 18, 3) := by decide +kernel
theorem dX3_cell_4 : decode cX3_cell 4 = .ok (.ifnonnull 6, 3) := by decide +kernel
theorem dX3_cell_7 : decode cX3_cell 7 = .ok (.bipush (-3), 2) := by decide +kernel
theorem dX3_cell_9 : decode cX3_cell 9 = .ok (.ireturn, 1) := by decide +kernel
theorem dX3_cell_10 : decode cX3_cell 10 = .ok (.aload_n 0, 1) := by decide +kernel
theorem dX3_cell_11 : decode cX3_cell 11 = .ok (.getfield 18, 3) := by decide +kernel
theorem dX3_cell_14 : decode cX3_cell 14 = .ok (.getfield 79, 3) := by decide +kernel
theorem dX3_cell_17 : decode cX3_cell 17 = .ok (.iload_n 1, 1) := by decide +kernel
theorem dX3_cell_18 : decode cX3_cell 18 = .ok (.iconst 1, 1) := by decide +kernel
theorem dX3_cell_19 : decode cX3_cell 19 = .ok (.invokevirtual 82, 3) := by decide +kernel
theorem dX3_cell_22 : decode cX3_cell 22 = .ok (.ifCond .ne 13, 3) := by decide +kernel
theorem dX3_cell_25 : decode cX3_cell 25 = .ok (.new 141, 3) := by decide +kernel
theorem dX3_cell_28 : decode cX3_cell 28 = .ok (.dup, 1) := by decide +kernel
theorem dX3_cell_29 : decode cX3_cell 29 = .ok (.ldc 143, 2) := by decide +kernel
theorem dX3_cell_31 : decode cX3_cell 31 = .ok (.invokespecial 145, 3) := by decide +kernel
theorem dX3_cell_34 : decode cX3_cell 34 = .ok (.athrow, 1) := by decide +kernel
theorem dX3_cell_35 : decode cX3_cell 35 = .ok (.aload_n 0, 1) := by decide +kernel
theorem dX3_cell_36 : decode cX3_cell 36 = .ok (.getfield 18, 3) := by decide +kernel
theorem dX3_cell_39 : decode cX3_cell 39 = .ok (.getfield 79, 3) := by decide +kernel
theorem dX3_cell_42 : decode cX3_cell 42 = .ok (.iload_n 1, 1) := by decide +kernel
theorem dX3_cell_43 : decode cX3_cell 43 = .ok (.invokevirtual 138, 3) := by decide +kernel
theorem dX3_cell_46 : decode cX3_cell 46 = .ok (.ireturn, 1) := by decide +kernel
