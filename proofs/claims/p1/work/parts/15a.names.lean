/-! the words and decode rows that the rows of the next part take -/
theorem b_11 : Cond.selects RX3 yX3_leaveAll yX3_leaveAll ∈ TB := tb_of 11 (by decide +kernel)
theorem b_12 : Cond.selects RX9 yX9_forgetAnswers yX9_forgetAnswers ∈ TB := tb_of 12 (by decide +kernel)
theorem b_25 : Cond.selects RX9 yX9_startPrepare yX9_startPrepare ∈ TB := tb_of 25 (by decide +kernel)
theorem b_98 : Cond.initialized RJ7 ∈ TB := tb_of 98 (by decide +kernel)
theorem b_102 : Cond.initialized RJ10 ∈ TB := tb_of 102 (by decide +kernel)
theorem b_122 : Cond.fieldLink RX4 46 "RoutePlanner$Tape" "size" "I" ∈ TB := tb_of 122 (by decide +kernel)
theorem b_194 : Cond.fieldLink RX9 206 "RoutePlanner$Graph" "net" "LRoutePlanner$Net;" ∈ TB := tb_of 194 (by decide +kernel)
theorem b_196 : Cond.fieldLink RX4 31 "RoutePlanner$Graph" "nodes" "I" ∈ TB := tb_of 196 (by decide +kernel)
theorem b_199 : Cond.fieldLink RX4 37 "RoutePlanner$Graph" "arcs" "I" ∈ TB := tb_of 199 (by decide +kernel)
theorem b_202 : Cond.fieldLink RX4 41 "RoutePlanner$Graph" "sum" "J" ∈ TB := tb_of 202 (by decide +kernel)
theorem b_203 : Cond.fieldLink RX9 145 "RoutePlanner$Graph" "sum" "J" ∈ TB := tb_of 203 (by decide +kernel)
theorem b_233 : Cond.fieldLink RX4 25 "RoutePlanner$Reader" "at" "I" ∈ TB := tb_of 233 (by decide +kernel)
theorem b_235 : Cond.fieldLink RX4 28 "RoutePlanner$Reader" "fault" "I" ∈ TB := tb_of 235 (by decide +kernel)
theorem b_238 : Cond.fieldLink RX4 36 "RoutePlanner$Reader" "nodes" "I" ∈ TB := tb_of 238 (by decide +kernel)
theorem b_239 : Cond.fieldLink RX9 110 "RoutePlanner$Reader" "nodes" "I" ∈ TB := tb_of 239 (by decide +kernel)
theorem b_240 : Cond.fieldLink RX4 40 "RoutePlanner$Reader" "arcs" "I" ∈ TB := tb_of 240 (by decide +kernel)
theorem b_241 : Cond.fieldLink RX9 114 "RoutePlanner$Reader" "arcs" "I" ∈ TB := tb_of 241 (by decide +kernel)
theorem b_242 : Cond.fieldLink RX4 45 "RoutePlanner$Reader" "sum" "J" ∈ TB := tb_of 242 (by decide +kernel)
theorem b_368 : Cond.fieldLink RX9 203 "RoutePlanner$Hierarchy" "placed" "I" ∈ TB := tb_of 368 (by decide +kernel)
theorem b_370 : Cond.fieldLink RX9 318 "RoutePlanner$Hierarchy" "shortcuts" "I" ∈ TB := tb_of 370 (by decide +kernel)
theorem b_372 : Cond.fieldLink RX9 300 "RoutePlanner$Hierarchy" "perShortcut" "I" ∈ TB := tb_of 372 (by decide +kernel)
theorem b_374 : Cond.fieldLink RX9 303 "RoutePlanner$Hierarchy" "perEdge" "I" ∈ TB := tb_of 374 (by decide +kernel)
theorem b_376 : Cond.fieldLink RX9 306 "RoutePlanner$Hierarchy" "perContracted" "I" ∈ TB := tb_of 376 (by decide +kernel)
theorem b_525 : Cond.methodLink RX9 106 yX4_readTape ∈ TB := tb_of 525 (by decide +kernel)
theorem b_526 : Cond.instanceMethod yX4_readTape ∈ TB := tb_of 526 (by decide +kernel)
theorem b_527 : Cond.selects RX4 yX4_readTape yX4_readTape ∈ TB := tb_of 527 (by decide +kernel)
theorem b_528 : Cond.code yX4_readTape cX4_readTape 2 (some .int) ∈ TB := tb_of 528 (by decide +kernel)
theorem b_616 : Cond.instanceMethod yX0_putNode ∈ TB := tb_of 616 (by decide +kernel)
theorem b_617 : Cond.selects RX0 yX0_putNode yX0_putNode ∈ TB := tb_of 617 (by decide +kernel)
theorem b_618 : Cond.code yX0_putNode cX0_putNode 4 none ∈ TB := tb_of 618 (by decide +kernel)
theorem b_640 : Cond.methodLink RX9 122 yX0_take ∈ TB := tb_of 640 (by decide +kernel)
theorem b_641 : Cond.instanceMethod yX0_take ∈ TB := tb_of 641 (by decide +kernel)
theorem b_642 : Cond.selects RX0 yX0_take yX0_take ∈ TB := tb_of 642 (by decide +kernel)
theorem b_643 : Cond.code yX0_take cX0_take 6 none ∈ TB := tb_of 643 (by decide +kernel)
theorem b_644 : Cond.methodLink RX0 49 yX3_empty ∈ TB := tb_of 644 (by decide +kernel)
theorem b_645 : Cond.instanceMethod yX3_empty ∈ TB := tb_of 645 (by decide +kernel)
theorem b_646 : Cond.selects RX3 yX3_empty yX3_empty ∈ TB := tb_of 646 (by decide +kernel)
theorem b_647 : Cond.code yX3_empty cX3_empty 2 none ∈ TB := tb_of 647 (by decide +kernel)
theorem b_648 : Cond.methodLink RX3 37 yJ7_fill_53178 ∈ TB := tb_of 648 (by decide +kernel)
theorem b_649 : Cond.static yJ7_fill_53178 ∈ TB := tb_of 649 (by decide +kernel)
theorem b_650 : Cond.code yJ7_fill_53178 cJ7_fill_53178 4 none ∈ TB := tb_of 650 (by decide +kernel)
theorem b_651 : Cond.methodLink RX3 43 yX3_leaveAll ∈ TB := tb_of 651 (by decide +kernel)
theorem b_653 : Cond.instanceMethod yX3_leaveAll ∈ TB := tb_of 653 (by decide +kernel)
theorem b_654 : Cond.code yX3_leaveAll cX3_leaveAll 2 none ∈ TB := tb_of 654 (by decide +kernel)
theorem b_662 : Cond.methodLink RX9 126 yX9_forgetAnswers ∈ TB := tb_of 662 (by decide +kernel)
theorem b_664 : Cond.instanceMethod yX9_forgetAnswers ∈ TB := tb_of 664 (by decide +kernel)
theorem b_665 : Cond.code yX9_forgetAnswers cX9_forgetAnswers 1 none ∈ TB := tb_of 665 (by decide +kernel)
theorem b_666 : Cond.methodLink RX9 404 yX5_forget ∈ TB := tb_of 666 (by decide +kernel)
theorem b_667 : Cond.instanceMethod yX5_forget ∈ TB := tb_of 667 (by decide +kernel)
theorem b_668 : Cond.selects RX5 yX5_forget yX5_forget ∈ TB := tb_of 668 (by decide +kernel)
theorem b_669 : Cond.code yX5_forget cX5_forget 1 none ∈ TB := tb_of 669 (by decide +kernel)
theorem b_783 : Cond.methodLink RX9 297 yX9_isFactor ∈ TB := tb_of 783 (by decide +kernel)
theorem b_784 : Cond.static yX9_isFactor ∈ TB := tb_of 784 (by decide +kernel)
theorem b_785 : Cond.code yX9_isFactor cX9_isFactor 1 (some .boolean) ∈ TB := tb_of 785 (by decide +kernel)
theorem b_928 : Cond.methodLink RX9 97 yX6_push ∈ TB := tb_of 928 (by decide +kernel)
theorem b_929 : Cond.instanceMethod yX6_push ∈ TB := tb_of 929 (by decide +kernel)
theorem b_930 : Cond.selects RX6 yX6_push yX6_push ∈ TB := tb_of 930 (by decide +kernel)
theorem b_931 : Cond.code yX6_push cX6_push 3 none ∈ TB := tb_of 931 (by decide +kernel)
theorem b_963 : Cond.constant RX9 132 (1000000) ∈ TB := tb_of 963 (by decide +kernel)
theorem b_964 : Cond.methodLink RX9 133 yX9_isWithin ∈ TB := tb_of 964 (by decide +kernel)
theorem b_965 : Cond.static yX9_isWithin ∈ TB := tb_of 965 (by decide +kernel)
theorem b_966 : Cond.code yX9_isWithin cX9_isWithin 2 (some .boolean) ∈ TB := tb_of 966 (by decide +kernel)
theorem b_969 : Cond.methodLink RX9 141 yX0_putNode ∈ TB := tb_of 969 (by decide +kernel)
theorem b_1147 : Cond.methodLink RX9 309 yX9_startPrepare ∈ TB := tb_of 1147 (by decide +kernel)
theorem b_1149 : Cond.instanceMethod yX9_startPrepare ∈ TB := tb_of 1149 (by decide +kernel)
theorem b_1150 : Cond.code yX9_startPrepare cX9_startPrepare 1 none ∈ TB := tb_of 1150 (by decide +kernel)
theorem b_1167 : Cond.methodLink RX9 407 yX1_begin ∈ TB := tb_of 1167 (by decide +kernel)
theorem b_1168 : Cond.instanceMethod yX1_begin ∈ TB := tb_of 1168 (by decide +kernel)
theorem b_1169 : Cond.selects RX1 yX1_begin yX1_begin ∈ TB := tb_of 1169 (by decide +kernel)
theorem b_1170 : Cond.code yX1_begin cX1_begin 2 none ∈ TB := tb_of 1170 (by decide +kernel)
theorem b_1171 : Cond.methodLink RX1 64 yX3_copy ∈ TB := tb_of 1171 (by decide +kernel)
theorem b_1172 : Cond.instanceMethod yX3_copy ∈ TB := tb_of 1172 (by decide +kernel)
theorem b_1173 : Cond.selects RX3 yX3_copy yX3_copy ∈ TB := tb_of 1173 (by decide +kernel)
theorem b_1174 : Cond.code yX3_copy cX3_copy 2 none ∈ TB := tb_of 1174 (by decide +kernel)
theorem b_1175 : Cond.methodLink RX3 46 (⟨"java/lang/System", "arraycopy", "(Ljava/lang/Object;ILjava/lang/Object;II)V"⟩ : MethodName) ∈ TB := tb_of 1175 (by decide +kernel)
theorem b_1176 : Cond.methodLink RX1 68 yJ7_fill_53178 ∈ TB := tb_of 1176 (by decide +kernel)
theorem hd_X6_push : k_hd yX6_push 1 := by decide +kernel
theorem hd_X4_readTape : k_hd yX4_readTape 0 := by decide +kernel
theorem hd_J7_fill_53178 : k_hd yJ7_fill_53178 2 := by decide +kernel
theorem hd_X3_leaveAll : k_hd yX3_leaveAll 0 := by decide +kernel
theorem hd_X3_empty : k_hd yX3_empty 1 := by decide +kernel
theorem hd_X5_forget : k_hd yX5_forget 0 := by decide +kernel
theorem hd_X9_isWithin : k_hd yX9_isWithin 2 := by decide +kernel
theorem hd_X0_putNode : k_hd yX0_putNode 3 := by decide +kernel
theorem hd_X0_take : k_hd yX0_take 3 := by decide +kernel
theorem hd_X9_forgetAnswers : k_hd yX9_forgetAnswers 0 := by decide +kernel
theorem hd_X9_isFactor : k_hd yX9_isFactor 1 := by decide +kernel
theorem hd_X3_copy : k_hd yX3_copy 1 := by decide +kernel
theorem hd_X1_begin : k_hd yX1_begin 1 := by decide +kernel
theorem hd_X9_startPrepare : k_hd yX9_startPrepare 0 := by decide +kernel
theorem dX6_push_0 : decode cX6_push 0 = .ok (.bipush 24, 2) := by decide +kernel
theorem dX6_push_2 : decode cX6_push 2 = .ok (.istore_n 2, 1) := by decide +kernel
theorem dX6_push_3 : decode cX6_push 3 = .ok (.iload_n 2, 1) := by decide +kernel
theorem dX6_push_4 : decode cX6_push 4 = .ok (.ifCond .lt 42, 3) := by decide +kernel
theorem dX6_push_7 : decode cX6_push 7 = .ok (.aload_n 0, 1) := by decide +kernel
theorem dX6_push_8 : decode cX6_push 8 = .ok (.getfield 15, 3) := by decide +kernel
theorem dX6_push_11 : decode cX6_push 11 = .ok (.sipush 2000, 3) := by decide +kernel
theorem dX6_push_14 : decode cX6_push 14 = .ok (.if_icmp .ge 32, 3) := by decide +kernel
theorem dX6_push_17 : decode cX6_push 17 = .ok (.aload_n 0, 1) := by decide +kernel
theorem dX6_push_18 : decode cX6_push 18 = .ok (.getfield 9, 3) := by decide +kernel
theorem dX6_push_21 : decode cX6_push 21 = .ok (.aload_n 0, 1) := by decide +kernel
theorem dX6_push_22 : decode cX6_push 22 = .ok (.getfield 15, 3) := by decide +kernel
theorem dX6_push_25 : decode cX6_push 25 = .ok (.iload_n 1, 1) := by decide +kernel
theorem dX6_push_26 : decode cX6_push 26 = .ok (.iload_n 2, 1) := by decide +kernel
theorem dX6_push_27 : decode cX6_push 27 = .ok (.ishr, 1) := by decide +kernel
theorem dX6_push_28 : decode cX6_push 28 = .ok (.i2b, 1) := by decide +kernel
theorem dX6_push_29 : decode cX6_push 29 = .ok (.bastore, 1) := by decide +kernel
theorem dX6_push_30 : decode cX6_push 30 = .ok (.aload_n 0, 1) := by decide +kernel
theorem dX6_push_31 : decode cX6_push 31 = .ok (.dup, 1) := by decide +kernel
theorem dX6_push_32 : decode cX6_push 32 = .ok (.getfield 15, 3) := by decide +kernel
theorem dX6_push_35 : decode cX6_push 35 = .ok (.iconst 1, 1) := by decide +kernel
theorem dX6_push_36 : decode cX6_push 36 = .ok (.iadd, 1) := by decide +kernel
theorem dX6_push_37 : decode cX6_push 37 = .ok (.putfield 15, 3) := by decide +kernel
theorem dX6_push_40 : decode cX6_push 40 = .ok (.iinc 2 (-8), 3) := by decide +kernel
theorem dX6_push_43 : decode cX6_push 43 = .ok (.goto (-40), 3) := by decide +kernel
theorem dX6_push_46 : decode cX6_push 46 = .ok (.return_, 1) := by decide +kernel
theorem dX9_feed_0 : decode cX9_feed 0 = .ok (.aload_n 0, 1) := by decide +kernel
theorem dX9_feed_1 : decode cX9_feed 1 = .ok (.getfield 14, 3) := by decide +kernel
theorem dX9_feed_4 : decode cX9_feed 4 = .ok (.getfield 87, 3) := by decide +kernel
theorem dX9_feed_7 : decode cX9_feed 7 = .ok (.sipush 1980, 3) := by decide +kernel
theorem dX9_feed_10 : decode cX9_feed 10 = .ok (.if_icmp .le 13, 3) := by decide +kernel
theorem dX9_feed_23 : decode cX9_feed 23 = .ok (.aload_n 0, 1) := by decide +kernel
theorem dX9_feed_24 : decode cX9_feed 24 = .ok (.getfield 14, 3) := by decide +kernel
theorem dX9_feed_27 : decode cX9_feed 27 = .ok (.iload_n 1, 1) := by decide +kernel
theorem dX9_feed_28 : decode cX9_feed 28 = .ok (.invokevirtual 97, 3) := by decide +kernel
theorem dX9_feed_31 : decode cX9_feed 31 = .ok (.aload_n 0, 1) := by decide +kernel
theorem dX9_feed_32 : decode cX9_feed 32 = .ok (.getfield 14, 3) := by decide +kernel
theorem dX9_feed_35 : decode cX9_feed 35 = .ok (.iload_n 2, 1) := by decide +kernel
theorem dX9_feed_36 : decode cX9_feed 36 = .ok (.invokevirtual 97, 3) := by decide +kernel
theorem dX9_feed_39 : decode cX9_feed 39 = .ok (.aload_n 0, 1) := by decide +kernel
theorem dX9_feed_40 : decode cX9_feed 40 = .ok (.getfield 14, 3) := by decide +kernel
theorem dX9_feed_43 : decode cX9_feed 43 = .ok (.iload_n 3, 1) := by decide +kernel
theorem dX9_feed_44 : decode cX9_feed 44 = .ok (.invokevirtual 97, 3) := by decide +kernel
theorem dX9_feed_47 : decode cX9_feed 47 = .ok (.aload_n 0, 1) := by decide +kernel
theorem dX9_feed_48 : decode cX9_feed 48 = .ok (.getfield 14, 3) := by decide +kernel
theorem dX9_feed_51 : decode cX9_feed 51 = .ok (.iload 4, 2) := by decide +kernel
theorem dX9_feed_53 : decode cX9_feed 53 = .ok (.invokevirtual 97, 3) := by decide +kernel
theorem dX9_feed_56 : decode cX9_feed 56 = .ok (.aload_n 0, 1) := by decide +kernel
theorem dX9_feed_57 : decode cX9_feed 57 = .ok (.getfield 14, 3) := by decide +kernel
theorem dX9_feed_60 : decode cX9_feed 60 = .ok (.iload 5, 2) := by decide +kernel
theorem dX9_feed_62 : decode cX9_feed 62 = .ok (.invokevirtual 97, 3) := by decide +kernel
theorem dX9_feed_65 : decode cX9_feed 65 = .ok (.aload_n 0, 1) := by decide +kernel
theorem dX9_feed_66 : decode cX9_feed 66 = .ok (.getfield 14, 3) := by decide +kernel
theorem dX9_feed_69 : decode cX9_feed 69 = .ok (.getfield 87, 3) := by decide +kernel
theorem dX9_feed_72 : decode cX9_feed 72 = .ok (.ireturn, 1) := by decide +kernel
theorem dX9_end_0 : decode cX9_end 0 = .ok (.iload_n 1, 1) := by decide +kernel
theorem dX9_end_1 : decode cX9_end 1 = .ok (.ifCond .lt 14, 3) := by decide +kernel
theorem dX9_end_4 : decode cX9_end 4 = .ok (.iload_n 1, 1) := by decide +kernel
theorem dX9_end_5 : decode cX9_end 5 = .ok (.aload_n 0, 1) := by decide +kernel
theorem dX9_end_6 : decode cX9_end 6 = .ok (.getfield 14, 3) := by decide +kernel
theorem dX9_end_9 : decode cX9_end 9 = .ok (.getfield 87, 3) := by decide +kernel
theorem dX9_end_12 : decode cX9_end 12 = .ok (.if_icmp .le 13, 3) := by decide +kernel
theorem dX9_end_15 : decode cX9_end 15 = .ok (.new 101, 3) := by decide +kernel
theorem dX9_end_18 : decode cX9_end 18 = .ok (.dup, 1) := by decide +kernel
theorem dX9_end_19 : decode cX9_end 19 = .ok (.ldc 103, 2) := by decide +kernel
theorem dX9_end_21 : decode cX9_end 21 = .ok (.invokespecial 105, 3) := by decide +kernel
theorem dX9_end_24 : decode cX9_end 24 = .ok (.athrow, 1) := by decide +kernel
theorem dX9_end_25 : decode cX9_end 25 = .ok (.aload_n 0, 1) := by decide +kernel
theorem dX9_end_26 : decode cX9_end 26 = .ok (.getfield 14, 3) := by decide +kernel
theorem dX9_end_29 : decode cX9_end 29 = .ok (.iload_n 1, 1) := by decide +kernel
theorem dX9_end_30 : decode cX9_end 30 = .ok (.putfield 87, 3) := by decide +kernel
theorem dX9_end_33 : decode cX9_end 33 = .ok (.iload_n 1, 1) := by decide +kernel
theorem dX9_end_34 : decode cX9_end 34 = .ok (.ireturn, 1) := by decide +kernel
theorem dX4_readTape_0 : decode cX4_readTape 0 = .ok (.aload_n 0, 1) := by decide +kernel
theorem dX4_readTape_1 : decode cX4_readTape 1 = .ok (.iconst 0, 1) := by decide +kernel
theorem dX4_readTape_2 : decode cX4_readTape 2 = .ok (.putfield 25, 3) := by decide +kernel
theorem dX4_readTape_5 : decode cX4_readTape 5 = .ok (.aload_n 0, 1) := by decide +kernel
theorem dX4_readTape_6 : decode cX4_readTape 6 = .ok (.iconst 0, 1) := by decide +kernel
theorem dX4_readTape_7 : decode cX4_readTape 7 = .ok (.putfield 28, 3) := by decide +kernel
theorem dX4_readTape_10 : decode cX4_readTape 10 = .ok (.aload_n 0, 1) := by decide +kernel
theorem dX4_readTape_11 : decode cX4_readTape 11 = .ok (.iconst (-1), 1) := by decide +kernel
theorem dX4_readTape_12 : decode cX4_readTape 12 = .ok (.putfield 21, 3) := by decide +kernel
theorem dX4_readTape_15 : decode cX4_readTape 15 = .ok (.aload_n 0, 1) := by decide +kernel
theorem dX4_readTape_16 : decode cX4_readTape 16 = .ok (.aload_n 0, 1) := by decide +kernel
theorem dX4_readTape_17 : decode cX4_readTape 17 = .ok (.getfield 17, 3) := by decide +kernel
theorem dX4_readTape_20 : decode cX4_readTape 20 = .ok (.getfield 31, 3) := by decide +kernel
theorem dX4_readTape_23 : decode cX4_readTape 23 = .ok (.putfield 36, 3) := by decide +kernel
theorem dX4_readTape_26 : decode cX4_readTape 26 = .ok (.aload_n 0, 1) := by decide +kernel
theorem dX4_readTape_27 : decode cX4_readTape 27 = .ok (.aload_n 0, 1) := by decide +kernel
theorem dX4_readTape_28 : decode cX4_readTape 28 = .ok (.getfield 17, 3) := by decide +kernel
theorem dX4_readTape_31 : decode cX4_readTape 31 = .ok (.getfield 37, 3) := by decide +kernel
theorem dX4_readTape_34 : decode cX4_readTape 34 = .ok (.putfield 40, 3) := by decide +kernel
theorem dX4_readTape_37 : decode cX4_readTape 37 = .ok (.aload_n 0, 1) := by decide +kernel
theorem dX4_readTape_38 : decode cX4_readTape 38 = .ok (.aload_n 0, 1) := by decide +kernel
theorem dX4_readTape_39 : decode cX4_readTape 39 = .ok (.getfield 17, 3) := by decide +kernel
theorem dX4_readTape_42 : decode cX4_readTape 42 = .ok (.getfield 41, 3) := by decide +kernel
theorem dX4_readTape_45 : decode cX4_readTape 45 = .ok (.putfield 45, 3) := by decide +kernel
theorem dX4_readTape_48 : decode cX4_readTape 48 = .ok (.iconst 0, 1) := by decide +kernel
theorem dX4_readTape_49 : decode cX4_readTape 49 = .ok (.istore_n 1, 1) := by decide +kernel
theorem dX4_readTape_50 : decode cX4_readTape 50 = .ok (.iload_n 1, 1) := by decide +kernel
theorem dX4_readTape_51 : decode cX4_readTape 51 = .ok (.sipush 2000, 3) := by decide +kernel
theorem dX4_readTape_54 : decode cX4_readTape 54 = .ok (.if_icmp .ge 34, 3) := by decide +kernel
theorem dX4_readTape_57 : decode cX4_readTape 57 = .ok (.aload_n 0, 1) := by decide +kernel
theorem dX4_readTape_58 : decode cX4_readTape 58 = .ok (.getfield 25, 3) := by decide +kernel
theorem dX4_readTape_61 : decode cX4_readTape 61 = .ok (.aload_n 0, 1) := by decide +kernel
theorem dX4_readTape_62 : decode cX4_readTape 62 = .ok (.getfield 11, 3) := by decide +kernel
theorem dX4_readTape_65 : decode cX4_readTape 65 = .ok (.getfield 46, 3) := by decide +kernel
theorem dX4_readTape_68 : decode cX4_readTape 68 = .ok (.if_icmp .ge 20, 3) := by decide +kernel
theorem dX4_readTape_88 : decode cX4_readTape 88 = .ok (.aload_n 0, 1) := by decide +kernel
theorem dX4_readTape_89 : decode cX4_readTape 89 = .ok (.getfield 11, 3) := by decide +kernel
theorem dX4_readTape_92 : decode cX4_readTape 92 = .ok (.iconst 0, 1) := by decide +kernel
theorem dX4_readTape_93 : decode cX4_readTape 93 = .ok (.putfield 46, 3) := by decide +kernel
theorem dX4_readTape_96 : decode cX4_readTape 96 = .ok (.aload_n 0, 1) := by decide +kernel
theorem dX4_readTape_97 : decode cX4_readTape 97 = .ok (.getfield 28, 3) := by decide +kernel
theorem dX4_readTape_100 : decode cX4_readTape 100 = .ok (.ireturn, 1) := by decide +kernel
theorem dX9_read_0 : decode cX9_read 0 = .ok (.aload_n 0, 1) := by decide +kernel
theorem dX9_read_1 : decode cX9_read 1 = .ok (.getfield 30, 3) := by decide +kernel
theorem dX9_read_4 : decode cX9_read 4 = .ok (.invokevirtual 106, 3) := by decide +kernel
theorem dX9_read_7 : decode cX9_read 7 = .ok (.istore_n 1, 1) := by decide +kernel
theorem dX9_read_8 : decode cX9_read 8 = .ok (.iload_n 1, 1) := by decide +kernel
theorem dX9_read_9 : decode cX9_read 9 = .ok (.ifCond .ne 69, 3) := by decide +kernel
theorem dX9_read_12 : decode cX9_read 12 = .ok (.aload_n 0, 1) := by decide +kernel
theorem dX9_read_13 : decode cX9_read 13 = .ok (.getfield 30, 3) := by decide +kernel
theorem dX9_read_16 : decode cX9_read 16 = .ok (.getfield 110, 3) := by decide +kernel
theorem dX9_read_19 : decode cX9_read 19 = .ok (.aload_n 0, 1) := by decide +kernel
theorem dX9_read_20 : decode cX9_read 20 = .ok (.getfield 21, 3) := by decide +kernel
theorem dX9_read_23 : decode cX9_read 23 = .ok (.getfield 113, 3) := by decide +kernel
theorem dX9_read_26 : decode cX9_read 26 = .ok (.if_icmp .gt 20, 3) := by decide +kernel
theorem dX9_read_29 : decode cX9_read 29 = .ok (.aload_n 0, 1) := by decide +kernel
theorem dX9_read_30 : decode cX9_read 30 = .ok (.getfield 30, 3) := by decide +kernel
theorem dX9_read_33 : decode cX9_read 33 = .ok (.getfield 114, 3) := by decide +kernel
theorem dX9_read_36 : decode cX9_read 36 = .ok (.aload_n 0, 1) := by decide +kernel
theorem dX9_read_37 : decode cX9_read 37 = .ok (.getfield 21, 3) := by decide +kernel
theorem dX9_read_40 : decode cX9_read 40 = .ok (.getfield 117, 3) := by decide +kernel
theorem dX9_read_43 : decode cX9_read 43 = .ok (.if_icmp .le 35, 3) := by decide +kernel
theorem dX9_read_78 : decode cX9_read 78 = .ok (.iload_n 1, 1) := by decide +kernel
theorem dX9_read_79 : decode cX9_read 79 = .ok (.ireturn, 1) := by decide +kernel
theorem dX3_leaveAll_0 : decode cX3_leaveAll 0 = .ok (.iconst 0, 1) := by decide +kernel
theorem dX3_leaveAll_1 : decode cX3_leaveAll 1 = .ok (.istore_n 1, 1) := by decide +kernel
theorem dX3_leaveAll_2 : decode cX3_leaveAll 2 = .ok (.iload_n 1, 1) := by decide +kernel
theorem dX3_leaveAll_3 : decode cX3_leaveAll 3 = .ok (.bipush 24, 2) := by decide +kernel
theorem dX3_leaveAll_5 : decode cX3_leaveAll 5 = .ok (.if_icmp .ge 16, 3) := by decide +kernel
theorem dX3_leaveAll_8 : decode cX3_leaveAll 8 = .ok (.aload_n 0, 1) := by decide +kernel
theorem dX3_leaveAll_9 : decode cX3_leaveAll 9 = .ok (.getfield 25, 3) := by decide +kernel
theorem dX3_leaveAll_12 : decode cX3_leaveAll 12 = .ok (.iload_n 1, 1) := by decide +kernel
theorem dX3_leaveAll_13 : decode cX3_leaveAll 13 = .ok (.iconst 1, 1) := by decide +kernel
theorem dX3_leaveAll_14 : decode cX3_leaveAll 14 = .ok (.bastore, 1) := by decide +kernel
theorem dX3_leaveAll_15 : decode cX3_leaveAll 15 = .ok (.iinc 1 1, 3) := by decide +kernel
theorem dX3_leaveAll_18 : decode cX3_leaveAll 18 = .ok (.goto (-16), 3) := by decide +kernel
theorem dX3_leaveAll_21 : decode cX3_leaveAll 21 = .ok (.return_, 1) := by decide +kernel
theorem dX3_empty_0 : decode cX3_empty 0 = .ok (.aload_n 0, 1) := by decide +kernel
theorem dX3_empty_1 : decode cX3_empty 1 = .ok (.iload_n 1, 1) := by decide +kernel
theorem dX3_empty_2 : decode cX3_empty 2 = .ok (.putfield 29, 3) := by decide +kernel
theorem dX3_empty_5 : decode cX3_empty 5 = .ok (.aload_n 0, 1) := by decide +kernel
theorem dX3_empty_6 : decode cX3_empty 6 = .ok (.getfield 15, 3) := by decide +kernel
theorem dX3_empty_9 : decode cX3_empty 9 = .ok (.iconst 0, 1) := by decide +kernel
theorem dX3_empty_10 : decode cX3_empty 10 = .ok (.invokestatic 37, 3) := by decide +kernel
theorem dX3_empty_13 : decode cX3_empty 13 = .ok (.aload_n 0, 1) := by decide +kernel
theorem dX3_empty_14 : decode cX3_empty 14 = .ok (.invokevirtual 43, 3) := by decide +kernel
theorem dX3_empty_17 : decode cX3_empty 17 = .ok (.return_, 1) := by decide +kernel
theorem dX0_putNode_0 : decode cX0_putNode 0 = .ok (.iload_n 1, 1) := by decide +kernel
theorem dX0_putNode_1 : decode cX0_putNode 1 = .ok (.ifCond .lt 30, 3) := by decide +kernel
theorem dX0_putNode_4 : decode cX0_putNode 4 = .ok (.iload_n 1, 1) := by decide +kernel
theorem dX0_putNode_5 : decode cX0_putNode 5 = .ok (.bipush 24, 2) := by decide +kernel
theorem dX0_putNode_7 : decode cX0_putNode 7 = .ok (.if_icmp .ge 24, 3) := by decide +kernel
theorem dX0_putNode_10 : decode cX0_putNode 10 = .ok (.aload_n 0, 1) := by decide +kernel
theorem dX0_putNode_11 : decode cX0_putNode 11 = .ok (.getfield 9, 3) := by decide +kernel
theorem dX0_putNode_14 : decode cX0_putNode 14 = .ok (.iload_n 1, 1) := by decide +kernel
theorem dX0_putNode_15 : decode cX0_putNode 15 = .ok (.iload_n 2, 1) := by decide +kernel
theorem dX0_putNode_16 : decode cX0_putNode 16 = .ok (.iastore, 1) := by decide +kernel
theorem dX0_putNode_17 : decode cX0_putNode 17 = .ok (.aload_n 0, 1) := by decide +kernel
theorem dX0_putNode_18 : decode cX0_putNode 18 = .ok (.getfield 15, 3) := by decide +kernel
theorem dX0_putNode_21 : decode cX0_putNode 21 = .ok (.iload_n 1, 1) := by decide +kernel
theorem dX0_putNode_22 : decode cX0_putNode 22 = .ok (.iload_n 3, 1) := by decide +kernel
theorem dX0_putNode_23 : decode cX0_putNode 23 = .ok (.iastore, 1) := by decide +kernel
theorem dX0_putNode_24 : decode cX0_putNode 24 = .ok (.aload_n 0, 1) := by decide +kernel
theorem dX0_putNode_25 : decode cX0_putNode 25 = .ok (.getfield 18, 3) := by decide +kernel
theorem dX0_putNode_28 : decode cX0_putNode 28 = .ok (.iload_n 1, 1) := by decide +kernel
theorem dX0_putNode_29 : decode cX0_putNode 29 = .ok (.lconst 0, 1) := by decide +kernel
theorem dX0_putNode_30 : decode cX0_putNode 30 = .ok (.lastore, 1) := by decide +kernel
theorem dX0_putNode_31 : decode cX0_putNode 31 = .ok (.return_, 1) := by decide +kernel
theorem dX0_take_0 : decode cX0_take 0 = .ok (.aload_n 0, 1) := by decide +kernel
theorem dX0_take_1 : decode cX0_take 1 = .ok (.iload_n 1, 1) := by decide +kernel
theorem dX0_take_2 : decode cX0_take 2 = .ok (.putfield 38, 3) := by decide +kernel
theorem dX0_take_5 : decode cX0_take 5 = .ok (.aload_n 0, 1) := by decide +kernel
theorem dX0_take_6 : decode cX0_take 6 = .ok (.iload_n 2, 1) := by decide +kernel
theorem dX0_take_7 : decode cX0_take 7 = .ok (.putfield 42, 3) := by decide +kernel
theorem dX0_take_10 : decode cX0_take 10 = .ok (.aload_n 0, 1) := by decide +kernel
theorem dX0_take_11 : decode cX0_take 11 = .ok (.lload_n 3, 1) := by decide +kernel
theorem dX0_take_12 : decode cX0_take 12 = .ok (.putfield 45, 3) := by decide +kernel
theorem dX0_take_15 : decode cX0_take 15 = .ok (.aload_n 0, 1) := by decide +kernel
theorem dX0_take_16 : decode cX0_take 16 = .ok (.getfield 34, 3) := by decide +kernel
theorem dX0_take_19 : decode cX0_take 19 = .ok (.aload_n 0, 1) := by decide +kernel
theorem dX0_take_20 : decode cX0_take 20 = .ok (.getfield 38, 3) := by decide +kernel
theorem dX0_take_23 : decode cX0_take 23 = .ok (.invokevirtual 49, 3) := by decide +kernel
theorem dX0_take_26 : decode cX0_take 26 = .ok (.iconst 0, 1) := by decide +kernel
theorem dX0_take_27 : decode cX0_take 27 = .ok (.istore 5, 2) := by decide +kernel
theorem dX0_take_29 : decode cX0_take 29 = .ok (.iload 5, 2) := by decide +kernel
theorem dX0_take_31 : decode cX0_take 31 = .ok (.aload_n 0, 1) := by decide +kernel
theorem dX0_take_32 : decode cX0_take 32 = .ok (.getfield 42, 3) := by decide +kernel
theorem dX0_take_35 : decode cX0_take 35 = .ok (.if_icmp .ge 56, 3) := by decide +kernel
theorem dX0_take_91 : decode cX0_take 91 = .ok (.return_, 1) := by decide +kernel
theorem dX5_forget_0 : decode cX5_forget 0 = .ok (.aload_n 0, 1) := by decide +kernel
theorem dX5_forget_1 : decode cX5_forget 1 = .ok (.iconst 0, 1) := by decide +kernel
theorem dX5_forget_2 : decode cX5_forget 2 = .ok (.putfield 21, 3) := by decide +kernel
theorem dX5_forget_5 : decode cX5_forget 5 = .ok (.return_, 1) := by decide +kernel
theorem dX9_forgetAnswers_0 : decode cX9_forgetAnswers 0 = .ok (.aload_n 0, 1) := by decide +kernel
theorem dX9_forgetAnswers_1 : decode cX9_forgetAnswers 1 = .ok (.getfield 61, 3) := by decide +kernel
theorem dX9_forgetAnswers_4 : decode cX9_forgetAnswers 4 = .ok (.iconst 0, 1) := by decide +kernel
theorem dX9_forgetAnswers_5 : decode cX9_forgetAnswers 5 = .ok (.putfield 193, 3) := by decide +kernel
theorem dX9_forgetAnswers_8 : decode cX9_forgetAnswers 8 = .ok (.aload_n 0, 1) := by decide +kernel
theorem dX9_forgetAnswers_9 : decode cX9_forgetAnswers 9 = .ok (.getfield 47, 3) := by decide +kernel
theorem dX9_forgetAnswers_12 : decode cX9_forgetAnswers 12 = .ok (.iconst 0, 1) := by decide +kernel
theorem dX9_forgetAnswers_13 : decode cX9_forgetAnswers 13 = .ok (.putfield 387, 3) := by decide +kernel
theorem dX9_forgetAnswers_16 : decode cX9_forgetAnswers 16 = .ok (.aload_n 0, 1) := by decide +kernel
theorem dX9_forgetAnswers_17 : decode cX9_forgetAnswers 17 = .ok (.getfield 68, 3) := by decide +kernel
theorem dX9_forgetAnswers_20 : decode cX9_forgetAnswers 20 = .ok (.invokevirtual 404, 3) := by decide +kernel
theorem dX9_forgetAnswers_23 : decode cX9_forgetAnswers 23 = .ok (.return_, 1) := by decide +kernel
theorem dX9_node_0 : decode cX9_node 0 = .ok (.iload_n 1, 1) := by decide +kernel
theorem dX9_node_1 : decode cX9_node 1 = .ok (.ldc 132, 2) := by decide +kernel
theorem dX9_node_3 : decode cX9_node 3 = .ok (.invokestatic 133, 3) := by decide +kernel
theorem dX9_node_6 : decode cX9_node 6 = .ok (.ifCond .eq 12, 3) := by decide +kernel
theorem dX9_node_9 : decode cX9_node 9 = .ok (.iload_n 2, 1) := by decide +kernel
theorem dX9_node_10 : decode cX9_node 10 = .ok (.ldc 132, 2) := by decide +kernel
theorem dX9_node_12 : decode cX9_node 12 = .ok (.invokestatic 133, 3) := by decide +kernel
theorem dX9_node_15 : decode cX9_node 15 = .ok (.ifCond .ne 13, 3) := by decide +kernel
theorem dX9_node_18 : decode cX9_node 18 = .ok (.new 101, 3) := by decide +kernel
theorem dX9_node_21 : decode cX9_node 21 = .ok (.dup, 1) := by decide +kernel
theorem dX9_node_22 : decode cX9_node 22 = .ok (.ldc 137, 2) := by decide +kernel
theorem dX9_node_24 : decode cX9_node 24 = .ok (.invokespecial 105, 3) := by decide +kernel
theorem dX9_node_27 : decode cX9_node 27 = .ok (.athrow, 1) := by decide +kernel
theorem dX9_node_28 : decode cX9_node 28 = .ok (.aload_n 0, 1) := by decide +kernel
theorem dX9_node_29 : decode cX9_node 29 = .ok (.getfield 21, 3) := by decide +kernel
theorem dX9_node_32 : decode cX9_node 32 = .ok (.getfield 113, 3) := by decide +kernel
theorem dX9_node_35 : decode cX9_node 35 = .ok (.bipush 24, 2) := by decide +kernel
theorem dX9_node_37 : decode cX9_node 37 = .ok (.if_icmp .lt 13, 3) := by decide +kernel
theorem dX9_node_50 : decode cX9_node 50 = .ok (.aload_n 0, 1) := by decide +kernel
theorem dX9_node_51 : decode cX9_node 51 = .ok (.getfield 21, 3) := by decide +kernel
theorem dX9_node_54 : decode cX9_node 54 = .ok (.getfield 113, 3) := by decide +kernel
theorem dX9_node_57 : decode cX9_node 57 = .ok (.istore_n 3, 1) := by decide +kernel
theorem dX9_node_58 : decode cX9_node 58 = .ok (.aload_n 0, 1) := by decide +kernel
theorem dX9_node_59 : decode cX9_node 59 = .ok (.getfield 21, 3) := by decide +kernel
theorem dX9_node_62 : decode cX9_node 62 = .ok (.iload_n 3, 1) := by decide +kernel
theorem dX9_node_63 : decode cX9_node 63 = .ok (.iload_n 1, 1) := by decide +kernel
theorem dX9_node_64 : decode cX9_node 64 = .ok (.iload_n 2, 1) := by decide +kernel
theorem dX9_node_65 : decode cX9_node 65 = .ok (.invokevirtual 141, 3) := by decide +kernel
theorem dX9_node_68 : decode cX9_node 68 = .ok (.aload_n 0, 1) := by decide +kernel
theorem dX9_node_69 : decode cX9_node 69 = .ok (.getfield 21, 3) := by decide +kernel
theorem dX9_node_72 : decode cX9_node 72 = .ok (.iload_n 3, 1) := by decide +kernel
theorem dX9_node_73 : decode cX9_node 73 = .ok (.iconst 1, 1) := by decide +kernel
theorem dX9_node_74 : decode cX9_node 74 = .ok (.iadd, 1) := by decide +kernel
theorem dX9_node_75 : decode cX9_node 75 = .ok (.aload_n 0, 1) := by decide +kernel
theorem dX9_node_76 : decode cX9_node 76 = .ok (.getfield 21, 3) := by decide +kernel
theorem dX9_node_79 : decode cX9_node 79 = .ok (.getfield 117, 3) := by decide +kernel
theorem dX9_node_82 : decode cX9_node 82 = .ok (.aload_n 0, 1) := by decide +kernel
theorem dX9_node_83 : decode cX9_node 83 = .ok (.getfield 21, 3) := by decide +kernel
theorem dX9_node_86 : decode cX9_node 86 = .ok (.getfield 145, 3) := by decide +kernel
theorem dX9_node_89 : decode cX9_node 89 = .ok (.invokevirtual 122, 3) := by decide +kernel
theorem dX9_node_92 : decode cX9_node 92 = .ok (.aload_n 0, 1) := by decide +kernel
theorem dX9_node_93 : decode cX9_node 93 = .ok (.invokevirtual 126, 3) := by decide +kernel
theorem dX9_node_96 : decode cX9_node 96 = .ok (.iload_n 3, 1) := by decide +kernel
theorem dX9_node_97 : decode cX9_node 97 = .ok (.ireturn, 1) := by decide +kernel
theorem dX9_clear_0 : decode cX9_clear 0 = .ok (.aload_n 0, 1) := by decide +kernel
theorem dX9_clear_1 : decode cX9_clear 1 = .ok (.getfield 21, 3) := by decide +kernel
theorem dX9_clear_4 : decode cX9_clear 4 = .ok (.getfield 113, 3) := by decide +kernel
theorem dX9_clear_7 : decode cX9_clear 7 = .ok (.istore_n 1, 1) := by decide +kernel
theorem dX9_clear_8 : decode cX9_clear 8 = .ok (.aload_n 0, 1) := by decide +kernel
theorem dX9_clear_9 : decode cX9_clear 9 = .ok (.getfield 21, 3) := by decide +kernel
theorem dX9_clear_12 : decode cX9_clear 12 = .ok (.iconst 0, 1) := by decide +kernel
theorem dX9_clear_13 : decode cX9_clear 13 = .ok (.iconst 0, 1) := by decide +kernel
theorem dX9_clear_14 : decode cX9_clear 14 = .ok (.lconst 0, 1) := by decide +kernel
theorem dX9_clear_15 : decode cX9_clear 15 = .ok (.invokevirtual 122, 3) := by decide +kernel
theorem dX9_clear_18 : decode cX9_clear 18 = .ok (.aload_n 0, 1) := by decide +kernel
theorem dX9_clear_19 : decode cX9_clear 19 = .ok (.getfield 30, 3) := by decide +kernel
theorem dX9_clear_22 : decode cX9_clear 22 = .ok (.iconst (-1), 1) := by decide +kernel
theorem dX9_clear_23 : decode cX9_clear 23 = .ok (.putfield 129, 3) := by decide +kernel
theorem dX9_clear_26 : decode cX9_clear 26 = .ok (.aload_n 0, 1) := by decide +kernel
theorem dX9_clear_27 : decode cX9_clear 27 = .ok (.getfield 54, 3) := by decide +kernel
theorem dX9_clear_30 : decode cX9_clear 30 = .ok (.iconst 0, 1) := by decide +kernel
theorem dX9_clear_31 : decode cX9_clear 31 = .ok (.putfield 202, 3) := by decide +kernel
theorem dX9_clear_34 : decode cX9_clear 34 = .ok (.aload_n 0, 1) := by decide +kernel
theorem dX9_clear_35 : decode cX9_clear 35 = .ok (.iconst 0, 1) := by decide +kernel
theorem dX9_clear_36 : decode cX9_clear 36 = .ok (.putfield 80, 3) := by decide +kernel
theorem dX9_clear_39 : decode cX9_clear 39 = .ok (.aload_n 0, 1) := by decide +kernel
theorem dX9_clear_40 : decode cX9_clear 40 = .ok (.getfield 61, 3) := by decide +kernel
theorem dX9_clear_43 : decode cX9_clear 43 = .ok (.iconst 0, 1) := by decide +kernel
theorem dX9_clear_44 : decode cX9_clear 44 = .ok (.putfield 203, 3) := by decide +kernel
theorem dX9_clear_47 : decode cX9_clear 47 = .ok (.aload_n 0, 1) := by decide +kernel
theorem dX9_clear_48 : decode cX9_clear 48 = .ok (.invokevirtual 126, 3) := by decide +kernel
theorem dX9_clear_51 : decode cX9_clear 51 = .ok (.iload_n 1, 1) := by decide +kernel
theorem dX9_clear_52 : decode cX9_clear 52 = .ok (.ireturn, 1) := by decide +kernel
theorem dX9_factors_0 : decode cX9_factors 0 = .ok (.iload_n 1, 1) := by decide +kernel
theorem dX9_factors_1 : decode cX9_factors 1 = .ok (.invokestatic 297, 3) := by decide +kernel
theorem dX9_factors_4 : decode cX9_factors 4 = .ok (.ifCond .eq 17, 3) := by decide +kernel
theorem dX9_factors_7 : decode cX9_factors 7 = .ok (.iload_n 2, 1) := by decide +kernel
theorem dX9_factors_8 : decode cX9_factors 8 = .ok (.invokestatic 297, 3) := by decide +kernel
theorem dX9_factors_11 : decode cX9_factors 11 = .ok (.ifCond .eq 10, 3) := by decide +kernel
theorem dX9_factors_14 : decode cX9_factors 14 = .ok (.iload_n 3, 1) := by decide +kernel
theorem dX9_factors_15 : decode cX9_factors 15 = .ok (.invokestatic 297, 3) := by decide +kernel
theorem dX9_factors_18 : decode cX9_factors 18 = .ok (.ifCond .ne 5, 3) := by decide +kernel
theorem dX9_factors_21 : decode cX9_factors 21 = .ok (.iconst 0, 1) := by decide +kernel
theorem dX9_factors_22 : decode cX9_factors 22 = .ok (.ireturn, 1) := by decide +kernel
theorem dX9_factors_23 : decode cX9_factors 23 = .ok (.aload_n 0, 1) := by decide +kernel
theorem dX9_factors_24 : decode cX9_factors 24 = .ok (.getfield 61, 3) := by decide +kernel
theorem dX9_factors_27 : decode cX9_factors 27 = .ok (.iload_n 1, 1) := by decide +kernel
theorem dX9_factors_28 : decode cX9_factors 28 = .ok (.putfield 300, 3) := by decide +kernel
theorem dX9_factors_31 : decode cX9_factors 31 = .ok (.aload_n 0, 1) := by decide +kernel
theorem dX9_factors_32 : decode cX9_factors 32 = .ok (.getfield 61, 3) := by decide +kernel
theorem dX9_factors_35 : decode cX9_factors 35 = .ok (.iload_n 2, 1) := by decide +kernel
theorem dX9_factors_36 : decode cX9_factors 36 = .ok (.putfield 303, 3) := by decide +kernel
theorem dX9_factors_39 : decode cX9_factors 39 = .ok (.aload_n 0, 1) := by decide +kernel
theorem dX9_factors_40 : decode cX9_factors 40 = .ok (.getfield 61, 3) := by decide +kernel
theorem dX9_factors_43 : decode cX9_factors 43 = .ok (.iload_n 3, 1) := by decide +kernel
theorem dX9_factors_44 : decode cX9_factors 44 = .ok (.putfield 306, 3) := by decide +kernel
theorem dX9_factors_47 : decode cX9_factors 47 = .ok (.iconst 1, 1) := by decide +kernel
theorem dX9_factors_48 : decode cX9_factors 48 = .ok (.ireturn, 1) := by decide +kernel
theorem dX3_copy_0 : decode cX3_copy 0 = .ok (.aload_n 0, 1) := by decide +kernel
theorem dX3_copy_1 : decode cX3_copy 1 = .ok (.aload_n 1, 1) := by decide +kernel
theorem dX3_copy_2 : decode cX3_copy 2 = .ok (.getfield 29, 3) := by decide +kernel
theorem dX3_copy_5 : decode cX3_copy 5 = .ok (.putfield 29, 3) := by decide +kernel
theorem dX3_copy_8 : decode cX3_copy 8 = .ok (.aload_n 1, 1) := by decide +kernel
theorem dX3_copy_9 : decode cX3_copy 9 = .ok (.getfield 9, 3) := by decide +kernel
theorem dX3_copy_12 : decode cX3_copy 12 = .ok (.iconst 0, 1) := by decide +kernel
theorem dX3_copy_13 : decode cX3_copy 13 = .ok (.aload_n 0, 1) := by decide +kernel
theorem dX3_copy_14 : decode cX3_copy 14 = .ok (.getfield 9, 3) := by decide +kernel
theorem dX3_copy_17 : decode cX3_copy 17 = .ok (.iconst 0, 1) := by decide +kernel
theorem dX3_copy_18 : decode cX3_copy 18 = .ok (.sipush 576, 3) := by decide +kernel
theorem dX3_copy_21 : decode cX3_copy 21 = .ok (.invokestatic 46, 3) := by decide +kernel
theorem dX3_copy_24 : decode cX3_copy 24 = .ok (.aload_n 1, 1) := by decide +kernel
theorem dX3_copy_25 : decode cX3_copy 25 = .ok (.getfield 15, 3) := by decide +kernel
theorem dX3_copy_28 : decode cX3_copy 28 = .ok (.iconst 0, 1) := by decide +kernel
theorem dX3_copy_29 : decode cX3_copy 29 = .ok (.aload_n 0, 1) := by decide +kernel
theorem dX3_copy_30 : decode cX3_copy 30 = .ok (.getfield 15, 3) := by decide +kernel
theorem dX3_copy_33 : decode cX3_copy 33 = .ok (.iconst 0, 1) := by decide +kernel
theorem dX3_copy_34 : decode cX3_copy 34 = .ok (.sipush 576, 3) := by decide +kernel
theorem dX3_copy_37 : decode cX3_copy 37 = .ok (.invokestatic 46, 3) := by decide +kernel
theorem dX3_copy_40 : decode cX3_copy 40 = .ok (.aload_n 1, 1) := by decide +kernel
theorem dX3_copy_41 : decode cX3_copy 41 = .ok (.getfield 19, 3) := by decide +kernel
theorem dX3_copy_44 : decode cX3_copy 44 = .ok (.iconst 0, 1) := by decide +kernel
theorem dX3_copy_45 : decode cX3_copy 45 = .ok (.aload_n 0, 1) := by decide +kernel
theorem dX3_copy_46 : decode cX3_copy 46 = .ok (.getfield 19, 3) := by decide +kernel
theorem dX3_copy_49 : decode cX3_copy 49 = .ok (.iconst 0, 1) := by decide +kernel
theorem dX3_copy_50 : decode cX3_copy 50 = .ok (.sipush 576, 3) := by decide +kernel
theorem dX3_copy_53 : decode cX3_copy 53 = .ok (.invokestatic 46, 3) := by decide +kernel
theorem dX3_copy_56 : decode cX3_copy 56 = .ok (.aload_n 1, 1) := by decide +kernel
theorem dX3_copy_57 : decode cX3_copy 57 = .ok (.getfield 22, 3) := by decide +kernel
theorem dX3_copy_60 : decode cX3_copy 60 = .ok (.iconst 0, 1) := by decide +kernel
theorem dX3_copy_61 : decode cX3_copy 61 = .ok (.aload_n 0, 1) := by decide +kernel
theorem dX3_copy_62 : decode cX3_copy 62 = .ok (.getfield 22, 3) := by decide +kernel
theorem dX3_copy_65 : decode cX3_copy 65 = .ok (.iconst 0, 1) := by decide +kernel
theorem dX3_copy_66 : decode cX3_copy 66 = .ok (.sipush 576, 3) := by decide +kernel
theorem dX3_copy_69 : decode cX3_copy 69 = .ok (.invokestatic 46, 3) := by decide +kernel
theorem dX3_copy_72 : decode cX3_copy 72 = .ok (.aload_n 0, 1) := by decide +kernel
theorem dX3_copy_73 : decode cX3_copy 73 = .ok (.invokevirtual 43, 3) := by decide +kernel
theorem dX3_copy_76 : decode cX3_copy 76 = .ok (.return_, 1) := by decide +kernel
theorem dX1_begin_0 : decode cX1_begin 0 = .ok (.aload_n 0, 1) := by decide +kernel
theorem dX1_begin_1 : decode cX1_begin 1 = .ok (.getfield 12, 3) := by decide +kernel
theorem dX1_begin_4 : decode cX1_begin 4 = .ok (.aload_n 1, 1) := by decide +kernel
theorem dX1_begin_5 : decode cX1_begin 5 = .ok (.invokevirtual 64, 3) := by decide +kernel
theorem dX1_begin_8 : decode cX1_begin 8 = .ok (.aload_n 0, 1) := by decide +kernel
theorem dX1_begin_9 : decode cX1_begin 9 = .ok (.getfield 52, 3) := by decide +kernel
theorem dX1_begin_12 : decode cX1_begin 12 = .ok (.iconst 0, 1) := by decide +kernel
theorem dX1_begin_13 : decode cX1_begin 13 = .ok (.invokestatic 68, 3) := by decide +kernel
theorem dX1_begin_16 : decode cX1_begin 16 = .ok (.aload_n 0, 1) := by decide +kernel
theorem dX1_begin_17 : decode cX1_begin 17 = .ok (.iconst 0, 1) := by decide +kernel
theorem dX1_begin_18 : decode cX1_begin 18 = .ok (.putfield 29, 3) := by decide +kernel
theorem dX1_begin_21 : decode cX1_begin 21 = .ok (.aload_n 0, 1) := by decide +kernel
theorem dX1_begin_22 : decode cX1_begin 22 = .ok (.iconst 0, 1) := by decide +kernel
theorem dX1_begin_23 : decode cX1_begin 23 = .ok (.putfield 33, 3) := by decide +kernel
theorem dX1_begin_26 : decode cX1_begin 26 = .ok (.aload_n 0, 1) := by decide +kernel
theorem dX1_begin_27 : decode cX1_begin 27 = .ok (.iconst 1, 1) := by decide +kernel
theorem dX1_begin_28 : decode cX1_begin 28 = .ok (.putfield 25, 3) := by decide +kernel
theorem dX1_begin_31 : decode cX1_begin 31 = .ok (.return_, 1) := by decide +kernel
theorem dX9_startPrepare_0 : decode cX9_startPrepare 0 = .ok (.aload_n 0, 1) := by decide +kernel
theorem dX9_startPrepare_1 : decode cX9_startPrepare 1 = .ok (.getfield 84, 3) := by decide +kernel
theorem dX9_startPrepare_4 : decode cX9_startPrepare 4 = .ok (.bipush 24, 2) := by decide +kernel
theorem dX9_startPrepare_6 : decode cX9_startPrepare 6 = .ok (.if_icmp .lt 14, 3) := by decide +kernel
theorem dX9_startPrepare_20 : decode cX9_startPrepare 20 = .ok (.aload_n 0, 1) := by decide +kernel
theorem dX9_startPrepare_21 : decode cX9_startPrepare 21 = .ok (.dup, 1) := by decide +kernel
theorem dX9_startPrepare_22 : decode cX9_startPrepare 22 = .ok (.getfield 84, 3) := by decide +kernel
theorem dX9_startPrepare_25 : decode cX9_startPrepare 25 = .ok (.iconst 1, 1) := by decide +kernel
theorem dX9_startPrepare_26 : decode cX9_startPrepare 26 = .ok (.iadd, 1) := by decide +kernel
theorem dX9_startPrepare_27 : decode cX9_startPrepare 27 = .ok (.putfield 84, 3) := by decide +kernel
theorem dX9_startPrepare_30 : decode cX9_startPrepare 30 = .ok (.aload_n 0, 1) := by decide +kernel
theorem dX9_startPrepare_31 : decode cX9_startPrepare 31 = .ok (.getfield 68, 3) := by decide +kernel
theorem dX9_startPrepare_34 : decode cX9_startPrepare 34 = .ok (.invokevirtual 404, 3) := by decide +kernel
theorem dX9_startPrepare_37 : decode cX9_startPrepare 37 = .ok (.aload_n 0, 1) := by decide +kernel
theorem dX9_startPrepare_38 : decode cX9_startPrepare 38 = .ok (.getfield 61, 3) := by decide +kernel
theorem dX9_startPrepare_41 : decode cX9_startPrepare 41 = .ok (.aload_n 0, 1) := by decide +kernel
theorem dX9_startPrepare_42 : decode cX9_startPrepare 42 = .ok (.getfield 21, 3) := by decide +kernel
theorem dX9_startPrepare_45 : decode cX9_startPrepare 45 = .ok (.getfield 206, 3) := by decide +kernel
theorem dX9_startPrepare_48 : decode cX9_startPrepare 48 = .ok (.invokevirtual 407, 3) := by decide +kernel
theorem dX9_startPrepare_51 : decode cX9_startPrepare 51 = .ok (.return_, 1) := by decide +kernel
theorem dX9_prepare_0 : decode cX9_prepare 0 = .ok (.aload_n 0, 1) := by decide +kernel
theorem dX9_prepare_1 : decode cX9_prepare 1 = .ok (.invokevirtual 309, 3) := by decide +kernel
theorem dX9_prepare_4 : decode cX9_prepare 4 = .ok (.iconst 0, 1) := by decide +kernel
theorem dX9_prepare_5 : decode cX9_prepare 5 = .ok (.istore_n 1, 1) := by decide +kernel
theorem dX9_prepare_6 : decode cX9_prepare 6 = .ok (.iload_n 1, 1) := by decide +kernel
theorem dX9_prepare_7 : decode cX9_prepare 7 = .ok (.aload_n 0, 1) := by decide +kernel
theorem dX9_prepare_8 : decode cX9_prepare 8 = .ok (.getfield 21, 3) := by decide +kernel
theorem dX9_prepare_11 : decode cX9_prepare 11 = .ok (.getfield 113, 3) := by decide +kernel
theorem dX9_prepare_14 : decode cX9_prepare 14 = .ok (.if_icmp .ge 23, 3) := by decide +kernel
theorem dX9_prepare_37 : decode cX9_prepare 37 = .ok (.aload_n 0, 1) := by decide +kernel
theorem dX9_prepare_38 : decode cX9_prepare 38 = .ok (.getfield 61, 3) := by decide +kernel
theorem dX9_prepare_41 : decode cX9_prepare 41 = .ok (.getfield 318, 3) := by decide +kernel
theorem dX9_prepare_44 : decode cX9_prepare 44 = .ok (.ireturn, 1) := by decide +kernel
theorem dX9_prepareTold_0 : decode cX9_prepareTold 0 = .ok (.aload_n 0, 1) := by decide +kernel
theorem dX9_prepareTold_1 : decode cX9_prepareTold 1 = .ok (.getfield 80, 3) := by decide +kernel
theorem dX9_prepareTold_4 : decode cX9_prepareTold 4 = .ok (.aload_n 0, 1) := by decide +kernel
theorem dX9_prepareTold_5 : decode cX9_prepareTold 5 = .ok (.getfield 21, 3) := by decide +kernel
theorem dX9_prepareTold_8 : decode cX9_prepareTold 8 = .ok (.getfield 113, 3) := by decide +kernel
theorem dX9_prepareTold_11 : decode cX9_prepareTold 11 = .ok (.if_icmp .eq 14, 3) := by decide +kernel
theorem dX9_prepareTold_25 : decode cX9_prepareTold 25 = .ok (.aload_n 0, 1) := by decide +kernel
theorem dX9_prepareTold_26 : decode cX9_prepareTold 26 = .ok (.invokevirtual 309, 3) := by decide +kernel
theorem dX9_prepareTold_29 : decode cX9_prepareTold 29 = .ok (.iconst 0, 1) := by decide +kernel
theorem dX9_prepareTold_30 : decode cX9_prepareTold 30 = .ok (.istore_n 1, 1) := by decide +kernel
theorem dX9_prepareTold_31 : decode cX9_prepareTold 31 = .ok (.iload_n 1, 1) := by decide +kernel
theorem dX9_prepareTold_32 : decode cX9_prepareTold 32 = .ok (.aload_n 0, 1) := by decide +kernel
theorem dX9_prepareTold_33 : decode cX9_prepareTold 33 = .ok (.getfield 80, 3) := by decide +kernel
theorem dX9_prepareTold_36 : decode cX9_prepareTold 36 = .ok (.if_icmp .ge 22, 3) := by decide +kernel
theorem dX9_prepareTold_58 : decode cX9_prepareTold 58 = .ok (.aload_n 0, 1) := by decide +kernel
theorem dX9_prepareTold_59 : decode cX9_prepareTold 59 = .ok (.iconst 0, 1) := by decide +kernel
theorem dX9_prepareTold_60 : decode cX9_prepareTold 60 = .ok (.putfield 80, 3) := by decide +kernel
theorem dX9_prepareTold_63 : decode cX9_prepareTold 63 = .ok (.aload_n 0, 1) := by decide +kernel
theorem dX9_prepareTold_64 : decode cX9_prepareTold 64 = .ok (.getfield 61, 3) := by decide +kernel
theorem dX9_prepareTold_67 : decode cX9_prepareTold 67 = .ok (.getfield 318, 3) := by decide +kernel
theorem dX9_prepareTold_70 : decode cX9_prepareTold 70 = .ok (.ireturn, 1) := by decide +kernel
theorem dX9_remake_0 : decode cX9_remake 0 = .ok (.aload_n 0, 1) := by decide +kernel
theorem dX9_remake_1 : decode cX9_remake 1 = .ok (.getfield 61, 3) := by decide +kernel
theorem dX9_remake_4 : decode cX9_remake 4 = .ok (.getfield 203, 3) := by decide +kernel
theorem dX9_remake_7 : decode cX9_remake 7 = .ok (.istore_n 1, 1) := by decide +kernel
theorem dX9_remake_8 : decode cX9_remake 8 = .ok (.aload_n 0, 1) := by decide +kernel
theorem dX9_remake_9 : decode cX9_remake 9 = .ok (.invokevirtual 309, 3) := by decide +kernel
theorem dX9_remake_12 : decode cX9_remake 12 = .ok (.iconst 0, 1) := by decide +kernel
theorem dX9_remake_13 : decode cX9_remake 13 = .ok (.istore_n 2, 1) := by decide +kernel
theorem dX9_remake_14 : decode cX9_remake 14 = .ok (.iload_n 2, 1) := by decide +kernel
theorem dX9_remake_15 : decode cX9_remake 15 = .ok (.aload_n 0, 1) := by decide +kernel
theorem dX9_remake_16 : decode cX9_remake 16 = .ok (.getfield 21, 3) := by decide +kernel
theorem dX9_remake_19 : decode cX9_remake 19 = .ok (.getfield 113, 3) := by decide +kernel
theorem dX9_remake_22 : decode cX9_remake 22 = .ok (.if_icmp .ge 34, 3) := by decide +kernel
theorem dX9_remake_56 : decode cX9_remake 56 = .ok (.aload_n 0, 1) := by decide +kernel
theorem dX9_remake_57 : decode cX9_remake 57 = .ok (.getfield 61, 3) := by decide +kernel
theorem dX9_remake_60 : decode cX9_remake 60 = .ok (.getfield 318, 3) := by decide +kernel
theorem dX9_remake_63 : decode cX9_remake 63 = .ok (.ireturn, 1) := by decide +kernel
