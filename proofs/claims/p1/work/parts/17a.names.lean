/-! the words and decode rows that the rows of the next part take -/
theorem b_55 : Cond.selects RX10 yX10_edgesOfArcs yX10_edgesOfArcs ∈ TB := tb_of 55 (by decide +kernel)
theorem b_88 : Cond.initialized RX10 ∈ TB := tb_of 88 (by decide +kernel)
theorem b_1314 : Cond.fieldLink RX10 1 "RoutePlannerModel" "thrown" "I" ∈ TB := tb_of 1314 (by decide +kernel)
theorem b_1315 : Cond.fieldLink RX10 191 "RoutePlannerModel" "nodes" "I" ∈ TB := tb_of 1315 (by decide +kernel)
theorem b_1319 : Cond.fieldLink RX10 194 "RoutePlannerModel" "arcs" "I" ∈ TB := tb_of 1319 (by decide +kernel)
theorem b_1328 : Cond.fieldLink RX10 365 "RoutePlannerModel" "prepares" "I" ∈ TB := tb_of 1328 (by decide +kernel)
theorem b_1330 : Cond.fieldLink RX10 211 "RoutePlannerModel" "taped" "I" ∈ TB := tb_of 1330 (by decide +kernel)
theorem b_1348 : Cond.fieldLink RX10 205 "RoutePlannerModel" "settledMany" "I" ∈ TB := tb_of 1348 (by decide +kernel)
theorem b_1359 : Cond.fieldLink RX10 201 "RoutePlannerModel" "ready" "Z" ∈ TB := tb_of 1359 (by decide +kernel)
theorem b_1374 : Cond.fieldLink RX10 208 "RoutePlannerModel" "queried" "Z" ∈ TB := tb_of 1374 (by decide +kernel)
theorem b_1682 : Cond.methodLink RX10 317 yX10_edgesOfArcs ∈ TB := tb_of 1682 (by decide +kernel)
theorem b_1684 : Cond.instanceMethod yX10_edgesOfArcs ∈ TB := tb_of 1684 (by decide +kernel)
theorem b_1685 : Cond.code yX10_edgesOfArcs cX10_edgesOfArcs 3 none ∈ TB := tb_of 1685 (by decide +kernel)
theorem hd_X10_edgesOfArcs : k_hd yX10_edgesOfArcs 0 := by decide +kernel
theorem dX10_thrown_0 : decode cX10_thrown 0 = .ok (.aload_n 0, 1) := by decide +kernel
theorem dX10_thrown_1 : decode cX10_thrown 1 = .ok (.getfield 1, 3) := by decide +kernel
theorem dX10_thrown_4 : decode cX10_thrown 4 = .ok (.ireturn, 1) := by decide +kernel
theorem dX10_size_0 : decode cX10_size 0 = .ok (.lload_n 0, 1) := by decide +kernel
theorem dX10_size_1 : decode cX10_size 1 = .ok (.lconst 0, 1) := by decide +kernel
theorem dX10_size_2 : decode cX10_size 2 = .ok (.lcmp, 1) := by decide +kernel
theorem dX10_size_3 : decode cX10_size 3 = .ok (.ifCond .ge 8, 3) := by decide +kernel
theorem dX10_size_6 : decode cX10_size 6 = .ok (.lload_n 0, 1) := by decide +kernel
theorem dX10_size_7 : decode cX10_size 7 = .ok (.lneg, 1) := by decide +kernel
theorem dX10_size_8 : decode cX10_size 8 = .ok (.goto 4, 3) := by decide +kernel
theorem dX10_size_11 : decode cX10_size 11 = .ok (.lload_n 0, 1) := by decide +kernel
theorem dX10_size_12 : decode cX10_size 12 = .ok (.lreturn, 1) := by decide +kernel
theorem dX10_isNode_0 : decode cX10_isNode 0 = .ok (.iload_n 1, 1) := by decide +kernel
theorem dX10_isNode_1 : decode cX10_isNode 1 = .ok (.ifCond .lt 15, 3) := by decide +kernel
theorem dX10_isNode_4 : decode cX10_isNode 4 = .ok (.iload_n 1, 1) := by decide +kernel
theorem dX10_isNode_5 : decode cX10_isNode 5 = .ok (.aload_n 0, 1) := by decide +kernel
theorem dX10_isNode_6 : decode cX10_isNode 6 = .ok (.getfield 191, 3) := by decide +kernel
theorem dX10_isNode_9 : decode cX10_isNode 9 = .ok (.if_icmp .ge 7, 3) := by decide +kernel
theorem dX10_isNode_16 : decode cX10_isNode 16 = .ok (.iconst 0, 1) := by decide +kernel
theorem dX10_isNode_17 : decode cX10_isNode 17 = .ok (.ireturn, 1) := by decide +kernel
theorem dX10_isArc_0 : decode cX10_isArc 0 = .ok (.iload_n 1, 1) := by decide +kernel
theorem dX10_isArc_1 : decode cX10_isArc 1 = .ok (.ifCond .lt 15, 3) := by decide +kernel
theorem dX10_isArc_4 : decode cX10_isArc 4 = .ok (.iload_n 1, 1) := by decide +kernel
theorem dX10_isArc_5 : decode cX10_isArc 5 = .ok (.aload_n 0, 1) := by decide +kernel
theorem dX10_isArc_6 : decode cX10_isArc 6 = .ok (.getfield 194, 3) := by decide +kernel
theorem dX10_isArc_9 : decode cX10_isArc 9 = .ok (.if_icmp .ge 7, 3) := by decide +kernel
theorem dX10_isArc_16 : decode cX10_isArc 16 = .ok (.iconst 0, 1) := by decide +kernel
theorem dX10_isArc_17 : decode cX10_isArc 17 = .ok (.ireturn, 1) := by decide +kernel
theorem dX10_isSettled_0 : decode cX10_isSettled 0 = .ok (.iload_n 1, 1) := by decide +kernel
theorem dX10_isSettled_1 : decode cX10_isSettled 1 = .ok (.ifCond .lt 15, 3) := by decide +kernel
theorem dX10_isSettled_4 : decode cX10_isSettled 4 = .ok (.iload_n 1, 1) := by decide +kernel
theorem dX10_isSettled_5 : decode cX10_isSettled 5 = .ok (.aload_n 0, 1) := by decide +kernel
theorem dX10_isSettled_6 : decode cX10_isSettled 6 = .ok (.getfield 205, 3) := by decide +kernel
theorem dX10_isSettled_9 : decode cX10_isSettled 9 = .ok (.if_icmp .ge 7, 3) := by decide +kernel
theorem dX10_isSettled_16 : decode cX10_isSettled 16 = .ok (.iconst 0, 1) := by decide +kernel
theorem dX10_isSettled_17 : decode cX10_isSettled 17 = .ok (.ireturn, 1) := by decide +kernel
theorem dX10_together_0 : decode cX10_together 0 = .ok (.lconst 0, 1) := by decide +kernel
theorem dX10_together_1 : decode cX10_together 1 = .ok (.lstore_n 1, 1) := by decide +kernel
theorem dX10_together_2 : decode cX10_together 2 = .ok (.iconst 0, 1) := by decide +kernel
theorem dX10_together_3 : decode cX10_together 3 = .ok (.istore_n 3, 1) := by decide +kernel
theorem dX10_together_4 : decode cX10_together 4 = .ok (.iload_n 3, 1) := by decide +kernel
theorem dX10_together_5 : decode cX10_together 5 = .ok (.aload_n 0, 1) := by decide +kernel
theorem dX10_together_6 : decode cX10_together 6 = .ok (.getfield 194, 3) := by decide +kernel
theorem dX10_together_9 : decode cX10_together 9 = .ok (.if_icmp .ge 18, 3) := by decide +kernel
theorem dX10_together_27 : decode cX10_together 27 = .ok (.iconst 0, 1) := by decide +kernel
theorem dX10_together_28 : decode cX10_together 28 = .ok (.istore_n 3, 1) := by decide +kernel
theorem dX10_together_29 : decode cX10_together 29 = .ok (.iload_n 3, 1) := by decide +kernel
theorem dX10_together_30 : decode cX10_together 30 = .ok (.aload_n 0, 1) := by decide +kernel
theorem dX10_together_31 : decode cX10_together 31 = .ok (.getfield 191, 3) := by decide +kernel
theorem dX10_together_34 : decode cX10_together 34 = .ok (.if_icmp .ge 21, 3) := by decide +kernel
theorem dX10_together_55 : decode cX10_together 55 = .ok (.lload_n 1, 1) := by decide +kernel
theorem dX10_together_56 : decode cX10_together 56 = .ok (.lreturn, 1) := by decide +kernel
theorem dX10_inconsistentArc_0 : decode cX10_inconsistentArc 0 = .ok (.iconst 0, 1) := by decide +kernel
theorem dX10_inconsistentArc_1 : decode cX10_inconsistentArc 1 = .ok (.istore_n 1, 1) := by decide +kernel
theorem dX10_inconsistentArc_2 : decode cX10_inconsistentArc 2 = .ok (.iload_n 1, 1) := by decide +kernel
theorem dX10_inconsistentArc_3 : decode cX10_inconsistentArc 3 = .ok (.aload_n 0, 1) := by decide +kernel
theorem dX10_inconsistentArc_4 : decode cX10_inconsistentArc 4 = .ok (.getfield 194, 3) := by decide +kernel
theorem dX10_inconsistentArc_7 : decode cX10_inconsistentArc 7 = .ok (.if_icmp .ge 44, 3) := by decide +kernel
theorem dX10_inconsistentArc_51 : decode cX10_inconsistentArc 51 = .ok (.iconst (-1), 1) := by decide +kernel
theorem dX10_inconsistentArc_52 : decode cX10_inconsistentArc 52 = .ok (.ireturn, 1) := by decide +kernel
theorem dX10_edgeAt_0 : decode cX10_edgeAt 0 = .ok (.aload_n 0, 1) := by decide +kernel
theorem dX10_edgeAt_1 : decode cX10_edgeAt 1 = .ok (.getfield 201, 3) := by decide +kernel
theorem dX10_edgeAt_4 : decode cX10_edgeAt 4 = .ok (.ifCond .eq 15, 3) := by decide +kernel
theorem dX10_edgeAt_19 : decode cX10_edgeAt 19 = .ok (.iconst (-1), 1) := by decide +kernel
theorem dX10_edgeAt_20 : decode cX10_edgeAt 20 = .ok (.ireturn, 1) := by decide +kernel
theorem dX10_throwsNow_0 : decode cX10_throwsNow 0 = .ok (.aload_n 0, 1) := by decide +kernel
theorem dX10_throwsNow_1 : decode cX10_throwsNow 1 = .ok (.iload_n 1, 1) := by decide +kernel
theorem dX10_throwsNow_2 : decode cX10_throwsNow 2 = .ok (.putfield 1, 3) := by decide +kernel
theorem dX10_throwsNow_5 : decode cX10_throwsNow 5 = .ok (.iconst 0, 1) := by decide +kernel
theorem dX10_throwsNow_6 : decode cX10_throwsNow 6 = .ok (.ireturn, 1) := by decide +kernel
theorem dX10_changes_0 : decode cX10_changes 0 = .ok (.aload_n 0, 1) := by decide +kernel
theorem dX10_changes_1 : decode cX10_changes 1 = .ok (.iconst 0, 1) := by decide +kernel
theorem dX10_changes_2 : decode cX10_changes 2 = .ok (.putfield 201, 3) := by decide +kernel
theorem dX10_changes_5 : decode cX10_changes 5 = .ok (.aload_n 0, 1) := by decide +kernel
theorem dX10_changes_6 : decode cX10_changes 6 = .ok (.iconst 0, 1) := by decide +kernel
theorem dX10_changes_7 : decode cX10_changes 7 = .ok (.putfield 205, 3) := by decide +kernel
theorem dX10_changes_10 : decode cX10_changes 10 = .ok (.aload_n 0, 1) := by decide +kernel
theorem dX10_changes_11 : decode cX10_changes 11 = .ok (.iconst 0, 1) := by decide +kernel
theorem dX10_changes_12 : decode cX10_changes 12 = .ok (.putfield 208, 3) := by decide +kernel
theorem dX10_changes_15 : decode cX10_changes 15 = .ok (.return_, 1) := by decide +kernel
theorem dX10_four_0 : decode cX10_four 0 = .ok (.bipush 24, 2) := by decide +kernel
theorem dX10_four_2 : decode cX10_four 2 = .ok (.istore_n 2, 1) := by decide +kernel
theorem dX10_four_3 : decode cX10_four 3 = .ok (.iload_n 2, 1) := by decide +kernel
theorem dX10_four_4 : decode cX10_four 4 = .ok (.ifCond .lt 32, 3) := by decide +kernel
theorem dX10_four_7 : decode cX10_four 7 = .ok (.aload_n 0, 1) := by decide +kernel
theorem dX10_four_8 : decode cX10_four 8 = .ok (.getfield 42, 3) := by decide +kernel
theorem dX10_four_11 : decode cX10_four 11 = .ok (.aload_n 0, 1) := by decide +kernel
theorem dX10_four_12 : decode cX10_four 12 = .ok (.getfield 211, 3) := by decide +kernel
theorem dX10_four_15 : decode cX10_four 15 = .ok (.iload_n 1, 1) := by decide +kernel
theorem dX10_four_16 : decode cX10_four 16 = .ok (.iload_n 2, 1) := by decide +kernel
theorem dX10_four_17 : decode cX10_four 17 = .ok (.ishr, 1) := by decide +kernel
theorem dX10_four_18 : decode cX10_four 18 = .ok (.i2b, 1) := by decide +kernel
theorem dX10_four_19 : decode cX10_four 19 = .ok (.bastore, 1) := by decide +kernel
theorem dX10_four_20 : decode cX10_four 20 = .ok (.aload_n 0, 1) := by decide +kernel
theorem dX10_four_21 : decode cX10_four 21 = .ok (.dup, 1) := by decide +kernel
theorem dX10_four_22 : decode cX10_four 22 = .ok (.getfield 211, 3) := by decide +kernel
theorem dX10_four_25 : decode cX10_four 25 = .ok (.iconst 1, 1) := by decide +kernel
theorem dX10_four_26 : decode cX10_four 26 = .ok (.iadd, 1) := by decide +kernel
theorem dX10_four_27 : decode cX10_four 27 = .ok (.putfield 211, 3) := by decide +kernel
theorem dX10_four_30 : decode cX10_four 30 = .ok (.iinc 2 (-8), 3) := by decide +kernel
theorem dX10_four_33 : decode cX10_four 33 = .ok (.goto (-30), 3) := by decide +kernel
theorem dX10_four_36 : decode cX10_four 36 = .ok (.return_, 1) := by decide +kernel
theorem dX10_comes_0 : decode cX10_comes 0 = .ok (.aload_n 0, 1) := by decide +kernel
theorem dX10_comes_1 : decode cX10_comes 1 = .ok (.getfield 13, 3) := by decide +kernel
theorem dX10_comes_4 : decode cX10_comes 4 = .ok (.aload_n 0, 1) := by decide +kernel
theorem dX10_comes_5 : decode cX10_comes 5 = .ok (.getfield 191, 3) := by decide +kernel
theorem dX10_comes_8 : decode cX10_comes 8 = .ok (.iload_n 1, 1) := by decide +kernel
theorem dX10_comes_9 : decode cX10_comes 9 = .ok (.iastore, 1) := by decide +kernel
theorem dX10_comes_10 : decode cX10_comes 10 = .ok (.aload_n 0, 1) := by decide +kernel
theorem dX10_comes_11 : decode cX10_comes 11 = .ok (.getfield 17, 3) := by decide +kernel
theorem dX10_comes_14 : decode cX10_comes 14 = .ok (.aload_n 0, 1) := by decide +kernel
theorem dX10_comes_15 : decode cX10_comes 15 = .ok (.getfield 191, 3) := by decide +kernel
theorem dX10_comes_18 : decode cX10_comes 18 = .ok (.iload_n 2, 1) := by decide +kernel
theorem dX10_comes_19 : decode cX10_comes 19 = .ok (.iastore, 1) := by decide +kernel
theorem dX10_comes_20 : decode cX10_comes 20 = .ok (.aload_n 0, 1) := by decide +kernel
theorem dX10_comes_21 : decode cX10_comes 21 = .ok (.getfield 20, 3) := by decide +kernel
theorem dX10_comes_24 : decode cX10_comes 24 = .ok (.aload_n 0, 1) := by decide +kernel
theorem dX10_comes_25 : decode cX10_comes 25 = .ok (.getfield 191, 3) := by decide +kernel
theorem dX10_comes_28 : decode cX10_comes 28 = .ok (.lconst 0, 1) := by decide +kernel
theorem dX10_comes_29 : decode cX10_comes 29 = .ok (.lastore, 1) := by decide +kernel
theorem dX10_comes_30 : decode cX10_comes 30 = .ok (.aload_n 0, 1) := by decide +kernel
theorem dX10_comes_31 : decode cX10_comes 31 = .ok (.getfield 113, 3) := by decide +kernel
theorem dX10_comes_34 : decode cX10_comes 34 = .ok (.aload_n 0, 1) := by decide +kernel
theorem dX10_comes_35 : decode cX10_comes 35 = .ok (.getfield 191, 3) := by decide +kernel
theorem dX10_comes_38 : decode cX10_comes 38 = .ok (.iconst (-1), 1) := by decide +kernel
theorem dX10_comes_39 : decode cX10_comes 39 = .ok (.iastore, 1) := by decide +kernel
theorem dX10_comes_40 : decode cX10_comes 40 = .ok (.aload_n 0, 1) := by decide +kernel
theorem dX10_comes_41 : decode cX10_comes 41 = .ok (.dup, 1) := by decide +kernel
theorem dX10_comes_42 : decode cX10_comes 42 = .ok (.getfield 191, 3) := by decide +kernel
theorem dX10_comes_45 : decode cX10_comes 45 = .ok (.iconst 1, 1) := by decide +kernel
theorem dX10_comes_46 : decode cX10_comes 46 = .ok (.iadd, 1) := by decide +kernel
theorem dX10_comes_47 : decode cX10_comes 47 = .ok (.putfield 191, 3) := by decide +kernel
theorem dX10_comes_50 : decode cX10_comes 50 = .ok (.return_, 1) := by decide +kernel
theorem dX10_edgesOfArcs_0 : decode cX10_edgesOfArcs 0 = .ok (.iconst 0, 1) := by decide +kernel
theorem dX10_edgesOfArcs_1 : decode cX10_edgesOfArcs 1 = .ok (.istore_n 1, 1) := by decide +kernel
theorem dX10_edgesOfArcs_2 : decode cX10_edgesOfArcs 2 = .ok (.iload_n 1, 1) := by decide +kernel
theorem dX10_edgesOfArcs_3 : decode cX10_edgesOfArcs 3 = .ok (.sipush 1296, 3) := by decide +kernel
theorem dX10_edgesOfArcs_6 : decode cX10_edgesOfArcs 6 = .ok (.if_icmp .ge 16, 3) := by decide +kernel
theorem dX10_edgesOfArcs_9 : decode cX10_edgesOfArcs 9 = .ok (.aload_n 0, 1) := by decide +kernel
theorem dX10_edgesOfArcs_10 : decode cX10_edgesOfArcs 10 = .ok (.getfield 49, 3) := by decide +kernel
theorem dX10_edgesOfArcs_13 : decode cX10_edgesOfArcs 13 = .ok (.iload_n 1, 1) := by decide +kernel
theorem dX10_edgesOfArcs_14 : decode cX10_edgesOfArcs 14 = .ok (.iconst 0, 1) := by decide +kernel
theorem dX10_edgesOfArcs_15 : decode cX10_edgesOfArcs 15 = .ok (.bastore, 1) := by decide +kernel
theorem dX10_edgesOfArcs_16 : decode cX10_edgesOfArcs 16 = .ok (.iinc 1 1, 3) := by decide +kernel
theorem dX10_edgesOfArcs_19 : decode cX10_edgesOfArcs 19 = .ok (.goto (-17), 3) := by decide +kernel
theorem dX10_edgesOfArcs_22 : decode cX10_edgesOfArcs 22 = .ok (.iconst 0, 1) := by decide +kernel
theorem dX10_edgesOfArcs_23 : decode cX10_edgesOfArcs 23 = .ok (.istore_n 1, 1) := by decide +kernel
theorem dX10_edgesOfArcs_24 : decode cX10_edgesOfArcs 24 = .ok (.iload_n 1, 1) := by decide +kernel
theorem dX10_edgesOfArcs_25 : decode cX10_edgesOfArcs 25 = .ok (.aload_n 0, 1) := by decide +kernel
theorem dX10_edgesOfArcs_26 : decode cX10_edgesOfArcs 26 = .ok (.getfield 194, 3) := by decide +kernel
theorem dX10_edgesOfArcs_29 : decode cX10_edgesOfArcs 29 = .ok (.if_icmp .ge 109, 3) := by decide +kernel
theorem dX10_edgesOfArcs_138 : decode cX10_edgesOfArcs 138 = .ok (.return_, 1) := by decide +kernel
theorem dX10_begins_0 : decode cX10_begins 0 = .ok (.aload_n 0, 1) := by decide +kernel
theorem dX10_begins_1 : decode cX10_begins 1 = .ok (.dup, 1) := by decide +kernel
theorem dX10_begins_2 : decode cX10_begins 2 = .ok (.getfield 365, 3) := by decide +kernel
theorem dX10_begins_5 : decode cX10_begins 5 = .ok (.iconst 1, 1) := by decide +kernel
theorem dX10_begins_6 : decode cX10_begins 6 = .ok (.iadd, 1) := by decide +kernel
theorem dX10_begins_7 : decode cX10_begins 7 = .ok (.putfield 365, 3) := by decide +kernel
theorem dX10_begins_10 : decode cX10_begins 10 = .ok (.aload_n 0, 1) := by decide +kernel
theorem dX10_begins_11 : decode cX10_begins 11 = .ok (.iconst 0, 1) := by decide +kernel
theorem dX10_begins_12 : decode cX10_begins 12 = .ok (.putfield 208, 3) := by decide +kernel
theorem dX10_begins_15 : decode cX10_begins 15 = .ok (.aload_n 0, 1) := by decide +kernel
theorem dX10_begins_16 : decode cX10_begins 16 = .ok (.invokevirtual 317, 3) := by decide +kernel
theorem dX10_begins_19 : decode cX10_begins 19 = .ok (.iconst 0, 1) := by decide +kernel
theorem dX10_begins_20 : decode cX10_begins 20 = .ok (.istore_n 1, 1) := by decide +kernel
theorem dX10_begins_21 : decode cX10_begins 21 = .ok (.iload_n 1, 1) := by decide +kernel
theorem dX10_begins_22 : decode cX10_begins 22 = .ok (.aload_n 0, 1) := by decide +kernel
theorem dX10_begins_23 : decode cX10_begins 23 = .ok (.getfield 191, 3) := by decide +kernel
theorem dX10_begins_26 : decode cX10_begins 26 = .ok (.if_icmp .ge 16, 3) := by decide +kernel
theorem dX10_begins_42 : decode cX10_begins 42 = .ok (.iconst 0, 1) := by decide +kernel
theorem dX10_begins_43 : decode cX10_begins 43 = .ok (.istore_n 1, 1) := by decide +kernel
theorem dX10_begins_44 : decode cX10_begins 44 = .ok (.iload_n 1, 1) := by decide +kernel
theorem dX10_begins_45 : decode cX10_begins 45 = .ok (.sipush 1296, 3) := by decide +kernel
theorem dX10_begins_48 : decode cX10_begins 48 = .ok (.if_icmp .ge 23, 3) := by decide +kernel
theorem dX10_begins_51 : decode cX10_begins 51 = .ok (.aload_n 0, 1) := by decide +kernel
theorem dX10_begins_52 : decode cX10_begins 52 = .ok (.getfield 119, 3) := by decide +kernel
theorem dX10_begins_55 : decode cX10_begins 55 = .ok (.iload_n 1, 1) := by decide +kernel
theorem dX10_begins_56 : decode cX10_begins 56 = .ok (.iconst 0, 1) := by decide +kernel
theorem dX10_begins_57 : decode cX10_begins 57 = .ok (.bastore, 1) := by decide +kernel
theorem dX10_begins_58 : decode cX10_begins 58 = .ok (.aload_n 0, 1) := by decide +kernel
theorem dX10_begins_59 : decode cX10_begins 59 = .ok (.getfield 134, 3) := by decide +kernel
theorem dX10_begins_62 : decode cX10_begins 62 = .ok (.iload_n 1, 1) := by decide +kernel
theorem dX10_begins_63 : decode cX10_begins 63 = .ok (.iconst 0, 1) := by decide +kernel
theorem dX10_begins_64 : decode cX10_begins 64 = .ok (.bastore, 1) := by decide +kernel
theorem dX10_begins_65 : decode cX10_begins 65 = .ok (.iinc 1 1, 3) := by decide +kernel
theorem dX10_begins_68 : decode cX10_begins 68 = .ok (.goto (-24), 3) := by decide +kernel
theorem dX10_begins_71 : decode cX10_begins 71 = .ok (.return_, 1) := by decide +kernel
theorem dX10_ends_0 : decode cX10_ends 0 = .ok (.aload_n 0, 1) := by decide +kernel
theorem dX10_ends_1 : decode cX10_ends 1 = .ok (.iconst 1, 1) := by decide +kernel
theorem dX10_ends_2 : decode cX10_ends 2 = .ok (.putfield 201, 3) := by decide +kernel
theorem dX10_ends_5 : decode cX10_ends 5 = .ok (.iconst 0, 1) := by decide +kernel
theorem dX10_ends_6 : decode cX10_ends 6 = .ok (.istore_n 2, 1) := by decide +kernel
theorem dX10_ends_7 : decode cX10_ends 7 = .ok (.iload_n 2, 1) := by decide +kernel
theorem dX10_ends_8 : decode cX10_ends 8 = .ok (.aload_n 0, 1) := by decide +kernel
theorem dX10_ends_9 : decode cX10_ends 9 = .ok (.getfield 191, 3) := by decide +kernel
theorem dX10_ends_12 : decode cX10_ends 12 = .ok (.if_icmp .ge 21, 3) := by decide +kernel
theorem dX10_ends_33 : decode cX10_ends 33 = .ok (.iload_n 1, 1) := by decide +kernel
theorem dX10_ends_34 : decode cX10_ends 34 = .ok (.ireturn, 1) := by decide +kernel
