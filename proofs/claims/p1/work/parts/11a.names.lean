/-! the words and decode rows that the rows of the next part take -/
theorem b_19 : Cond.selects RX9 yX9_needNode yX9_needNode ∈ TB := tb_of 19 (by decide +kernel)
theorem b_78 : Cond.initialized RX9 ∈ TB := tb_of 78 (by decide +kernel)
theorem b_80 : Cond.initialized RX0 ∈ TB := tb_of 80 (by decide +kernel)
theorem b_195 : Cond.fieldLink RX0 38 "RoutePlanner$Graph" "nodes" "I" ∈ TB := tb_of 195 (by decide +kernel)
theorem b_198 : Cond.fieldLink RX0 42 "RoutePlanner$Graph" "arcs" "I" ∈ TB := tb_of 198 (by decide +kernel)
theorem b_482 : Cond.fieldLink RX9 21 "RoutePlanner" "graph" "LRoutePlanner$Graph;" ∈ TB := tb_of 482 (by decide +kernel)
theorem b_678 : Cond.methodLink RX9 162 yX0_hasArc ∈ TB := tb_of 678 (by decide +kernel)
theorem b_679 : Cond.instanceMethod yX0_hasArc ∈ TB := tb_of 679 (by decide +kernel)
theorem b_680 : Cond.selects RX0 yX0_hasArc yX0_hasArc ∈ TB := tb_of 680 (by decide +kernel)
theorem b_681 : Cond.code yX0_hasArc cX0_hasArc 2 (some .boolean) ∈ TB := tb_of 681 (by decide +kernel)
theorem b_682 : Cond.methodLink RX9 180 yX0_hasNode ∈ TB := tb_of 682 (by decide +kernel)
theorem b_683 : Cond.instanceMethod yX0_hasNode ∈ TB := tb_of 683 (by decide +kernel)
theorem b_684 : Cond.selects RX0 yX0_hasNode yX0_hasNode ∈ TB := tb_of 684 (by decide +kernel)
theorem b_685 : Cond.code yX0_hasNode cX0_hasNode 2 (some .boolean) ∈ TB := tb_of 685 (by decide +kernel)
theorem b_979 : Cond.methodLink RX9 146 yX9_needNode ∈ TB := tb_of 979 (by decide +kernel)
theorem b_981 : Cond.instanceMethod yX9_needNode ∈ TB := tb_of 981 (by decide +kernel)
theorem b_982 : Cond.code yX9_needNode cX9_needNode 2 none ∈ TB := tb_of 982 (by decide +kernel)
theorem hd_X0_hasNode : k_hd yX0_hasNode 1 := by decide +kernel
theorem hd_X9_needNode : k_hd yX9_needNode 1 := by decide +kernel
theorem hd_X0_hasArc : k_hd yX0_hasArc 1 := by decide +kernel
theorem dX0_hasNode_0 : decode cX0_hasNode 0 = .ok (.iload_n 1, 1) := by decide +kernel
theorem dX0_hasNode_1 : decode cX0_hasNode 1 = .ok (.ifCond .lt 15, 3) := by decide +kernel
theorem dX0_hasNode_4 : decode cX0_hasNode 4 = .ok (.iload_n 1, 1) := by decide +kernel
theorem dX0_hasNode_5 : decode cX0_hasNode 5 = .ok (.aload_n 0, 1) := by decide +kernel
theorem dX0_hasNode_6 : decode cX0_hasNode 6 = .ok (.getfield 38, 3) := by decide +kernel
theorem dX0_hasNode_9 : decode cX0_hasNode 9 = .ok (.if_icmp .ge 7, 3) := by decide +kernel
theorem dX0_hasNode_16 : decode cX0_hasNode 16 = .ok (.iconst 0, 1) := by decide +kernel
theorem dX0_hasNode_17 : decode cX0_hasNode 17 = .ok (.ireturn, 1) := by decide +kernel
theorem dX0_hasArc_0 : decode cX0_hasArc 0 = .ok (.iload_n 1, 1) := by decide +kernel
theorem dX0_hasArc_1 : decode cX0_hasArc 1 = .ok (.ifCond .lt 15, 3) := by decide +kernel
theorem dX0_hasArc_4 : decode cX0_hasArc 4 = .ok (.iload_n 1, 1) := by decide +kernel
theorem dX0_hasArc_5 : decode cX0_hasArc 5 = .ok (.aload_n 0, 1) := by decide +kernel
theorem dX0_hasArc_6 : decode cX0_hasArc 6 = .ok (.getfield 42, 3) := by decide +kernel
theorem dX0_hasArc_9 : decode cX0_hasArc 9 = .ok (.if_icmp .ge 7, 3) := by decide +kernel
theorem dX0_hasArc_16 : decode cX0_hasArc 16 = .ok (.iconst 0, 1) := by decide +kernel
theorem dX0_hasArc_17 : decode cX0_hasArc 17 = .ok (.ireturn, 1) := by decide +kernel
theorem dX9_needNode_0 : decode cX9_needNode 0 = .ok (.aload_n 0, 1) := by decide +kernel
theorem dX9_needNode_1 : decode cX9_needNode 1 = .ok (.getfield 21, 3) := by decide +kernel
theorem dX9_needNode_4 : decode cX9_needNode 4 = .ok (.iload_n 1, 1) := by decide +kernel
theorem dX9_needNode_5 : decode cX9_needNode 5 = .ok (.invokevirtual 180, 3) := by decide +kernel
theorem dX9_needNode_8 : decode cX9_needNode 8 = .ok (.ifCond .ne 14, 3) := by decide +kernel
theorem dX9_needNode_11 : decode cX9_needNode 11 = .ok (.new 166, 3) := by decide +kernel
theorem dX9_needNode_14 : decode cX9_needNode 14 = .ok (.dup, 1) := by decide +kernel
theorem dX9_needNode_15 : decode cX9_needNode 15 = .ok (.ldc_w 388, 3) := by decide +kernel
theorem dX9_needNode_18 : decode cX9_needNode 18 = .ok (.invokespecial 170, 3) := by decide +kernel
theorem dX9_needNode_21 : decode cX9_needNode 21 = .ok (.athrow, 1) := by decide +kernel
theorem dX9_search_0 : decode cX9_search 0 = .ok (.aload_n 0, 1) := by decide +kernel
theorem dX9_search_1 : decode cX9_search 1 = .ok (.iload_n 1, 1) := by decide +kernel
theorem dX9_search_2 : decode cX9_search 2 = .ok (.invokevirtual 146, 3) := by decide +kernel
theorem dX9_goal_0 : decode cX9_goal 0 = .ok (.aload_n 0, 1) := by decide +kernel
theorem dX9_goal_1 : decode cX9_goal 1 = .ok (.iload_n 1, 1) := by decide +kernel
theorem dX9_goal_2 : decode cX9_goal 2 = .ok (.invokevirtual 146, 3) := by decide +kernel
theorem dX9_both_0 : decode cX9_both 0 = .ok (.aload_n 0, 1) := by decide +kernel
theorem dX9_both_1 : decode cX9_both 1 = .ok (.iload_n 1, 1) := by decide +kernel
theorem dX9_both_2 : decode cX9_both 2 = .ok (.invokevirtual 146, 3) := by decide +kernel
theorem dX9_landmarked_0 : decode cX9_landmarked 0 = .ok (.aload_n 0, 1) := by decide +kernel
theorem dX9_landmarked_1 : decode cX9_landmarked 1 = .ok (.iload_n 1, 1) := by decide +kernel
theorem dX9_landmarked_2 : decode cX9_landmarked 2 = .ok (.invokevirtual 146, 3) := by decide +kernel
theorem dX9_straight_0 : decode cX9_straight 0 = .ok (.aload_n 0, 1) := by decide +kernel
theorem dX9_straight_1 : decode cX9_straight 1 = .ok (.iload_n 1, 1) := by decide +kernel
theorem dX9_straight_2 : decode cX9_straight 2 = .ok (.invokevirtual 146, 3) := by decide +kernel
theorem dX9_landmark_0 : decode cX9_landmark 0 = .ok (.aload_n 0, 1) := by decide +kernel
theorem dX9_landmark_1 : decode cX9_landmark 1 = .ok (.iload_n 1, 1) := by decide +kernel
theorem dX9_landmark_2 : decode cX9_landmark 2 = .ok (.invokevirtual 146, 3) := by decide +kernel
theorem dX9_order_0 : decode cX9_order 0 = .ok (.aload_n 0, 1) := by decide +kernel
theorem dX9_order_1 : decode cX9_order 1 = .ok (.iload_n 1, 1) := by decide +kernel
theorem dX9_order_2 : decode cX9_order 2 = .ok (.invokevirtual 146, 3) := by decide +kernel
theorem dX9_query_0 : decode cX9_query 0 = .ok (.aload_n 0, 1) := by decide +kernel
theorem dX9_query_1 : decode cX9_query 1 = .ok (.iload_n 1, 1) := by decide +kernel
theorem dX9_query_2 : decode cX9_query 2 = .ok (.invokevirtual 146, 3) := by decide +kernel
theorem dX9_arc_0 : decode cX9_arc 0 = .ok (.aload_n 0, 1) := by decide +kernel
theorem dX9_arc_1 : decode cX9_arc 1 = .ok (.iload_n 1, 1) := by decide +kernel
theorem dX9_arc_2 : decode cX9_arc 2 = .ok (.invokevirtual 146, 3) := by decide +kernel
theorem dX9_potential_0 : decode cX9_potential 0 = .ok (.aload_n 0, 1) := by decide +kernel
theorem dX9_potential_1 : decode cX9_potential 1 = .ok (.iload_n 1, 1) := by decide +kernel
theorem dX9_potential_2 : decode cX9_potential 2 = .ok (.invokevirtual 146, 3) := by decide +kernel
theorem dX9_weigh_0 : decode cX9_weigh 0 = .ok (.aload_n 0, 1) := by decide +kernel
theorem dX9_weigh_1 : decode cX9_weigh 1 = .ok (.getfield 21, 3) := by decide +kernel
theorem dX9_weigh_4 : decode cX9_weigh 4 = .ok (.iload_n 1, 1) := by decide +kernel
theorem dX9_weigh_5 : decode cX9_weigh 5 = .ok (.invokevirtual 162, 3) := by decide +kernel
theorem dX9_weigh_8 : decode cX9_weigh 8 = .ok (.ifCond .ne 13, 3) := by decide +kernel
theorem dX9_weigh_11 : decode cX9_weigh 11 = .ok (.new 166, 3) := by decide +kernel
theorem dX9_weigh_14 : decode cX9_weigh 14 = .ok (.dup, 1) := by decide +kernel
theorem dX9_weigh_15 : decode cX9_weigh 15 = .ok (.ldc 168, 2) := by decide +kernel
theorem dX9_weigh_17 : decode cX9_weigh 17 = .ok (.invokespecial 170, 3) := by decide +kernel
theorem dX9_weigh_20 : decode cX9_weigh 20 = .ok (.athrow, 1) := by decide +kernel
