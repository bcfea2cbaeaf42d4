/-! the words and decode rows that the rows of the next part take -/
theorem b_13 : Cond.selects RX9 yX9_findWays yX9_findWays ∈ TB := tb_of 13 (by decide +kernel)
theorem b_17 : Cond.selects RX9 yX9_findEdge yX9_findEdge ∈ TB := tb_of 17 (by decide +kernel)
theorem b_121 : Cond.fieldLink RX9 87 "RoutePlanner$Tape" "size" "I" ∈ TB := tb_of 121 (by decide +kernel)
theorem b_186 : Cond.fieldLink RX9 226 "RoutePlanner$Graph" "potentials" "[J" ∈ TB := tb_of 186 (by decide +kernel)
theorem b_197 : Cond.fieldLink RX9 113 "RoutePlanner$Graph" "nodes" "I" ∈ TB := tb_of 197 (by decide +kernel)
theorem b_200 : Cond.fieldLink RX9 117 "RoutePlanner$Graph" "arcs" "I" ∈ TB := tb_of 200 (by decide +kernel)
theorem b_237 : Cond.fieldLink RX9 129 "RoutePlanner$Reader" "faultPlace" "I" ∈ TB := tb_of 237 (by decide +kernel)
theorem b_306 : Cond.fieldLink RX9 387 "RoutePlanner$Trail" "size" "I" ∈ TB := tb_of 306 (by decide +kernel)
theorem b_332 : Cond.fieldLink RX9 202 "RoutePlanner$Landmarks" "size" "I" ∈ TB := tb_of 332 (by decide +kernel)
theorem b_365 : Cond.fieldLink RX9 193 "RoutePlanner$Hierarchy" "made" "Z" ∈ TB := tb_of 365 (by decide +kernel)
theorem b_424 : Cond.fieldLink RX9 349 "RoutePlanner$Route" "asked" "Z" ∈ TB := tb_of 424 (by decide +kernel)
theorem b_694 : Cond.constantLong RX9 200 (-1) ∈ TB := tb_of 694 (by decide +kernel)
theorem b_703 : Cond.methodLink RX9 246 yX7_has ∈ TB := tb_of 703 (by decide +kernel)
theorem b_704 : Cond.instanceMethod yX7_has ∈ TB := tb_of 704 (by decide +kernel)
theorem b_705 : Cond.selects RX7 yX7_has yX7_has ∈ TB := tb_of 705 (by decide +kernel)
theorem b_706 : Cond.code yX7_has cX7_has 2 (some .boolean) ∈ TB := tb_of 706 (by decide +kernel)
theorem b_719 : Cond.methodLink RX9 257 yX9_findWays ∈ TB := tb_of 719 (by decide +kernel)
theorem b_721 : Cond.instanceMethod yX9_findWays ∈ TB := tb_of 721 (by decide +kernel)
theorem b_722 : Cond.code yX9_findWays cX9_findWays 3 (some .boolean) ∈ TB := tb_of 722 (by decide +kernel)
theorem b_751 : Cond.methodLink RX9 229 yX0_firstInconsistent ∈ TB := tb_of 751 (by decide +kernel)
theorem b_752 : Cond.instanceMethod yX0_firstInconsistent ∈ TB := tb_of 752 (by decide +kernel)
theorem b_753 : Cond.selects RX0 yX0_firstInconsistent yX0_firstInconsistent ∈ TB := tb_of 753 (by decide +kernel)
theorem b_754 : Cond.code yX0_firstInconsistent cX0_firstInconsistent 3 (some .int) ∈ TB := tb_of 754 (by decide +kernel)
theorem b_798 : Cond.methodLink RX9 328 yX9_findEdge ∈ TB := tb_of 798 (by decide +kernel)
theorem b_800 : Cond.instanceMethod yX9_findEdge ∈ TB := tb_of 800 (by decide +kernel)
theorem b_801 : Cond.code yX9_findEdge cX9_findEdge 4 (some .int) ∈ TB := tb_of 801 (by decide +kernel)
theorem hd_X7_has : k_hd yX7_has 1 := by decide +kernel
theorem hd_X9_findWays : k_hd yX9_findWays 2 := by decide +kernel
theorem hd_X0_firstInconsistent : k_hd yX0_firstInconsistent 1 := by decide +kernel
theorem hd_X9_findEdge : k_hd yX9_findEdge 3 := by decide +kernel
theorem dX7_has_0 : decode cX7_has 0 = .ok (.iload_n 1, 1) := by decide +kernel
theorem dX7_has_1 : decode cX7_has 1 = .ok (.ifCond .lt 15, 3) := by decide +kernel
theorem dX7_has_4 : decode cX7_has 4 = .ok (.iload_n 1, 1) := by decide +kernel
theorem dX7_has_5 : decode cX7_has 5 = .ok (.aload_n 0, 1) := by decide +kernel
theorem dX7_has_6 : decode cX7_has 6 = .ok (.getfield 22, 3) := by decide +kernel
theorem dX7_has_9 : decode cX7_has 9 = .ok (.if_icmp .ge 7, 3) := by decide +kernel
theorem dX7_has_16 : decode cX7_has 16 = .ok (.iconst 0, 1) := by decide +kernel
theorem dX7_has_17 : decode cX7_has 17 = .ok (.ireturn, 1) := by decide +kernel
theorem dX0_firstInconsistent_0 : decode cX0_firstInconsistent 0 = .ok (.iconst 0, 1) := by decide +kernel
theorem dX0_firstInconsistent_1 : decode cX0_firstInconsistent 1 = .ok (.istore_n 2, 1) := by decide +kernel
theorem dX0_firstInconsistent_2 : decode cX0_firstInconsistent 2 = .ok (.iload_n 2, 1) := by decide +kernel
theorem dX0_firstInconsistent_3 : decode cX0_firstInconsistent 3 = .ok (.aload_n 0, 1) := by decide +kernel
theorem dX0_firstInconsistent_4 : decode cX0_firstInconsistent 4 = .ok (.getfield 42, 3) := by decide +kernel
theorem dX0_firstInconsistent_7 : decode cX0_firstInconsistent 7 = .ok (.if_icmp .ge 38, 3) := by decide +kernel
theorem dX0_firstInconsistent_45 : decode cX0_firstInconsistent 45 = .ok (.iconst (-1), 1) := by decide +kernel
theorem dX0_firstInconsistent_46 : decode cX0_firstInconsistent 46 = .ok (.ireturn, 1) := by decide +kernel
theorem dX9_findWays_0 : decode cX9_findWays 0 = .ok (.aload_n 0, 1) := by decide +kernel
theorem dX9_findWays_1 : decode cX9_findWays 1 = .ok (.getfield 21, 3) := by decide +kernel
theorem dX9_findWays_4 : decode cX9_findWays 4 = .ok (.iload_n 1, 1) := by decide +kernel
theorem dX9_findWays_5 : decode cX9_findWays 5 = .ok (.invokevirtual 180, 3) := by decide +kernel
theorem dX9_findWays_8 : decode cX9_findWays 8 = .ok (.ifCond .eq 14, 3) := by decide +kernel
theorem dX9_findWays_22 : decode cX9_findWays 22 = .ok (.iconst 0, 1) := by decide +kernel
theorem dX9_findWays_23 : decode cX9_findWays 23 = .ok (.ireturn, 1) := by decide +kernel
theorem dX9_findEdge_0 : decode cX9_findEdge 0 = .ok (.aload_n 0, 1) := by decide +kernel
theorem dX9_findEdge_1 : decode cX9_findEdge 1 = .ok (.getfield 61, 3) := by decide +kernel
theorem dX9_findEdge_4 : decode cX9_findEdge 4 = .ok (.getfield 193, 3) := by decide +kernel
theorem dX9_findEdge_7 : decode cX9_findEdge 7 = .ok (.ifCond .eq 31, 3) := by decide +kernel
theorem dX9_findEdge_38 : decode cX9_findEdge 38 = .ok (.iconst (-1), 1) := by decide +kernel
theorem dX9_findEdge_39 : decode cX9_findEdge 39 = .ok (.ireturn, 1) := by decide +kernel
theorem dX9_place_0 : decode cX9_place 0 = .ok (.aload_n 0, 1) := by decide +kernel
theorem dX9_place_1 : decode cX9_place 1 = .ok (.getfield 30, 3) := by decide +kernel
theorem dX9_place_4 : decode cX9_place 4 = .ok (.getfield 129, 3) := by decide +kernel
theorem dX9_place_7 : decode cX9_place 7 = .ok (.ireturn, 1) := by decide +kernel
theorem dX9_about_0 : decode cX9_about 0 = .ok (.iload_n 2, 1) := by decide +kernel
theorem dX9_about_1 : decode cX9_about 1 = .ok (.ifCond .eq 8, 3) := by decide +kernel
theorem dX9_about_4 : decode cX9_about 4 = .ok (.iload_n 2, 1) := by decide +kernel
theorem dX9_about_5 : decode cX9_about 5 = .ok (.iconst 1, 1) := by decide +kernel
theorem dX9_about_6 : decode cX9_about 6 = .ok (.if_icmp .ne 44, 3) := by decide +kernel
theorem dX9_about_9 : decode cX9_about 9 = .ok (.aload_n 0, 1) := by decide +kernel
theorem dX9_about_10 : decode cX9_about 10 = .ok (.getfield 21, 3) := by decide +kernel
theorem dX9_about_13 : decode cX9_about 13 = .ok (.iload_n 1, 1) := by decide +kernel
theorem dX9_about_14 : decode cX9_about 14 = .ok (.invokevirtual 162, 3) := by decide +kernel
theorem dX9_about_17 : decode cX9_about 17 = .ok (.ifCond .eq 31, 3) := by decide +kernel
theorem dX9_about_48 : decode cX9_about 48 = .ok (.iconst (-1), 1) := by decide +kernel
theorem dX9_about_49 : decode cX9_about 49 = .ok (.ireturn, 1) := by decide +kernel
theorem dX9_about_50 : decode cX9_about 50 = .ok (.aload_n 0, 1) := by decide +kernel
theorem dX9_about_51 : decode cX9_about 51 = .ok (.getfield 21, 3) := by decide +kernel
theorem dX9_about_54 : decode cX9_about 54 = .ok (.iload_n 1, 1) := by decide +kernel
theorem dX9_about_55 : decode cX9_about 55 = .ok (.invokevirtual 180, 3) := by decide +kernel
theorem dX9_about_58 : decode cX9_about 58 = .ok (.ifCond .ne 5, 3) := by decide +kernel
theorem dX9_about_61 : decode cX9_about 61 = .ok (.iconst (-1), 1) := by decide +kernel
theorem dX9_about_62 : decode cX9_about 62 = .ok (.ireturn, 1) := by decide +kernel
theorem dX9_weight_0 : decode cX9_weight 0 = .ok (.aload_n 0, 1) := by decide +kernel
theorem dX9_weight_1 : decode cX9_weight 1 = .ok (.getfield 21, 3) := by decide +kernel
theorem dX9_weight_4 : decode cX9_weight 4 = .ok (.iload_n 1, 1) := by decide +kernel
theorem dX9_weight_5 : decode cX9_weight 5 = .ok (.invokevirtual 162, 3) := by decide +kernel
theorem dX9_weight_8 : decode cX9_weight 8 = .ok (.ifCond .eq 15, 3) := by decide +kernel
theorem dX9_weight_23 : decode cX9_weight 23 = .ok (.ldc2_w 200, 3) := by decide +kernel
theorem dX9_weight_26 : decode cX9_weight 26 = .ok (.lreturn, 1) := by decide +kernel
theorem dX9_settled_0 : decode cX9_settled 0 = .ok (.aload_n 0, 1) := by decide +kernel
theorem dX9_settled_1 : decode cX9_settled 1 = .ok (.getfield 47, 3) := by decide +kernel
theorem dX9_settled_4 : decode cX9_settled 4 = .ok (.iload_n 1, 1) := by decide +kernel
theorem dX9_settled_5 : decode cX9_settled 5 = .ok (.invokevirtual 246, 3) := by decide +kernel
theorem dX9_settled_8 : decode cX9_settled 8 = .ok (.ifCond .eq 15, 3) := by decide +kernel
theorem dX9_settled_23 : decode cX9_settled 23 = .ok (.iconst (-1), 1) := by decide +kernel
theorem dX9_settled_24 : decode cX9_settled 24 = .ok (.ireturn, 1) := by decide +kernel
theorem dX9_length_0 : decode cX9_length 0 = .ok (.aload_n 0, 1) := by decide +kernel
theorem dX9_length_1 : decode cX9_length 1 = .ok (.getfield 47, 3) := by decide +kernel
theorem dX9_length_4 : decode cX9_length 4 = .ok (.iload_n 1, 1) := by decide +kernel
theorem dX9_length_5 : decode cX9_length 5 = .ok (.invokevirtual 246, 3) := by decide +kernel
theorem dX9_length_8 : decode cX9_length 8 = .ok (.ifCond .eq 15, 3) := by decide +kernel
theorem dX9_length_23 : decode cX9_length 23 = .ok (.ldc2_w 200, 3) := by decide +kernel
theorem dX9_length_26 : decode cX9_length 26 = .ok (.lreturn, 1) := by decide +kernel
theorem dX9_count_0 : decode cX9_count 0 = .ok (.aload_n 0, 1) := by decide +kernel
theorem dX9_count_1 : decode cX9_count 1 = .ok (.getfield 47, 3) := by decide +kernel
theorem dX9_count_4 : decode cX9_count 4 = .ok (.iload_n 1, 1) := by decide +kernel
theorem dX9_count_5 : decode cX9_count 5 = .ok (.invokevirtual 246, 3) := by decide +kernel
theorem dX9_count_8 : decode cX9_count 8 = .ok (.ifCond .eq 15, 3) := by decide +kernel
theorem dX9_count_23 : decode cX9_count 23 = .ok (.iconst (-1), 1) := by decide +kernel
theorem dX9_count_24 : decode cX9_count 24 = .ok (.ireturn, 1) := by decide +kernel
theorem dX9_distance_0 : decode cX9_distance 0 = .ok (.aload_n 0, 1) := by decide +kernel
theorem dX9_distance_1 : decode cX9_distance 1 = .ok (.iload_n 1, 1) := by decide +kernel
theorem dX9_distance_2 : decode cX9_distance 2 = .ok (.iload_n 2, 1) := by decide +kernel
theorem dX9_distance_3 : decode cX9_distance 3 = .ok (.invokevirtual 257, 3) := by decide +kernel
theorem dX9_distance_6 : decode cX9_distance 6 = .ok (.ifCond .eq 15, 3) := by decide +kernel
theorem dX9_distance_21 : decode cX9_distance 21 = .ok (.ldc2_w 200, 3) := by decide +kernel
theorem dX9_distance_24 : decode cX9_distance 24 = .ok (.lreturn, 1) := by decide +kernel
theorem dX9_arcs_0 : decode cX9_arcs 0 = .ok (.aload_n 0, 1) := by decide +kernel
theorem dX9_arcs_1 : decode cX9_arcs 1 = .ok (.iload_n 1, 1) := by decide +kernel
theorem dX9_arcs_2 : decode cX9_arcs 2 = .ok (.iload_n 2, 1) := by decide +kernel
theorem dX9_arcs_3 : decode cX9_arcs 3 = .ok (.invokevirtual 257, 3) := by decide +kernel
theorem dX9_arcs_6 : decode cX9_arcs 6 = .ok (.ifCond .eq 15, 3) := by decide +kernel
theorem dX9_arcs_21 : decode cX9_arcs 21 = .ok (.iconst (-1), 1) := by decide +kernel
theorem dX9_arcs_22 : decode cX9_arcs 22 = .ok (.ireturn, 1) := by decide +kernel
theorem dX9_inconsistent_0 : decode cX9_inconsistent 0 = .ok (.aload_n 0, 1) := by decide +kernel
theorem dX9_inconsistent_1 : decode cX9_inconsistent 1 = .ok (.getfield 21, 3) := by decide +kernel
theorem dX9_inconsistent_4 : decode cX9_inconsistent 4 = .ok (.aload_n 0, 1) := by decide +kernel
theorem dX9_inconsistent_5 : decode cX9_inconsistent 5 = .ok (.getfield 21, 3) := by decide +kernel
theorem dX9_inconsistent_8 : decode cX9_inconsistent 8 = .ok (.getfield 226, 3) := by decide +kernel
theorem dX9_inconsistent_11 : decode cX9_inconsistent 11 = .ok (.invokevirtual 229, 3) := by decide +kernel
theorem dX9_inconsistent_14 : decode cX9_inconsistent 14 = .ok (.ireturn, 1) := by decide +kernel
theorem dX9_bound_0 : decode cX9_bound 0 = .ok (.aload_n 0, 1) := by decide +kernel
theorem dX9_bound_1 : decode cX9_bound 1 = .ok (.getfield 21, 3) := by decide +kernel
theorem dX9_bound_4 : decode cX9_bound 4 = .ok (.iload_n 1, 1) := by decide +kernel
theorem dX9_bound_5 : decode cX9_bound 5 = .ok (.invokevirtual 180, 3) := by decide +kernel
theorem dX9_bound_8 : decode cX9_bound 8 = .ok (.ifCond .eq 24, 3) := by decide +kernel
theorem dX9_bound_32 : decode cX9_bound 32 = .ok (.ldc2_w 200, 3) := by decide +kernel
theorem dX9_bound_35 : decode cX9_bound 35 = .ok (.lreturn, 1) := by decide +kernel
theorem dX9_ready_0 : decode cX9_ready 0 = .ok (.aload_n 0, 1) := by decide +kernel
theorem dX9_ready_1 : decode cX9_ready 1 = .ok (.getfield 61, 3) := by decide +kernel
theorem dX9_ready_4 : decode cX9_ready 4 = .ok (.getfield 193, 3) := by decide +kernel
theorem dX9_ready_7 : decode cX9_ready 7 = .ok (.ifCond .eq 7, 3) := by decide +kernel
theorem dX9_ready_14 : decode cX9_ready 14 = .ok (.iconst 0, 1) := by decide +kernel
theorem dX9_ready_15 : decode cX9_ready 15 = .ok (.ireturn, 1) := by decide +kernel
theorem dX9_ranked_0 : decode cX9_ranked 0 = .ok (.aload_n 0, 1) := by decide +kernel
theorem dX9_ranked_1 : decode cX9_ranked 1 = .ok (.getfield 61, 3) := by decide +kernel
theorem dX9_ranked_4 : decode cX9_ranked 4 = .ok (.getfield 193, 3) := by decide +kernel
theorem dX9_ranked_7 : decode cX9_ranked 7 = .ok (.ifCond .eq 30, 3) := by decide +kernel
theorem dX9_ranked_37 : decode cX9_ranked 37 = .ok (.iconst (-1), 1) := by decide +kernel
theorem dX9_ranked_38 : decode cX9_ranked 38 = .ok (.ireturn, 1) := by decide +kernel
theorem dX9_edge_0 : decode cX9_edge 0 = .ok (.aload_n 0, 1) := by decide +kernel
theorem dX9_edge_1 : decode cX9_edge 1 = .ok (.iload_n 1, 1) := by decide +kernel
theorem dX9_edge_2 : decode cX9_edge 2 = .ok (.iload_n 2, 1) := by decide +kernel
theorem dX9_edge_3 : decode cX9_edge 3 = .ok (.iload_n 3, 1) := by decide +kernel
theorem dX9_edge_4 : decode cX9_edge 4 = .ok (.invokevirtual 328, 3) := by decide +kernel
theorem dX9_edge_7 : decode cX9_edge 7 = .ok (.istore 5, 2) := by decide +kernel
theorem dX9_edge_9 : decode cX9_edge 9 = .ok (.iload 5, 2) := by decide +kernel
theorem dX9_edge_11 : decode cX9_edge 11 = .ok (.iconst (-1), 1) := by decide +kernel
theorem dX9_edge_12 : decode cX9_edge 12 = .ok (.if_icmp .ne 5, 3) := by decide +kernel
theorem dX9_edge_15 : decode cX9_edge 15 = .ok (.iconst (-1), 1) := by decide +kernel
theorem dX9_edge_16 : decode cX9_edge 16 = .ok (.ireturn, 1) := by decide +kernel
theorem dX9_edgeLength_0 : decode cX9_edgeLength 0 = .ok (.aload_n 0, 1) := by decide +kernel
theorem dX9_edgeLength_1 : decode cX9_edgeLength 1 = .ok (.iload_n 1, 1) := by decide +kernel
theorem dX9_edgeLength_2 : decode cX9_edgeLength 2 = .ok (.iload_n 2, 1) := by decide +kernel
theorem dX9_edgeLength_3 : decode cX9_edgeLength 3 = .ok (.iload_n 3, 1) := by decide +kernel
theorem dX9_edgeLength_4 : decode cX9_edgeLength 4 = .ok (.invokevirtual 328, 3) := by decide +kernel
theorem dX9_edgeLength_7 : decode cX9_edgeLength 7 = .ok (.istore 4, 2) := by decide +kernel
theorem dX9_edgeLength_9 : decode cX9_edgeLength 9 = .ok (.iload 4, 2) := by decide +kernel
theorem dX9_edgeLength_11 : decode cX9_edgeLength 11 = .ok (.iconst (-1), 1) := by decide +kernel
theorem dX9_edgeLength_12 : decode cX9_edgeLength 12 = .ok (.if_icmp .ne 9, 3) := by decide +kernel
theorem dX9_edgeLength_15 : decode cX9_edgeLength 15 = .ok (.ldc2_w 200, 3) := by decide +kernel
theorem dX9_edgeLength_18 : decode cX9_edgeLength 18 = .ok (.goto 16, 3) := by decide +kernel
theorem dX9_edgeLength_34 : decode cX9_edgeLength 34 = .ok (.lreturn, 1) := by decide +kernel
theorem dX9_told_0 : decode cX9_told 0 = .ok (.aload_n 0, 1) := by decide +kernel
theorem dX9_told_1 : decode cX9_told 1 = .ok (.getfield 68, 3) := by decide +kernel
theorem dX9_told_4 : decode cX9_told 4 = .ok (.getfield 349, 3) := by decide +kernel
theorem dX9_told_7 : decode cX9_told 7 = .ok (.ifCond .ne 5, 3) := by decide +kernel
theorem dX9_told_10 : decode cX9_told 10 = .ok (.iconst (-1), 1) := by decide +kernel
theorem dX9_told_11 : decode cX9_told 11 = .ok (.ireturn, 1) := by decide +kernel
theorem dX9_found_0 : decode cX9_found 0 = .ok (.aload_n 0, 1) := by decide +kernel
theorem dX9_found_1 : decode cX9_found 1 = .ok (.getfield 68, 3) := by decide +kernel
theorem dX9_found_4 : decode cX9_found 4 = .ok (.getfield 349, 3) := by decide +kernel
theorem dX9_found_7 : decode cX9_found 7 = .ok (.ifCond .eq 24, 3) := by decide +kernel
theorem dX9_found_31 : decode cX9_found 31 = .ok (.ldc2_w 200, 3) := by decide +kernel
theorem dX9_found_34 : decode cX9_found 34 = .ok (.lreturn, 1) := by decide +kernel
theorem dX9_step_0 : decode cX9_step 0 = .ok (.aload_n 0, 1) := by decide +kernel
theorem dX9_step_1 : decode cX9_step 1 = .ok (.getfield 68, 3) := by decide +kernel
theorem dX9_step_4 : decode cX9_step 4 = .ok (.getfield 349, 3) := by decide +kernel
theorem dX9_step_7 : decode cX9_step 7 = .ok (.ifCond .eq 30, 3) := by decide +kernel
theorem dX9_step_37 : decode cX9_step 37 = .ok (.iconst (-1), 1) := by decide +kernel
theorem dX9_step_38 : decode cX9_step 38 = .ok (.ireturn, 1) := by decide +kernel
theorem dX9_relaxed_0 : decode cX9_relaxed 0 = .ok (.aload_n 0, 1) := by decide +kernel
theorem dX9_relaxed_1 : decode cX9_relaxed 1 = .ok (.getfield 68, 3) := by decide +kernel
theorem dX9_relaxed_4 : decode cX9_relaxed 4 = .ok (.getfield 349, 3) := by decide +kernel
theorem dX9_relaxed_7 : decode cX9_relaxed 7 = .ok (.ifCond .eq 18, 3) := by decide +kernel
theorem dX9_relaxed_25 : decode cX9_relaxed 25 = .ok (.iconst (-1), 1) := by decide +kernel
theorem dX9_relaxed_26 : decode cX9_relaxed 26 = .ok (.ireturn, 1) := by decide +kernel
theorem dX9_reached_0 : decode cX9_reached 0 = .ok (.aload_n 0, 1) := by decide +kernel
theorem dX9_reached_1 : decode cX9_reached 1 = .ok (.getfield 21, 3) := by decide +kernel
theorem dX9_reached_4 : decode cX9_reached 4 = .ok (.iload_n 1, 1) := by decide +kernel
theorem dX9_reached_5 : decode cX9_reached 5 = .ok (.invokevirtual 180, 3) := by decide +kernel
theorem dX9_reached_8 : decode cX9_reached 8 = .ok (.ifCond .eq 7, 3) := by decide +kernel
theorem dX9_reached_15 : decode cX9_reached 15 = .ok (.iconst (-1), 1) := by decide +kernel
theorem dX9_reached_16 : decode cX9_reached 16 = .ok (.ireturn, 1) := by decide +kernel
theorem dX9_total_0 : decode cX9_total 0 = .ok (.iload_n 1, 1) := by decide +kernel
theorem dX9_total_1 : decode cX9_total 1 = .ok (.tableswitch 153 0 8 #[51, 59, 67, 75, 80, 88, 93, 119, 145], 51) := by decide +kernel
theorem dX9_total_52 : decode cX9_total 52 = .ok (.aload_n 0, 1) := by decide +kernel
theorem dX9_total_53 : decode cX9_total 53 = .ok (.getfield 21, 3) := by decide +kernel
theorem dX9_total_56 : decode cX9_total 56 = .ok (.getfield 113, 3) := by decide +kernel
theorem dX9_total_59 : decode cX9_total 59 = .ok (.ireturn, 1) := by decide +kernel
theorem dX9_total_60 : decode cX9_total 60 = .ok (.aload_n 0, 1) := by decide +kernel
theorem dX9_total_61 : decode cX9_total 61 = .ok (.getfield 21, 3) := by decide +kernel
theorem dX9_total_64 : decode cX9_total 64 = .ok (.getfield 117, 3) := by decide +kernel
theorem dX9_total_67 : decode cX9_total 67 = .ok (.ireturn, 1) := by decide +kernel
theorem dX9_total_68 : decode cX9_total 68 = .ok (.aload_n 0, 1) := by decide +kernel
theorem dX9_total_69 : decode cX9_total 69 = .ok (.getfield 14, 3) := by decide +kernel
theorem dX9_total_72 : decode cX9_total 72 = .ok (.getfield 87, 3) := by decide +kernel
theorem dX9_total_75 : decode cX9_total 75 = .ok (.ireturn, 1) := by decide +kernel
theorem dX9_total_76 : decode cX9_total 76 = .ok (.aload_n 0, 1) := by decide +kernel
theorem dX9_total_77 : decode cX9_total 77 = .ok (.getfield 84, 3) := by decide +kernel
theorem dX9_total_80 : decode cX9_total 80 = .ok (.ireturn, 1) := by decide +kernel
theorem dX9_total_81 : decode cX9_total 81 = .ok (.aload_n 0, 1) := by decide +kernel
theorem dX9_total_82 : decode cX9_total 82 = .ok (.getfield 54, 3) := by decide +kernel
theorem dX9_total_85 : decode cX9_total 85 = .ok (.getfield 202, 3) := by decide +kernel
theorem dX9_total_88 : decode cX9_total 88 = .ok (.ireturn, 1) := by decide +kernel
theorem dX9_total_89 : decode cX9_total 89 = .ok (.aload_n 0, 1) := by decide +kernel
theorem dX9_total_90 : decode cX9_total 90 = .ok (.getfield 80, 3) := by decide +kernel
theorem dX9_total_93 : decode cX9_total 93 = .ok (.ireturn, 1) := by decide +kernel
theorem dX9_total_94 : decode cX9_total 94 = .ok (.aload_n 0, 1) := by decide +kernel
theorem dX9_total_95 : decode cX9_total 95 = .ok (.getfield 61, 3) := by decide +kernel
theorem dX9_total_98 : decode cX9_total 98 = .ok (.getfield 193, 3) := by decide +kernel
theorem dX9_total_101 : decode cX9_total 101 = .ok (.ifCond .eq 17, 3) := by decide +kernel
theorem dX9_total_118 : decode cX9_total 118 = .ok (.iconst 0, 1) := by decide +kernel
theorem dX9_total_119 : decode cX9_total 119 = .ok (.ireturn, 1) := by decide +kernel
theorem dX9_total_120 : decode cX9_total 120 = .ok (.aload_n 0, 1) := by decide +kernel
theorem dX9_total_121 : decode cX9_total 121 = .ok (.getfield 61, 3) := by decide +kernel
theorem dX9_total_124 : decode cX9_total 124 = .ok (.getfield 193, 3) := by decide +kernel
theorem dX9_total_127 : decode cX9_total 127 = .ok (.ifCond .eq 17, 3) := by decide +kernel
theorem dX9_total_144 : decode cX9_total 144 = .ok (.iconst 0, 1) := by decide +kernel
theorem dX9_total_145 : decode cX9_total 145 = .ok (.ireturn, 1) := by decide +kernel
theorem dX9_total_146 : decode cX9_total 146 = .ok (.aload_n 0, 1) := by decide +kernel
theorem dX9_total_147 : decode cX9_total 147 = .ok (.getfield 47, 3) := by decide +kernel
theorem dX9_total_150 : decode cX9_total 150 = .ok (.getfield 387, 3) := by decide +kernel
theorem dX9_total_153 : decode cX9_total 153 = .ok (.ireturn, 1) := by decide +kernel
theorem dX9_total_154 : decode cX9_total 154 = .ok (.iconst (-1), 1) := by decide +kernel
theorem dX9_total_155 : decode cX9_total 155 = .ok (.ireturn, 1) := by decide +kernel
theorem dX9_isWithin_0 : decode cX9_isWithin 0 = .ok (.iload_n 0, 1) := by decide +kernel
theorem dX9_isWithin_1 : decode cX9_isWithin 1 = .ok (.iload_n 1, 1) := by decide +kernel
theorem dX9_isWithin_2 : decode cX9_isWithin 2 = .ok (.ineg, 1) := by decide +kernel
theorem dX9_isWithin_3 : decode cX9_isWithin 3 = .ok (.if_icmp .lt 12, 3) := by decide +kernel
theorem dX9_isWithin_6 : decode cX9_isWithin 6 = .ok (.iload_n 0, 1) := by decide +kernel
theorem dX9_isWithin_7 : decode cX9_isWithin 7 = .ok (.iload_n 1, 1) := by decide +kernel
theorem dX9_isWithin_8 : decode cX9_isWithin 8 = .ok (.if_icmp .gt 7, 3) := by decide +kernel
theorem dX9_isWithin_11 : decode cX9_isWithin 11 = .ok (.iconst 1, 1) := by decide +kernel
theorem dX9_isWithin_12 : decode cX9_isWithin 12 = .ok (.goto 4, 3) := by decide +kernel
theorem dX9_isWithin_15 : decode cX9_isWithin 15 = .ok (.iconst 0, 1) := by decide +kernel
theorem dX9_isWithin_16 : decode cX9_isWithin 16 = .ok (.ireturn, 1) := by decide +kernel
theorem dX9_isFactor_0 : decode cX9_isFactor 0 = .ok (.iload_n 0, 1) := by decide +kernel
theorem dX9_isFactor_1 : decode cX9_isFactor 1 = .ok (.ifCond .lt 13, 3) := by decide +kernel
theorem dX9_isFactor_4 : decode cX9_isFactor 4 = .ok (.iload_n 0, 1) := by decide +kernel
theorem dX9_isFactor_5 : decode cX9_isFactor 5 = .ok (.bipush 9, 2) := by decide +kernel
theorem dX9_isFactor_7 : decode cX9_isFactor 7 = .ok (.if_icmp .gt 7, 3) := by decide +kernel
theorem dX9_isFactor_10 : decode cX9_isFactor 10 = .ok (.iconst 1, 1) := by decide +kernel
theorem dX9_isFactor_11 : decode cX9_isFactor 11 = .ok (.goto 4, 3) := by decide +kernel
theorem dX9_isFactor_14 : decode cX9_isFactor 14 = .ok (.iconst 0, 1) := by decide +kernel
theorem dX9_isFactor_15 : decode cX9_isFactor 15 = .ok (.ireturn, 1) := by decide +kernel
