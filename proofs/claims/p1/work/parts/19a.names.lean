/-! the words and decode rows that the rows of the next part take -/
theorem b_855 : Cond.methodLink RL 7 yX9_feed ∈ TB := tb_of 855 (by decide +kernel)
theorem b_856 : Cond.instanceMethod yX9_feed ∈ TB := tb_of 856 (by decide +kernel)
theorem b_857 : Cond.selects RX9 yX9_feed yX9_feed ∈ TB := tb_of 857 (by decide +kernel)
theorem b_858 : Cond.code yX9_feed cX9_feed 6 (some .int) ∈ TB := tb_of 858 (by decide +kernel)
theorem b_935 : Cond.classLink RL 19 "java/lang/IllegalArgumentException" ∈ TB := tb_of 935 (by decide +kernel)
theorem b_936 : Cond.methodLink RL 15 yX9_end ∈ TB := tb_of 936 (by decide +kernel)
theorem b_937 : Cond.instanceMethod yX9_end ∈ TB := tb_of 937 (by decide +kernel)
theorem b_938 : Cond.selects RX9 yX9_end yX9_end ∈ TB := tb_of 938 (by decide +kernel)
theorem b_939 : Cond.code yX9_end cX9_end 2 (some .int) ∈ TB := tb_of 939 (by decide +kernel)
theorem b_959 : Cond.methodLink RL 21 yX9_node ∈ TB := tb_of 959 (by decide +kernel)
theorem b_960 : Cond.instanceMethod yX9_node ∈ TB := tb_of 960 (by decide +kernel)
theorem b_961 : Cond.selects RX9 yX9_node yX9_node ∈ TB := tb_of 961 (by decide +kernel)
theorem b_962 : Cond.code yX9_node cX9_node 4 (some .int) ∈ TB := tb_of 962 (by decide +kernel)
theorem b_973 : Cond.classLink RL 29 "java/lang/IndexOutOfBoundsException" ∈ TB := tb_of 973 (by decide +kernel)
theorem b_975 : Cond.methodLink RL 25 yX9_arc ∈ TB := tb_of 975 (by decide +kernel)
theorem b_976 : Cond.instanceMethod yX9_arc ∈ TB := tb_of 976 (by decide +kernel)
theorem b_977 : Cond.selects RX9 yX9_arc yX9_arc ∈ TB := tb_of 977 (by decide +kernel)
theorem b_978 : Cond.code yX9_arc cX9_arc 8 (some .int) ∈ TB := tb_of 978 (by decide +kernel)
theorem b_1031 : Cond.methodLink RL 33 yX9_weigh ∈ TB := tb_of 1031 (by decide +kernel)
theorem b_1032 : Cond.instanceMethod yX9_weigh ∈ TB := tb_of 1032 (by decide +kernel)
theorem b_1033 : Cond.selects RX9 yX9_weigh yX9_weigh ∈ TB := tb_of 1033 (by decide +kernel)
theorem b_1034 : Cond.code yX9_weigh cX9_weigh 8 (some .long) ∈ TB := tb_of 1034 (by decide +kernel)
theorem b_1039 : Cond.methodLink RL 37 yX9_search ∈ TB := tb_of 1039 (by decide +kernel)
theorem b_1040 : Cond.instanceMethod yX9_search ∈ TB := tb_of 1040 (by decide +kernel)
theorem b_1041 : Cond.selects RX9 yX9_search yX9_search ∈ TB := tb_of 1041 (by decide +kernel)
theorem b_1042 : Cond.code yX9_search cX9_search 2 (some .int) ∈ TB := tb_of 1042 (by decide +kernel)
theorem b_1064 : Cond.methodLink RL 40 yX9_goal ∈ TB := tb_of 1064 (by decide +kernel)
theorem b_1065 : Cond.instanceMethod yX9_goal ∈ TB := tb_of 1065 (by decide +kernel)
theorem b_1066 : Cond.selects RX9 yX9_goal yX9_goal ∈ TB := tb_of 1066 (by decide +kernel)
theorem b_1067 : Cond.code yX9_goal cX9_goal 3 (some .int) ∈ TB := tb_of 1067 (by decide +kernel)
theorem b_1072 : Cond.methodLink RL 43 yX9_both ∈ TB := tb_of 1072 (by decide +kernel)
theorem b_1073 : Cond.instanceMethod yX9_both ∈ TB := tb_of 1073 (by decide +kernel)
theorem b_1074 : Cond.selects RX9 yX9_both yX9_both ∈ TB := tb_of 1074 (by decide +kernel)
theorem b_1075 : Cond.code yX9_both cX9_both 3 (some .int) ∈ TB := tb_of 1075 (by decide +kernel)
theorem b_1091 : Cond.methodLink RL 46 yX9_landmarked ∈ TB := tb_of 1091 (by decide +kernel)
theorem b_1092 : Cond.instanceMethod yX9_landmarked ∈ TB := tb_of 1092 (by decide +kernel)
theorem b_1093 : Cond.selects RX9 yX9_landmarked yX9_landmarked ∈ TB := tb_of 1093 (by decide +kernel)
theorem b_1094 : Cond.code yX9_landmarked cX9_landmarked 3 (some .int) ∈ TB := tb_of 1094 (by decide +kernel)
theorem b_1099 : Cond.methodLink RL 49 yX9_potential ∈ TB := tb_of 1099 (by decide +kernel)
theorem b_1100 : Cond.instanceMethod yX9_potential ∈ TB := tb_of 1100 (by decide +kernel)
theorem b_1101 : Cond.selects RX9 yX9_potential yX9_potential ∈ TB := tb_of 1101 (by decide +kernel)
theorem b_1102 : Cond.code yX9_potential cX9_potential 8 (some .long) ∈ TB := tb_of 1102 (by decide +kernel)
theorem b_1112 : Cond.methodLink RL 52 yX9_straight ∈ TB := tb_of 1112 (by decide +kernel)
theorem b_1113 : Cond.instanceMethod yX9_straight ∈ TB := tb_of 1113 (by decide +kernel)
theorem b_1114 : Cond.selects RX9 yX9_straight yX9_straight ∈ TB := tb_of 1114 (by decide +kernel)
theorem b_1115 : Cond.code yX9_straight cX9_straight 6 (some .int) ∈ TB := tb_of 1115 (by decide +kernel)
theorem b_1130 : Cond.methodLink RL 55 yX9_landmark ∈ TB := tb_of 1130 (by decide +kernel)
theorem b_1131 : Cond.instanceMethod yX9_landmark ∈ TB := tb_of 1131 (by decide +kernel)
theorem b_1132 : Cond.selects RX9 yX9_landmark yX9_landmark ∈ TB := tb_of 1132 (by decide +kernel)
theorem b_1133 : Cond.code yX9_landmark cX9_landmark 2 (some .int) ∈ TB := tb_of 1133 (by decide +kernel)
theorem b_1143 : Cond.methodLink RL 58 yX9_prepare ∈ TB := tb_of 1143 (by decide +kernel)
theorem b_1144 : Cond.instanceMethod yX9_prepare ∈ TB := tb_of 1144 (by decide +kernel)
theorem b_1145 : Cond.selects RX9 yX9_prepare yX9_prepare ∈ TB := tb_of 1145 (by decide +kernel)
theorem b_1146 : Cond.code yX9_prepare cX9_prepare 2 (some .int) ∈ TB := tb_of 1146 (by decide +kernel)
theorem b_1231 : Cond.methodLink RL 64 yX9_order ∈ TB := tb_of 1231 (by decide +kernel)
theorem b_1232 : Cond.instanceMethod yX9_order ∈ TB := tb_of 1232 (by decide +kernel)
theorem b_1233 : Cond.selects RX9 yX9_order yX9_order ∈ TB := tb_of 1233 (by decide +kernel)
theorem b_1234 : Cond.code yX9_order cX9_order 2 (some .int) ∈ TB := tb_of 1234 (by decide +kernel)
theorem b_1239 : Cond.methodLink RL 67 yX9_prepareTold ∈ TB := tb_of 1239 (by decide +kernel)
theorem b_1240 : Cond.instanceMethod yX9_prepareTold ∈ TB := tb_of 1240 (by decide +kernel)
theorem b_1241 : Cond.selects RX9 yX9_prepareTold yX9_prepareTold ∈ TB := tb_of 1241 (by decide +kernel)
theorem b_1242 : Cond.code yX9_prepareTold cX9_prepareTold 2 (some .int) ∈ TB := tb_of 1242 (by decide +kernel)
theorem b_1247 : Cond.methodLink RL 70 yX9_remake ∈ TB := tb_of 1247 (by decide +kernel)
theorem b_1248 : Cond.instanceMethod yX9_remake ∈ TB := tb_of 1248 (by decide +kernel)
theorem b_1249 : Cond.selects RX9 yX9_remake yX9_remake ∈ TB := tb_of 1249 (by decide +kernel)
theorem b_1250 : Cond.code yX9_remake cX9_remake 3 (some .int) ∈ TB := tb_of 1250 (by decide +kernel)
theorem b_1254 : Cond.methodLink RL 73 yX9_query ∈ TB := tb_of 1254 (by decide +kernel)
theorem b_1255 : Cond.instanceMethod yX9_query ∈ TB := tb_of 1255 (by decide +kernel)
theorem b_1256 : Cond.selects RX9 yX9_query yX9_query ∈ TB := tb_of 1256 (by decide +kernel)
theorem b_1257 : Cond.code yX9_query cX9_query 3 (some .int) ∈ TB := tb_of 1257 (by decide +kernel)
theorem hd_X9_feed : k_hd yX9_feed 5 := by decide +kernel
theorem hd_X9_end : k_hd yX9_end 1 := by decide +kernel
theorem hd_X9_node : k_hd yX9_node 2 := by decide +kernel
theorem hd_X9_arc : k_hd yX9_arc 3 := by decide +kernel
theorem hd_X9_weigh : k_hd yX9_weigh 2 := by decide +kernel
theorem hd_X9_search : k_hd yX9_search 1 := by decide +kernel
theorem hd_X9_goal : k_hd yX9_goal 2 := by decide +kernel
theorem hd_X9_both : k_hd yX9_both 2 := by decide +kernel
theorem hd_X9_landmarked : k_hd yX9_landmarked 2 := by decide +kernel
theorem hd_X9_potential : k_hd yX9_potential 2 := by decide +kernel
theorem hd_X9_straight : k_hd yX9_straight 2 := by decide +kernel
theorem hd_X9_landmark : k_hd yX9_landmark 1 := by decide +kernel
theorem hd_X9_order : k_hd yX9_order 1 := by decide +kernel
theorem hd_X9_query : k_hd yX9_query 2 := by decide +kernel
theorem hd_X9_prepare : k_hd yX9_prepare 0 := by decide +kernel
theorem hd_X9_prepareTold : k_hd yX9_prepareTold 0 := by decide +kernel
theorem hd_X9_remake : k_hd yX9_remake 0 := by decide +kernel
theorem dL_feed_0 : decode cL_feed 0 = .ok (.aload 6, 2) := by decide +kernel
theorem dL_feed_2 : decode cL_feed 2 = .ok (.iconst 0, 1) := by decide +kernel
theorem dL_feed_3 : decode cL_feed 3 = .ok (.aload_n 0, 1) := by decide +kernel
theorem dL_feed_4 : decode cL_feed 4 = .ok (.iload_n 1, 1) := by decide +kernel
theorem dL_feed_5 : decode cL_feed 5 = .ok (.iload_n 2, 1) := by decide +kernel
theorem dL_feed_6 : decode cL_feed 6 = .ok (.iload_n 3, 1) := by decide +kernel
theorem dL_feed_7 : decode cL_feed 7 = .ok (.iload 4, 2) := by decide +kernel
theorem dL_feed_9 : decode cL_feed 9 = .ok (.iload 5, 2) := by decide +kernel
theorem dL_feed_11 : decode cL_feed 11 = .ok (.invokevirtual 7, 3) := by decide +kernel
theorem dL_feed_14 : decode cL_feed 14 = .ok (.i2l, 1) := by decide +kernel
theorem dL_feed_15 : decode cL_feed 15 = .ok (.lastore, 1) := by decide +kernel
theorem dL_feed_16 : decode cL_feed 16 = .ok (.goto 7, 3) := by decide +kernel
theorem dL_feed_23 : decode cL_feed 23 = .ok (.iconst 0, 1) := by decide +kernel
theorem dL_feed_24 : decode cL_feed 24 = .ok (.ireturn, 1) := by decide +kernel
theorem dL_end_0 : decode cL_end 0 = .ok (.aload_n 2, 1) := by decide +kernel
theorem dL_end_1 : decode cL_end 1 = .ok (.iconst 0, 1) := by decide +kernel
theorem dL_end_2 : decode cL_end 2 = .ok (.aload_n 0, 1) := by decide +kernel
theorem dL_end_3 : decode cL_end 3 = .ok (.iload_n 1, 1) := by decide +kernel
theorem dL_end_4 : decode cL_end 4 = .ok (.invokevirtual 15, 3) := by decide +kernel
theorem dL_end_7 : decode cL_end 7 = .ok (.i2l, 1) := by decide +kernel
theorem dL_end_8 : decode cL_end 8 = .ok (.lastore, 1) := by decide +kernel
theorem dL_end_9 : decode cL_end 9 = .ok (.goto 6, 3) := by decide +kernel
theorem dL_end_12 : decode cL_end 12 = .ok (.astore_n 3, 1) := by decide +kernel
theorem dL_end_13 : decode cL_end 13 = .ok (.iconst 1, 1) := by decide +kernel
theorem dL_end_14 : decode cL_end 14 = .ok (.ireturn, 1) := by decide +kernel
theorem dL_end_15 : decode cL_end 15 = .ok (.iconst 0, 1) := by decide +kernel
theorem dL_end_16 : decode cL_end 16 = .ok (.ireturn, 1) := by decide +kernel
theorem dL_node_0 : decode cL_node 0 = .ok (.aload_n 3, 1) := by decide +kernel
theorem dL_node_1 : decode cL_node 1 = .ok (.iconst 0, 1) := by decide +kernel
theorem dL_node_2 : decode cL_node 2 = .ok (.aload_n 0, 1) := by decide +kernel
theorem dL_node_3 : decode cL_node 3 = .ok (.iload_n 1, 1) := by decide +kernel
theorem dL_node_4 : decode cL_node 4 = .ok (.iload_n 2, 1) := by decide +kernel
theorem dL_node_5 : decode cL_node 5 = .ok (.invokevirtual 21, 3) := by decide +kernel
theorem dL_node_8 : decode cL_node 8 = .ok (.i2l, 1) := by decide +kernel
theorem dL_node_9 : decode cL_node 9 = .ok (.lastore, 1) := by decide +kernel
theorem dL_node_10 : decode cL_node 10 = .ok (.goto 11, 3) := by decide +kernel
theorem dL_node_13 : decode cL_node 13 = .ok (.astore 4, 2) := by decide +kernel
theorem dL_node_15 : decode cL_node 15 = .ok (.iconst 1, 1) := by decide +kernel
theorem dL_node_16 : decode cL_node 16 = .ok (.ireturn, 1) := by decide +kernel
theorem dL_node_21 : decode cL_node 21 = .ok (.iconst 0, 1) := by decide +kernel
theorem dL_node_22 : decode cL_node 22 = .ok (.ireturn, 1) := by decide +kernel
theorem dL_arc_0 : decode cL_arc 0 = .ok (.aload 5, 2) := by decide +kernel
theorem dL_arc_2 : decode cL_arc 2 = .ok (.iconst 0, 1) := by decide +kernel
theorem dL_arc_3 : decode cL_arc 3 = .ok (.aload_n 0, 1) := by decide +kernel
theorem dL_arc_4 : decode cL_arc 4 = .ok (.iload_n 1, 1) := by decide +kernel
theorem dL_arc_5 : decode cL_arc 5 = .ok (.iload_n 2, 1) := by decide +kernel
theorem dL_arc_6 : decode cL_arc 6 = .ok (.lload_n 3, 1) := by decide +kernel
theorem dL_arc_7 : decode cL_arc 7 = .ok (.invokevirtual 25, 3) := by decide +kernel
theorem dL_arc_15 : decode cL_arc 15 = .ok (.astore 6, 2) := by decide +kernel
theorem dL_arc_17 : decode cL_arc 17 = .ok (.iconst 1, 1) := by decide +kernel
theorem dL_arc_18 : decode cL_arc 18 = .ok (.ireturn, 1) := by decide +kernel
theorem dL_weigh_0 : decode cL_weigh 0 = .ok (.aload 4, 2) := by decide +kernel
theorem dL_weigh_2 : decode cL_weigh 2 = .ok (.iconst 0, 1) := by decide +kernel
theorem dL_weigh_3 : decode cL_weigh 3 = .ok (.aload_n 0, 1) := by decide +kernel
theorem dL_weigh_4 : decode cL_weigh 4 = .ok (.iload_n 1, 1) := by decide +kernel
theorem dL_weigh_5 : decode cL_weigh 5 = .ok (.lload_n 2, 1) := by decide +kernel
theorem dL_weigh_6 : decode cL_weigh 6 = .ok (.invokevirtual 33, 3) := by decide +kernel
theorem dL_weigh_13 : decode cL_weigh 13 = .ok (.astore 5, 2) := by decide +kernel
theorem dL_weigh_15 : decode cL_weigh 15 = .ok (.iconst 1, 1) := by decide +kernel
theorem dL_weigh_16 : decode cL_weigh 16 = .ok (.ireturn, 1) := by decide +kernel
theorem dL_search_0 : decode cL_search 0 = .ok (.aload_n 2, 1) := by decide +kernel
theorem dL_search_1 : decode cL_search 1 = .ok (.iconst 0, 1) := by decide +kernel
theorem dL_search_2 : decode cL_search 2 = .ok (.aload_n 0, 1) := by decide +kernel
theorem dL_search_3 : decode cL_search 3 = .ok (.iload_n 1, 1) := by decide +kernel
theorem dL_search_4 : decode cL_search 4 = .ok (.invokevirtual 37, 3) := by decide +kernel
theorem dL_search_12 : decode cL_search 12 = .ok (.astore_n 3, 1) := by decide +kernel
theorem dL_search_13 : decode cL_search 13 = .ok (.iconst 1, 1) := by decide +kernel
theorem dL_search_14 : decode cL_search 14 = .ok (.ireturn, 1) := by decide +kernel
theorem dL_goal_0 : decode cL_goal 0 = .ok (.aload_n 3, 1) := by decide +kernel
theorem dL_goal_1 : decode cL_goal 1 = .ok (.iconst 0, 1) := by decide +kernel
theorem dL_goal_2 : decode cL_goal 2 = .ok (.aload_n 0, 1) := by decide +kernel
theorem dL_goal_3 : decode cL_goal 3 = .ok (.iload_n 1, 1) := by decide +kernel
theorem dL_goal_4 : decode cL_goal 4 = .ok (.iload_n 2, 1) := by decide +kernel
theorem dL_goal_5 : decode cL_goal 5 = .ok (.invokevirtual 40, 3) := by decide +kernel
theorem dL_goal_13 : decode cL_goal 13 = .ok (.astore 4, 2) := by decide +kernel
theorem dL_goal_15 : decode cL_goal 15 = .ok (.iconst 1, 1) := by decide +kernel
theorem dL_goal_16 : decode cL_goal 16 = .ok (.ireturn, 1) := by decide +kernel
theorem dL_both_0 : decode cL_both 0 = .ok (.aload_n 3, 1) := by decide +kernel
theorem dL_both_1 : decode cL_both 1 = .ok (.iconst 0, 1) := by decide +kernel
theorem dL_both_2 : decode cL_both 2 = .ok (.aload_n 0, 1) := by decide +kernel
theorem dL_both_3 : decode cL_both 3 = .ok (.iload_n 1, 1) := by decide +kernel
theorem dL_both_4 : decode cL_both 4 = .ok (.iload_n 2, 1) := by decide +kernel
theorem dL_both_5 : decode cL_both 5 = .ok (.invokevirtual 43, 3) := by decide +kernel
theorem dL_both_13 : decode cL_both 13 = .ok (.astore 4, 2) := by decide +kernel
theorem dL_both_15 : decode cL_both 15 = .ok (.iconst 1, 1) := by decide +kernel
theorem dL_both_16 : decode cL_both 16 = .ok (.ireturn, 1) := by decide +kernel
theorem dL_landmarked_0 : decode cL_landmarked 0 = .ok (.aload_n 3, 1) := by decide +kernel
theorem dL_landmarked_1 : decode cL_landmarked 1 = .ok (.iconst 0, 1) := by decide +kernel
theorem dL_landmarked_2 : decode cL_landmarked 2 = .ok (.aload_n 0, 1) := by decide +kernel
theorem dL_landmarked_3 : decode cL_landmarked 3 = .ok (.iload_n 1, 1) := by decide +kernel
theorem dL_landmarked_4 : decode cL_landmarked 4 = .ok (.iload_n 2, 1) := by decide +kernel
theorem dL_landmarked_5 : decode cL_landmarked 5 = .ok (.invokevirtual 46, 3) := by decide +kernel
theorem dL_landmarked_13 : decode cL_landmarked 13 = .ok (.astore 4, 2) := by decide +kernel
theorem dL_landmarked_15 : decode cL_landmarked 15 = .ok (.iconst 1, 1) := by decide +kernel
theorem dL_landmarked_16 : decode cL_landmarked 16 = .ok (.ireturn, 1) := by decide +kernel
theorem dL_potential_0 : decode cL_potential 0 = .ok (.aload 4, 2) := by decide +kernel
theorem dL_potential_2 : decode cL_potential 2 = .ok (.iconst 0, 1) := by decide +kernel
theorem dL_potential_3 : decode cL_potential 3 = .ok (.aload_n 0, 1) := by decide +kernel
theorem dL_potential_4 : decode cL_potential 4 = .ok (.iload_n 1, 1) := by decide +kernel
theorem dL_potential_5 : decode cL_potential 5 = .ok (.lload_n 2, 1) := by decide +kernel
theorem dL_potential_6 : decode cL_potential 6 = .ok (.invokevirtual 49, 3) := by decide +kernel
theorem dL_potential_13 : decode cL_potential 13 = .ok (.astore 5, 2) := by decide +kernel
theorem dL_potential_15 : decode cL_potential 15 = .ok (.iconst 1, 1) := by decide +kernel
theorem dL_potential_16 : decode cL_potential 16 = .ok (.ireturn, 1) := by decide +kernel
theorem dL_straight_0 : decode cL_straight 0 = .ok (.aload_n 3, 1) := by decide +kernel
theorem dL_straight_1 : decode cL_straight 1 = .ok (.iconst 0, 1) := by decide +kernel
theorem dL_straight_2 : decode cL_straight 2 = .ok (.aload_n 0, 1) := by decide +kernel
theorem dL_straight_3 : decode cL_straight 3 = .ok (.iload_n 1, 1) := by decide +kernel
theorem dL_straight_4 : decode cL_straight 4 = .ok (.iload_n 2, 1) := by decide +kernel
theorem dL_straight_5 : decode cL_straight 5 = .ok (.invokevirtual 52, 3) := by decide +kernel
theorem dL_straight_13 : decode cL_straight 13 = .ok (.astore 4, 2) := by decide +kernel
theorem dL_straight_15 : decode cL_straight 15 = .ok (.iconst 1, 1) := by decide +kernel
theorem dL_straight_16 : decode cL_straight 16 = .ok (.ireturn, 1) := by decide +kernel
theorem dL_landmark_0 : decode cL_landmark 0 = .ok (.aload_n 2, 1) := by decide +kernel
theorem dL_landmark_1 : decode cL_landmark 1 = .ok (.iconst 0, 1) := by decide +kernel
theorem dL_landmark_2 : decode cL_landmark 2 = .ok (.aload_n 0, 1) := by decide +kernel
theorem dL_landmark_3 : decode cL_landmark 3 = .ok (.iload_n 1, 1) := by decide +kernel
theorem dL_landmark_4 : decode cL_landmark 4 = .ok (.invokevirtual 55, 3) := by decide +kernel
theorem dL_landmark_12 : decode cL_landmark 12 = .ok (.astore_n 3, 1) := by decide +kernel
theorem dL_landmark_13 : decode cL_landmark 13 = .ok (.iconst 1, 1) := by decide +kernel
theorem dL_landmark_14 : decode cL_landmark 14 = .ok (.ireturn, 1) := by decide +kernel
theorem dL_order_0 : decode cL_order 0 = .ok (.aload_n 2, 1) := by decide +kernel
theorem dL_order_1 : decode cL_order 1 = .ok (.iconst 0, 1) := by decide +kernel
theorem dL_order_2 : decode cL_order 2 = .ok (.aload_n 0, 1) := by decide +kernel
theorem dL_order_3 : decode cL_order 3 = .ok (.iload_n 1, 1) := by decide +kernel
theorem dL_order_4 : decode cL_order 4 = .ok (.invokevirtual 64, 3) := by decide +kernel
theorem dL_order_12 : decode cL_order 12 = .ok (.astore_n 3, 1) := by decide +kernel
theorem dL_order_13 : decode cL_order 13 = .ok (.iconst 1, 1) := by decide +kernel
theorem dL_order_14 : decode cL_order 14 = .ok (.ireturn, 1) := by decide +kernel
theorem dL_query_0 : decode cL_query 0 = .ok (.aload_n 3, 1) := by decide +kernel
theorem dL_query_1 : decode cL_query 1 = .ok (.iconst 0, 1) := by decide +kernel
theorem dL_query_2 : decode cL_query 2 = .ok (.aload_n 0, 1) := by decide +kernel
theorem dL_query_3 : decode cL_query 3 = .ok (.iload_n 1, 1) := by decide +kernel
theorem dL_query_4 : decode cL_query 4 = .ok (.iload_n 2, 1) := by decide +kernel
theorem dL_query_5 : decode cL_query 5 = .ok (.invokevirtual 73, 3) := by decide +kernel
theorem dL_query_13 : decode cL_query 13 = .ok (.astore 4, 2) := by decide +kernel
theorem dL_query_15 : decode cL_query 15 = .ok (.iconst 1, 1) := by decide +kernel
theorem dL_query_16 : decode cL_query 16 = .ok (.ireturn, 1) := by decide +kernel
theorem dL_prepare_0 : decode cL_prepare 0 = .ok (.aload_n 1, 1) := by decide +kernel
theorem dL_prepare_1 : decode cL_prepare 1 = .ok (.iconst 0, 1) := by decide +kernel
theorem dL_prepare_2 : decode cL_prepare 2 = .ok (.aload_n 0, 1) := by decide +kernel
theorem dL_prepare_3 : decode cL_prepare 3 = .ok (.invokevirtual 58, 3) := by decide +kernel
theorem dL_prepare_6 : decode cL_prepare 6 = .ok (.i2l, 1) := by decide +kernel
theorem dL_prepare_7 : decode cL_prepare 7 = .ok (.lastore, 1) := by decide +kernel
theorem dL_prepare_8 : decode cL_prepare 8 = .ok (.goto 6, 3) := by decide +kernel
theorem dL_prepare_14 : decode cL_prepare 14 = .ok (.iconst 0, 1) := by decide +kernel
theorem dL_prepare_15 : decode cL_prepare 15 = .ok (.ireturn, 1) := by decide +kernel
theorem dL_prepareTold_0 : decode cL_prepareTold 0 = .ok (.aload_n 1, 1) := by decide +kernel
theorem dL_prepareTold_1 : decode cL_prepareTold 1 = .ok (.iconst 0, 1) := by decide +kernel
theorem dL_prepareTold_2 : decode cL_prepareTold 2 = .ok (.aload_n 0, 1) := by decide +kernel
theorem dL_prepareTold_3 : decode cL_prepareTold 3 = .ok (.invokevirtual 67, 3) := by decide +kernel
theorem dL_prepareTold_6 : decode cL_prepareTold 6 = .ok (.i2l, 1) := by decide +kernel
theorem dL_prepareTold_7 : decode cL_prepareTold 7 = .ok (.lastore, 1) := by decide +kernel
theorem dL_prepareTold_8 : decode cL_prepareTold 8 = .ok (.goto 9, 3) := by decide +kernel
theorem dL_prepareTold_17 : decode cL_prepareTold 17 = .ok (.iconst 0, 1) := by decide +kernel
theorem dL_prepareTold_18 : decode cL_prepareTold 18 = .ok (.ireturn, 1) := by decide +kernel
theorem dL_remake_0 : decode cL_remake 0 = .ok (.aload_n 1, 1) := by decide +kernel
theorem dL_remake_1 : decode cL_remake 1 = .ok (.iconst 0, 1) := by decide +kernel
theorem dL_remake_2 : decode cL_remake 2 = .ok (.aload_n 0, 1) := by decide +kernel
theorem dL_remake_3 : decode cL_remake 3 = .ok (.invokevirtual 70, 3) := by decide +kernel
theorem dL_remake_6 : decode cL_remake 6 = .ok (.i2l, 1) := by decide +kernel
theorem dL_remake_7 : decode cL_remake 7 = .ok (.lastore, 1) := by decide +kernel
theorem dL_remake_8 : decode cL_remake 8 = .ok (.goto 6, 3) := by decide +kernel
theorem dL_remake_14 : decode cL_remake 14 = .ok (.iconst 0, 1) := by decide +kernel
theorem dL_remake_15 : decode cL_remake 15 = .ok (.ireturn, 1) := by decide +kernel
