/-! the words and decode rows that the rows of the next part take -/
theorem b_39 : Cond.selects RX10 yX10_four yX10_four ∈ TB := tb_of 39 (by decide +kernel)
theorem b_40 : Cond.selects RX10 yX10_together yX10_together ∈ TB := tb_of 40 (by decide +kernel)
theorem b_47 : Cond.selects RX10 yX10_comes yX10_comes ∈ TB := tb_of 47 (by decide +kernel)
theorem b_51 : Cond.selects RX10 yX10_changes yX10_changes ∈ TB := tb_of 51 (by decide +kernel)
theorem b_52 : Cond.selects RX10 yX10_isNode yX10_isNode ∈ TB := tb_of 52 (by decide +kernel)
theorem b_53 : Cond.selects RX10 yX10_isArc yX10_isArc ∈ TB := tb_of 53 (by decide +kernel)
theorem b_57 : Cond.selects RX10 yX10_throwsNow yX10_throwsNow ∈ TB := tb_of 57 (by decide +kernel)
theorem b_61 : Cond.selects RX10 yX10_inconsistentArc yX10_inconsistentArc ∈ TB := tb_of 61 (by decide +kernel)
theorem b_65 : Cond.selects RX10 yX10_isSettled yX10_isSettled ∈ TB := tb_of 65 (by decide +kernel)
theorem b_66 : Cond.selects RX10 yX10_begins yX10_begins ∈ TB := tb_of 66 (by decide +kernel)
theorem b_70 : Cond.selects RX10 yX10_ends yX10_ends ∈ TB := tb_of 70 (by decide +kernel)
theorem b_71 : Cond.selects RX10 yX10_edgeAt yX10_edgeAt ∈ TB := tb_of 71 (by decide +kernel)
theorem b_1324 : Cond.fieldLink RX10 307 "RoutePlannerModel" "marksMany" "I" ∈ TB := tb_of 1324 (by decide +kernel)
theorem b_1326 : Cond.fieldLink RX10 310 "RoutePlannerModel" "ordered" "I" ∈ TB := tb_of 1326 (by decide +kernel)
theorem b_1332 : Cond.fieldLink RX10 224 "RoutePlannerModel" "next" "I" ∈ TB := tb_of 1332 (by decide +kernel)
theorem b_1335 : Cond.fieldLink RX10 218 "RoutePlannerModel" "faultNow" "I" ∈ TB := tb_of 1335 (by decide +kernel)
theorem b_1336 : Cond.fieldLink RX10 221 "RoutePlannerModel" "faultAt" "I" ∈ TB := tb_of 1336 (by decide +kernel)
theorem b_1562 : Cond.methodLink RX10 214 yX10_four ∈ TB := tb_of 1562 (by decide +kernel)
theorem b_1564 : Cond.instanceMethod yX10_four ∈ TB := tb_of 1564 (by decide +kernel)
theorem b_1565 : Cond.code yX10_four cX10_four 3 none ∈ TB := tb_of 1565 (by decide +kernel)
theorem b_1574 : Cond.methodLink RX10 262 yX10_together ∈ TB := tb_of 1574 (by decide +kernel)
theorem b_1576 : Cond.instanceMethod yX10_together ∈ TB := tb_of 1576 (by decide +kernel)
theorem b_1577 : Cond.code yX10_together cX10_together 4 (some .long) ∈ TB := tb_of 1577 (by decide +kernel)
theorem b_1578 : Cond.methodLink RX10 197 yX10_size ∈ TB := tb_of 1578 (by decide +kernel)
theorem b_1579 : Cond.static yX10_size ∈ TB := tb_of 1579 (by decide +kernel)
theorem b_1580 : Cond.code yX10_size cX10_size 2 (some .long) ∈ TB := tb_of 1580 (by decide +kernel)
theorem b_1605 : Cond.constantLong RX10 281 (1000000) ∈ TB := tb_of 1605 (by decide +kernel)
theorem b_1613 : Cond.methodLink RX10 283 yX10_comes ∈ TB := tb_of 1613 (by decide +kernel)
theorem b_1615 : Cond.instanceMethod yX10_comes ∈ TB := tb_of 1615 (by decide +kernel)
theorem b_1616 : Cond.code yX10_comes cX10_comes 3 none ∈ TB := tb_of 1616 (by decide +kernel)
theorem b_1630 : Cond.methodLink RX10 272 yX10_changes ∈ TB := tb_of 1630 (by decide +kernel)
theorem b_1632 : Cond.instanceMethod yX10_changes ∈ TB := tb_of 1632 (by decide +kernel)
theorem b_1633 : Cond.code yX10_changes cX10_changes 1 none ∈ TB := tb_of 1633 (by decide +kernel)
theorem b_1646 : Cond.methodLink RX10 295 yX10_isNode ∈ TB := tb_of 1646 (by decide +kernel)
theorem b_1648 : Cond.instanceMethod yX10_isNode ∈ TB := tb_of 1648 (by decide +kernel)
theorem b_1649 : Cond.code yX10_isNode cX10_isNode 2 (some .boolean) ∈ TB := tb_of 1649 (by decide +kernel)
theorem b_1657 : Cond.methodLink RX10 302 yX10_isArc ∈ TB := tb_of 1657 (by decide +kernel)
theorem b_1659 : Cond.instanceMethod yX10_isArc ∈ TB := tb_of 1659 (by decide +kernel)
theorem b_1660 : Cond.code yX10_isArc cX10_isArc 2 (some .boolean) ∈ TB := tb_of 1660 (by decide +kernel)
theorem b_1669 : Cond.constantLong RX10 305 (-1) ∈ TB := tb_of 1669 (by decide +kernel)
theorem b_1705 : Cond.methodLink RX10 330 yX10_throwsNow ∈ TB := tb_of 1705 (by decide +kernel)
theorem b_1707 : Cond.instanceMethod yX10_throwsNow ∈ TB := tb_of 1707 (by decide +kernel)
theorem b_1708 : Cond.code yX10_throwsNow cX10_throwsNow 2 (some .int) ∈ TB := tb_of 1708 (by decide +kernel)
theorem b_1725 : Cond.methodLink RX10 340 yX10_inconsistentArc ∈ TB := tb_of 1725 (by decide +kernel)
theorem b_1727 : Cond.instanceMethod yX10_inconsistentArc ∈ TB := tb_of 1727 (by decide +kernel)
theorem b_1728 : Cond.code yX10_inconsistentArc cX10_inconsistentArc 2 (some .int) ∈ TB := tb_of 1728 (by decide +kernel)
theorem b_1753 : Cond.methodLink RX10 354 yX10_isSettled ∈ TB := tb_of 1753 (by decide +kernel)
theorem b_1755 : Cond.instanceMethod yX10_isSettled ∈ TB := tb_of 1755 (by decide +kernel)
theorem b_1756 : Cond.code yX10_isSettled cX10_isSettled 2 (some .boolean) ∈ TB := tb_of 1756 (by decide +kernel)
theorem b_1796 : Cond.methodLink RX10 368 yX10_begins ∈ TB := tb_of 1796 (by decide +kernel)
theorem b_1798 : Cond.instanceMethod yX10_begins ∈ TB := tb_of 1798 (by decide +kernel)
theorem b_1799 : Cond.code yX10_begins cX10_begins 2 none ∈ TB := tb_of 1799 (by decide +kernel)
theorem b_1812 : Cond.methodLink RX10 378 yX10_ends ∈ TB := tb_of 1812 (by decide +kernel)
theorem b_1814 : Cond.instanceMethod yX10_ends ∈ TB := tb_of 1814 (by decide +kernel)
theorem b_1815 : Cond.code yX10_ends cX10_ends 3 (some .int) ∈ TB := tb_of 1815 (by decide +kernel)
theorem b_1840 : Cond.methodLink RX10 381 yX10_edgeAt ∈ TB := tb_of 1840 (by decide +kernel)
theorem b_1842 : Cond.instanceMethod yX10_edgeAt ∈ TB := tb_of 1842 (by decide +kernel)
theorem b_1843 : Cond.code yX10_edgeAt cX10_edgeAt 7 (some .int) ∈ TB := tb_of 1843 (by decide +kernel)
theorem hd_X10_four : k_hd yX10_four 1 := by decide +kernel
theorem hd_X10_together : k_hd yX10_together 0 := by decide +kernel
theorem hd_X10_size : k_hd yX10_size 1 := by decide +kernel
theorem hd_X10_comes : k_hd yX10_comes 2 := by decide +kernel
theorem hd_X10_changes : k_hd yX10_changes 0 := by decide +kernel
theorem hd_X10_isNode : k_hd yX10_isNode 1 := by decide +kernel
theorem hd_X10_isArc : k_hd yX10_isArc 1 := by decide +kernel
theorem hd_X10_throwsNow : k_hd yX10_throwsNow 1 := by decide +kernel
theorem hd_X10_isSettled : k_hd yX10_isSettled 1 := by decide +kernel
theorem hd_X10_inconsistentArc : k_hd yX10_inconsistentArc 0 := by decide +kernel
theorem hd_X10_edgeAt : k_hd yX10_edgeAt 3 := by decide +kernel
theorem hd_X10_begins : k_hd yX10_begins 0 := by decide +kernel
theorem hd_X10_ends : k_hd yX10_ends 1 := by decide +kernel
theorem dX10_feed_0 : decode cX10_feed 0 = .ok (.aload_n 0, 1) := by decide +kernel
theorem dX10_feed_1 : decode cX10_feed 1 = .ok (.aload_n 0, 1) := by decide +kernel
theorem dX10_feed_2 : decode cX10_feed 2 = .ok (.getfield 211, 3) := by decide +kernel
theorem dX10_feed_5 : decode cX10_feed 5 = .ok (.bipush 20, 2) := by decide +kernel
theorem dX10_feed_7 : decode cX10_feed 7 = .ok (.iadd, 1) := by decide +kernel
theorem dX10_feed_8 : decode cX10_feed 8 = .ok (.sipush 2000, 3) := by decide +kernel
theorem dX10_feed_11 : decode cX10_feed 11 = .ok (.if_icmp .le 7, 3) := by decide +kernel
theorem dX10_feed_18 : decode cX10_feed 18 = .ok (.iconst 0, 1) := by decide +kernel
theorem dX10_feed_19 : decode cX10_feed 19 = .ok (.putfield 1, 3) := by decide +kernel
theorem dX10_feed_22 : decode cX10_feed 22 = .ok (.aload_n 0, 1) := by decide +kernel
theorem dX10_feed_23 : decode cX10_feed 23 = .ok (.getfield 1, 3) := by decide +kernel
theorem dX10_feed_26 : decode cX10_feed 26 = .ok (.ifCond .le 5, 3) := by decide +kernel
theorem dX10_feed_31 : decode cX10_feed 31 = .ok (.aload_n 0, 1) := by decide +kernel
theorem dX10_feed_32 : decode cX10_feed 32 = .ok (.iload_n 1, 1) := by decide +kernel
theorem dX10_feed_33 : decode cX10_feed 33 = .ok (.invokevirtual 214, 3) := by decide +kernel
theorem dX10_feed_36 : decode cX10_feed 36 = .ok (.aload_n 0, 1) := by decide +kernel
theorem dX10_feed_37 : decode cX10_feed 37 = .ok (.iload_n 2, 1) := by decide +kernel
theorem dX10_feed_38 : decode cX10_feed 38 = .ok (.invokevirtual 214, 3) := by decide +kernel
theorem dX10_feed_41 : decode cX10_feed 41 = .ok (.aload_n 0, 1) := by decide +kernel
theorem dX10_feed_42 : decode cX10_feed 42 = .ok (.iload_n 3, 1) := by decide +kernel
theorem dX10_feed_43 : decode cX10_feed 43 = .ok (.invokevirtual 214, 3) := by decide +kernel
theorem dX10_feed_46 : decode cX10_feed 46 = .ok (.aload_n 0, 1) := by decide +kernel
theorem dX10_feed_47 : decode cX10_feed 47 = .ok (.iload 4, 2) := by decide +kernel
theorem dX10_feed_49 : decode cX10_feed 49 = .ok (.invokevirtual 214, 3) := by decide +kernel
theorem dX10_feed_52 : decode cX10_feed 52 = .ok (.aload_n 0, 1) := by decide +kernel
theorem dX10_feed_53 : decode cX10_feed 53 = .ok (.iload 5, 2) := by decide +kernel
theorem dX10_feed_55 : decode cX10_feed 55 = .ok (.invokevirtual 214, 3) := by decide +kernel
theorem dX10_feed_58 : decode cX10_feed 58 = .ok (.aload_n 0, 1) := by decide +kernel
theorem dX10_feed_59 : decode cX10_feed 59 = .ok (.getfield 211, 3) := by decide +kernel
theorem dX10_feed_62 : decode cX10_feed 62 = .ok (.ireturn, 1) := by decide +kernel
theorem dX10_end_0 : decode cX10_end 0 = .ok (.aload_n 0, 1) := by decide +kernel
theorem dX10_end_1 : decode cX10_end 1 = .ok (.iload_n 1, 1) := by decide +kernel
theorem dX10_end_2 : decode cX10_end 2 = .ok (.ifCond .lt 11, 3) := by decide +kernel
theorem dX10_end_5 : decode cX10_end 5 = .ok (.iload_n 1, 1) := by decide +kernel
theorem dX10_end_6 : decode cX10_end 6 = .ok (.aload_n 0, 1) := by decide +kernel
theorem dX10_end_7 : decode cX10_end 7 = .ok (.getfield 211, 3) := by decide +kernel
theorem dX10_end_10 : decode cX10_end 10 = .ok (.if_icmp .le 7, 3) := by decide +kernel
theorem dX10_end_13 : decode cX10_end 13 = .ok (.iconst 1, 1) := by decide +kernel
theorem dX10_end_14 : decode cX10_end 14 = .ok (.goto 4, 3) := by decide +kernel
theorem dX10_end_17 : decode cX10_end 17 = .ok (.iconst 0, 1) := by decide +kernel
theorem dX10_end_18 : decode cX10_end 18 = .ok (.putfield 1, 3) := by decide +kernel
theorem dX10_end_21 : decode cX10_end 21 = .ok (.aload_n 0, 1) := by decide +kernel
theorem dX10_end_22 : decode cX10_end 22 = .ok (.getfield 1, 3) := by decide +kernel
theorem dX10_end_25 : decode cX10_end 25 = .ok (.ifCond .le 5, 3) := by decide +kernel
theorem dX10_end_28 : decode cX10_end 28 = .ok (.iconst 0, 1) := by decide +kernel
theorem dX10_end_29 : decode cX10_end 29 = .ok (.ireturn, 1) := by decide +kernel
theorem dX10_end_30 : decode cX10_end 30 = .ok (.aload_n 0, 1) := by decide +kernel
theorem dX10_end_31 : decode cX10_end 31 = .ok (.iload_n 1, 1) := by decide +kernel
theorem dX10_end_32 : decode cX10_end 32 = .ok (.putfield 211, 3) := by decide +kernel
theorem dX10_end_35 : decode cX10_end 35 = .ok (.iload_n 1, 1) := by decide +kernel
theorem dX10_end_36 : decode cX10_end 36 = .ok (.ireturn, 1) := by decide +kernel
theorem dX10_read_0 : decode cX10_read 0 = .ok (.aload_n 0, 1) := by decide +kernel
theorem dX10_read_1 : decode cX10_read 1 = .ok (.iconst 0, 1) := by decide +kernel
theorem dX10_read_2 : decode cX10_read 2 = .ok (.putfield 1, 3) := by decide +kernel
theorem dX10_read_5 : decode cX10_read 5 = .ok (.aload_n 0, 1) := by decide +kernel
theorem dX10_read_6 : decode cX10_read 6 = .ok (.getfield 191, 3) := by decide +kernel
theorem dX10_read_9 : decode cX10_read 9 = .ok (.istore_n 1, 1) := by decide +kernel
theorem dX10_read_10 : decode cX10_read 10 = .ok (.aload_n 0, 1) := by decide +kernel
theorem dX10_read_11 : decode cX10_read 11 = .ok (.getfield 194, 3) := by decide +kernel
theorem dX10_read_14 : decode cX10_read 14 = .ok (.istore_n 2, 1) := by decide +kernel
theorem dX10_read_15 : decode cX10_read 15 = .ok (.aload_n 0, 1) := by decide +kernel
theorem dX10_read_16 : decode cX10_read 16 = .ok (.invokevirtual 262, 3) := by decide +kernel
theorem dX10_read_19 : decode cX10_read 19 = .ok (.lstore_n 3, 1) := by decide +kernel
theorem dX10_read_20 : decode cX10_read 20 = .ok (.aload_n 0, 1) := by decide +kernel
theorem dX10_read_21 : decode cX10_read 21 = .ok (.iconst 0, 1) := by decide +kernel
theorem dX10_read_22 : decode cX10_read 22 = .ok (.putfield 218, 3) := by decide +kernel
theorem dX10_read_25 : decode cX10_read 25 = .ok (.aload_n 0, 1) := by decide +kernel
theorem dX10_read_26 : decode cX10_read 26 = .ok (.iconst (-1), 1) := by decide +kernel
theorem dX10_read_27 : decode cX10_read 27 = .ok (.putfield 221, 3) := by decide +kernel
theorem dX10_read_30 : decode cX10_read 30 = .ok (.aload_n 0, 1) := by decide +kernel
theorem dX10_read_31 : decode cX10_read 31 = .ok (.iconst 0, 1) := by decide +kernel
theorem dX10_read_32 : decode cX10_read 32 = .ok (.putfield 224, 3) := by decide +kernel
theorem dX10_read_35 : decode cX10_read 35 = .ok (.aload_n 0, 1) := by decide +kernel
theorem dX10_read_36 : decode cX10_read 36 = .ok (.getfield 224, 3) := by decide +kernel
theorem dX10_read_39 : decode cX10_read 39 = .ok (.aload_n 0, 1) := by decide +kernel
theorem dX10_read_40 : decode cX10_read 40 = .ok (.getfield 211, 3) := by decide +kernel
theorem dX10_read_43 : decode cX10_read 43 = .ok (.if_icmp .ge 47, 3) := by decide +kernel
theorem dX10_read_90 : decode cX10_read 90 = .ok (.aload_n 0, 1) := by decide +kernel
theorem dX10_read_91 : decode cX10_read 91 = .ok (.iconst 0, 1) := by decide +kernel
theorem dX10_read_92 : decode cX10_read 92 = .ok (.putfield 211, 3) := by decide +kernel
theorem dX10_read_95 : decode cX10_read 95 = .ok (.aload_n 0, 1) := by decide +kernel
theorem dX10_read_96 : decode cX10_read 96 = .ok (.aload_n 0, 1) := by decide +kernel
theorem dX10_read_97 : decode cX10_read 97 = .ok (.getfield 221, 3) := by decide +kernel
theorem dX10_read_100 : decode cX10_read 100 = .ok (.putfield 46, 3) := by decide +kernel
theorem dX10_read_103 : decode cX10_read 103 = .ok (.aload_n 0, 1) := by decide +kernel
theorem dX10_read_104 : decode cX10_read 104 = .ok (.getfield 218, 3) := by decide +kernel
theorem dX10_read_107 : decode cX10_read 107 = .ok (.ifCond .le 16, 3) := by decide +kernel
theorem dX10_read_123 : decode cX10_read 123 = .ok (.aload_n 0, 1) := by decide +kernel
theorem dX10_read_124 : decode cX10_read 124 = .ok (.getfield 191, 3) := by decide +kernel
theorem dX10_read_127 : decode cX10_read 127 = .ok (.iload_n 1, 1) := by decide +kernel
theorem dX10_read_128 : decode cX10_read 128 = .ok (.if_icmp .gt 11, 3) := by decide +kernel
theorem dX10_read_131 : decode cX10_read 131 = .ok (.aload_n 0, 1) := by decide +kernel
theorem dX10_read_132 : decode cX10_read 132 = .ok (.getfield 194, 3) := by decide +kernel
theorem dX10_read_135 : decode cX10_read 135 = .ok (.iload_n 2, 1) := by decide +kernel
theorem dX10_read_136 : decode cX10_read 136 = .ok (.if_icmp .le 7, 3) := by decide +kernel
theorem dX10_read_143 : decode cX10_read 143 = .ok (.aload_n 0, 1) := by decide +kernel
theorem dX10_read_144 : decode cX10_read 144 = .ok (.getfield 218, 3) := by decide +kernel
theorem dX10_read_147 : decode cX10_read 147 = .ok (.ireturn, 1) := by decide +kernel
theorem dX10_place_0 : decode cX10_place 0 = .ok (.aload_n 0, 1) := by decide +kernel
theorem dX10_place_1 : decode cX10_place 1 = .ok (.iconst 0, 1) := by decide +kernel
theorem dX10_place_2 : decode cX10_place 2 = .ok (.putfield 1, 3) := by decide +kernel
theorem dX10_place_5 : decode cX10_place 5 = .ok (.aload_n 0, 1) := by decide +kernel
theorem dX10_place_6 : decode cX10_place 6 = .ok (.getfield 46, 3) := by decide +kernel
theorem dX10_place_9 : decode cX10_place 9 = .ok (.ireturn, 1) := by decide +kernel
theorem dX10_node_0 : decode cX10_node 0 = .ok (.aload_n 0, 1) := by decide +kernel
theorem dX10_node_1 : decode cX10_node 1 = .ok (.iload_n 1, 1) := by decide +kernel
theorem dX10_node_2 : decode cX10_node 2 = .ok (.i2l, 1) := by decide +kernel
theorem dX10_node_3 : decode cX10_node 3 = .ok (.invokestatic 197, 3) := by decide +kernel
theorem dX10_node_6 : decode cX10_node 6 = .ok (.ldc2_w 281, 3) := by decide +kernel
theorem dX10_node_9 : decode cX10_node 9 = .ok (.lcmp, 1) := by decide +kernel
theorem dX10_node_10 : decode cX10_node 10 = .ok (.ifCond .gt 15, 3) := by decide +kernel
theorem dX10_node_13 : decode cX10_node 13 = .ok (.iload_n 2, 1) := by decide +kernel
theorem dX10_node_14 : decode cX10_node 14 = .ok (.i2l, 1) := by decide +kernel
theorem dX10_node_15 : decode cX10_node 15 = .ok (.invokestatic 197, 3) := by decide +kernel
theorem dX10_node_18 : decode cX10_node 18 = .ok (.ldc2_w 281, 3) := by decide +kernel
theorem dX10_node_21 : decode cX10_node 21 = .ok (.lcmp, 1) := by decide +kernel
theorem dX10_node_22 : decode cX10_node 22 = .ok (.ifCond .le 7, 3) := by decide +kernel
theorem dX10_node_25 : decode cX10_node 25 = .ok (.iconst 1, 1) := by decide +kernel
theorem dX10_node_26 : decode cX10_node 26 = .ok (.goto 17, 3) := by decide +kernel
theorem dX10_node_29 : decode cX10_node 29 = .ok (.aload_n 0, 1) := by decide +kernel
theorem dX10_node_30 : decode cX10_node 30 = .ok (.getfield 191, 3) := by decide +kernel
theorem dX10_node_33 : decode cX10_node 33 = .ok (.bipush 24, 2) := by decide +kernel
theorem dX10_node_35 : decode cX10_node 35 = .ok (.if_icmp .ne 7, 3) := by decide +kernel
theorem dX10_node_42 : decode cX10_node 42 = .ok (.iconst 0, 1) := by decide +kernel
theorem dX10_node_43 : decode cX10_node 43 = .ok (.putfield 1, 3) := by decide +kernel
theorem dX10_node_46 : decode cX10_node 46 = .ok (.aload_n 0, 1) := by decide +kernel
theorem dX10_node_47 : decode cX10_node 47 = .ok (.getfield 1, 3) := by decide +kernel
theorem dX10_node_50 : decode cX10_node 50 = .ok (.ifCond .le 5, 3) := by decide +kernel
theorem dX10_node_53 : decode cX10_node 53 = .ok (.iconst 0, 1) := by decide +kernel
theorem dX10_node_54 : decode cX10_node 54 = .ok (.ireturn, 1) := by decide +kernel
theorem dX10_node_55 : decode cX10_node 55 = .ok (.aload_n 0, 1) := by decide +kernel
theorem dX10_node_56 : decode cX10_node 56 = .ok (.iload_n 1, 1) := by decide +kernel
theorem dX10_node_57 : decode cX10_node 57 = .ok (.iload_n 2, 1) := by decide +kernel
theorem dX10_node_58 : decode cX10_node 58 = .ok (.invokevirtual 283, 3) := by decide +kernel
theorem dX10_node_61 : decode cX10_node 61 = .ok (.aload_n 0, 1) := by decide +kernel
theorem dX10_node_62 : decode cX10_node 62 = .ok (.invokevirtual 272, 3) := by decide +kernel
theorem dX10_node_65 : decode cX10_node 65 = .ok (.aload_n 0, 1) := by decide +kernel
theorem dX10_node_66 : decode cX10_node 66 = .ok (.getfield 191, 3) := by decide +kernel
theorem dX10_node_69 : decode cX10_node 69 = .ok (.iconst 1, 1) := by decide +kernel
theorem dX10_node_70 : decode cX10_node 70 = .ok (.isub, 1) := by decide +kernel
theorem dX10_node_71 : decode cX10_node 71 = .ok (.ireturn, 1) := by decide +kernel
theorem dX10_arc_0 : decode cX10_arc 0 = .ok (.aload_n 0, 1) := by decide +kernel
theorem dX10_arc_1 : decode cX10_arc 1 = .ok (.aload_n 0, 1) := by decide +kernel
theorem dX10_arc_2 : decode cX10_arc 2 = .ok (.iload_n 1, 1) := by decide +kernel
theorem dX10_arc_3 : decode cX10_arc 3 = .ok (.invokevirtual 295, 3) := by decide +kernel
theorem dX10_arc_6 : decode cX10_arc 6 = .ok (.ifCond .eq 11, 3) := by decide +kernel
theorem dX10_arc_17 : decode cX10_arc 17 = .ok (.iconst 1, 1) := by decide +kernel
theorem dX10_arc_18 : decode cX10_arc 18 = .ok (.goto 46, 3) := by decide +kernel
theorem dX10_arc_64 : decode cX10_arc 64 = .ok (.putfield 1, 3) := by decide +kernel
theorem dX10_arc_67 : decode cX10_arc 67 = .ok (.aload_n 0, 1) := by decide +kernel
theorem dX10_arc_68 : decode cX10_arc 68 = .ok (.getfield 1, 3) := by decide +kernel
theorem dX10_arc_71 : decode cX10_arc 71 = .ok (.ifCond .le 5, 3) := by decide +kernel
theorem dX10_arc_74 : decode cX10_arc 74 = .ok (.iconst 0, 1) := by decide +kernel
theorem dX10_arc_75 : decode cX10_arc 75 = .ok (.ireturn, 1) := by decide +kernel
theorem dX10_weigh_0 : decode cX10_weigh 0 = .ok (.aload_n 0, 1) := by decide +kernel
theorem dX10_weigh_1 : decode cX10_weigh 1 = .ok (.aload_n 0, 1) := by decide +kernel
theorem dX10_weigh_2 : decode cX10_weigh 2 = .ok (.iload_n 1, 1) := by decide +kernel
theorem dX10_weigh_3 : decode cX10_weigh 3 = .ok (.invokevirtual 302, 3) := by decide +kernel
theorem dX10_weigh_6 : decode cX10_weigh 6 = .ok (.ifCond .ne 7, 3) := by decide +kernel
theorem dX10_weigh_9 : decode cX10_weigh 9 = .ok (.iconst 1, 1) := by decide +kernel
theorem dX10_weigh_10 : decode cX10_weigh 10 = .ok (.goto 39, 3) := by decide +kernel
theorem dX10_weigh_49 : decode cX10_weigh 49 = .ok (.putfield 1, 3) := by decide +kernel
theorem dX10_weigh_52 : decode cX10_weigh 52 = .ok (.aload_n 0, 1) := by decide +kernel
theorem dX10_weigh_53 : decode cX10_weigh 53 = .ok (.getfield 1, 3) := by decide +kernel
theorem dX10_weigh_56 : decode cX10_weigh 56 = .ok (.ifCond .le 5, 3) := by decide +kernel
theorem dX10_weigh_59 : decode cX10_weigh 59 = .ok (.lconst 0, 1) := by decide +kernel
theorem dX10_weigh_60 : decode cX10_weigh 60 = .ok (.lreturn, 1) := by decide +kernel
theorem dX10_search_0 : decode cX10_search 0 = .ok (.aload_n 0, 1) := by decide +kernel
theorem dX10_search_1 : decode cX10_search 1 = .ok (.iload_n 1, 1) := by decide +kernel
theorem dX10_search_2 : decode cX10_search 2 = .ok (.invokevirtual 295, 3) := by decide +kernel
theorem dX10_search_5 : decode cX10_search 5 = .ok (.ifCond .ne 9, 3) := by decide +kernel
theorem dX10_search_8 : decode cX10_search 8 = .ok (.aload_n 0, 1) := by decide +kernel
theorem dX10_search_9 : decode cX10_search 9 = .ok (.iconst 1, 1) := by decide +kernel
theorem dX10_search_10 : decode cX10_search 10 = .ok (.invokevirtual 330, 3) := by decide +kernel
theorem dX10_search_13 : decode cX10_search 13 = .ok (.ireturn, 1) := by decide +kernel
theorem dX10_goal_0 : decode cX10_goal 0 = .ok (.aload_n 0, 1) := by decide +kernel
theorem dX10_goal_1 : decode cX10_goal 1 = .ok (.aload_n 0, 1) := by decide +kernel
theorem dX10_goal_2 : decode cX10_goal 2 = .ok (.iload_n 1, 1) := by decide +kernel
theorem dX10_goal_3 : decode cX10_goal 3 = .ok (.invokevirtual 295, 3) := by decide +kernel
theorem dX10_goal_6 : decode cX10_goal 6 = .ok (.ifCond .eq 11, 3) := by decide +kernel
theorem dX10_goal_17 : decode cX10_goal 17 = .ok (.iconst 1, 1) := by decide +kernel
theorem dX10_goal_18 : decode cX10_goal 18 = .ok (.goto 15, 3) := by decide +kernel
theorem dX10_goal_33 : decode cX10_goal 33 = .ok (.putfield 1, 3) := by decide +kernel
theorem dX10_goal_36 : decode cX10_goal 36 = .ok (.aload_n 0, 1) := by decide +kernel
theorem dX10_goal_37 : decode cX10_goal 37 = .ok (.getfield 1, 3) := by decide +kernel
theorem dX10_goal_40 : decode cX10_goal 40 = .ok (.ifCond .le 5, 3) := by decide +kernel
theorem dX10_goal_43 : decode cX10_goal 43 = .ok (.iconst 0, 1) := by decide +kernel
theorem dX10_goal_44 : decode cX10_goal 44 = .ok (.ireturn, 1) := by decide +kernel
theorem dX10_both_0 : decode cX10_both 0 = .ok (.aload_n 0, 1) := by decide +kernel
theorem dX10_both_1 : decode cX10_both 1 = .ok (.iload_n 1, 1) := by decide +kernel
theorem dX10_both_2 : decode cX10_both 2 = .ok (.invokevirtual 295, 3) := by decide +kernel
theorem dX10_both_5 : decode cX10_both 5 = .ok (.ifCond .eq 11, 3) := by decide +kernel
theorem dX10_both_16 : decode cX10_both 16 = .ok (.aload_n 0, 1) := by decide +kernel
theorem dX10_both_17 : decode cX10_both 17 = .ok (.iconst 1, 1) := by decide +kernel
theorem dX10_both_18 : decode cX10_both 18 = .ok (.invokevirtual 330, 3) := by decide +kernel
theorem dX10_both_21 : decode cX10_both 21 = .ok (.ireturn, 1) := by decide +kernel
theorem dX10_landmarked_0 : decode cX10_landmarked 0 = .ok (.aload_n 0, 1) := by decide +kernel
theorem dX10_landmarked_1 : decode cX10_landmarked 1 = .ok (.aload_n 0, 1) := by decide +kernel
theorem dX10_landmarked_2 : decode cX10_landmarked 2 = .ok (.iload_n 1, 1) := by decide +kernel
theorem dX10_landmarked_3 : decode cX10_landmarked 3 = .ok (.invokevirtual 295, 3) := by decide +kernel
theorem dX10_landmarked_6 : decode cX10_landmarked 6 = .ok (.ifCond .eq 11, 3) := by decide +kernel
theorem dX10_landmarked_17 : decode cX10_landmarked 17 = .ok (.iconst 1, 1) := by decide +kernel
theorem dX10_landmarked_18 : decode cX10_landmarked 18 = .ok (.goto 15, 3) := by decide +kernel
theorem dX10_landmarked_33 : decode cX10_landmarked 33 = .ok (.putfield 1, 3) := by decide +kernel
theorem dX10_landmarked_36 : decode cX10_landmarked 36 = .ok (.aload_n 0, 1) := by decide +kernel
theorem dX10_landmarked_37 : decode cX10_landmarked 37 = .ok (.getfield 1, 3) := by decide +kernel
theorem dX10_landmarked_40 : decode cX10_landmarked 40 = .ok (.ifCond .le 5, 3) := by decide +kernel
theorem dX10_landmarked_43 : decode cX10_landmarked 43 = .ok (.iconst 0, 1) := by decide +kernel
theorem dX10_landmarked_44 : decode cX10_landmarked 44 = .ok (.ireturn, 1) := by decide +kernel
theorem dX10_potential_0 : decode cX10_potential 0 = .ok (.aload_n 0, 1) := by decide +kernel
theorem dX10_potential_1 : decode cX10_potential 1 = .ok (.aload_n 0, 1) := by decide +kernel
theorem dX10_potential_2 : decode cX10_potential 2 = .ok (.iload_n 1, 1) := by decide +kernel
theorem dX10_potential_3 : decode cX10_potential 3 = .ok (.invokevirtual 295, 3) := by decide +kernel
theorem dX10_potential_6 : decode cX10_potential 6 = .ok (.ifCond .ne 7, 3) := by decide +kernel
theorem dX10_potential_9 : decode cX10_potential 9 = .ok (.iconst 1, 1) := by decide +kernel
theorem dX10_potential_10 : decode cX10_potential 10 = .ok (.goto 54, 3) := by decide +kernel
theorem dX10_potential_64 : decode cX10_potential 64 = .ok (.putfield 1, 3) := by decide +kernel
theorem dX10_potential_67 : decode cX10_potential 67 = .ok (.aload_n 0, 1) := by decide +kernel
theorem dX10_potential_68 : decode cX10_potential 68 = .ok (.getfield 1, 3) := by decide +kernel
theorem dX10_potential_71 : decode cX10_potential 71 = .ok (.ifCond .le 5, 3) := by decide +kernel
theorem dX10_potential_74 : decode cX10_potential 74 = .ok (.lconst 0, 1) := by decide +kernel
theorem dX10_potential_75 : decode cX10_potential 75 = .ok (.lreturn, 1) := by decide +kernel
theorem dX10_straight_0 : decode cX10_straight 0 = .ok (.aload_n 0, 1) := by decide +kernel
theorem dX10_straight_1 : decode cX10_straight 1 = .ok (.aload_n 0, 1) := by decide +kernel
theorem dX10_straight_2 : decode cX10_straight 2 = .ok (.iload_n 1, 1) := by decide +kernel
theorem dX10_straight_3 : decode cX10_straight 3 = .ok (.invokevirtual 295, 3) := by decide +kernel
theorem dX10_straight_6 : decode cX10_straight 6 = .ok (.ifCond .ne 7, 3) := by decide +kernel
theorem dX10_straight_9 : decode cX10_straight 9 = .ok (.iconst 1, 1) := by decide +kernel
theorem dX10_straight_10 : decode cX10_straight 10 = .ok (.goto 19, 3) := by decide +kernel
theorem dX10_straight_29 : decode cX10_straight 29 = .ok (.putfield 1, 3) := by decide +kernel
theorem dX10_straight_32 : decode cX10_straight 32 = .ok (.aload_n 0, 1) := by decide +kernel
theorem dX10_straight_33 : decode cX10_straight 33 = .ok (.getfield 1, 3) := by decide +kernel
theorem dX10_straight_36 : decode cX10_straight 36 = .ok (.ifCond .le 5, 3) := by decide +kernel
theorem dX10_straight_39 : decode cX10_straight 39 = .ok (.iconst 0, 1) := by decide +kernel
theorem dX10_straight_40 : decode cX10_straight 40 = .ok (.ireturn, 1) := by decide +kernel
theorem dX10_landmark_0 : decode cX10_landmark 0 = .ok (.iconst 0, 1) := by decide +kernel
theorem dX10_landmark_1 : decode cX10_landmark 1 = .ok (.istore_n 2, 1) := by decide +kernel
theorem dX10_landmark_2 : decode cX10_landmark 2 = .ok (.iconst 0, 1) := by decide +kernel
theorem dX10_landmark_3 : decode cX10_landmark 3 = .ok (.istore_n 3, 1) := by decide +kernel
theorem dX10_landmark_4 : decode cX10_landmark 4 = .ok (.iload_n 3, 1) := by decide +kernel
theorem dX10_landmark_5 : decode cX10_landmark 5 = .ok (.aload_n 0, 1) := by decide +kernel
theorem dX10_landmark_6 : decode cX10_landmark 6 = .ok (.getfield 307, 3) := by decide +kernel
theorem dX10_landmark_9 : decode cX10_landmark 9 = .ok (.if_icmp .ge 29, 3) := by decide +kernel
theorem dX10_landmark_38 : decode cX10_landmark 38 = .ok (.aload_n 0, 1) := by decide +kernel
theorem dX10_landmark_39 : decode cX10_landmark 39 = .ok (.aload_n 0, 1) := by decide +kernel
theorem dX10_landmark_40 : decode cX10_landmark 40 = .ok (.iload_n 1, 1) := by decide +kernel
theorem dX10_landmark_41 : decode cX10_landmark 41 = .ok (.invokevirtual 295, 3) := by decide +kernel
theorem dX10_landmark_44 : decode cX10_landmark 44 = .ok (.ifCond .ne 7, 3) := by decide +kernel
theorem dX10_landmark_47 : decode cX10_landmark 47 = .ok (.iconst 1, 1) := by decide +kernel
theorem dX10_landmark_48 : decode cX10_landmark 48 = .ok (.goto 24, 3) := by decide +kernel
theorem dX10_landmark_72 : decode cX10_landmark 72 = .ok (.putfield 1, 3) := by decide +kernel
theorem dX10_landmark_75 : decode cX10_landmark 75 = .ok (.aload_n 0, 1) := by decide +kernel
theorem dX10_landmark_76 : decode cX10_landmark 76 = .ok (.getfield 1, 3) := by decide +kernel
theorem dX10_landmark_79 : decode cX10_landmark 79 = .ok (.ifCond .le 5, 3) := by decide +kernel
theorem dX10_landmark_82 : decode cX10_landmark 82 = .ok (.iconst 0, 1) := by decide +kernel
theorem dX10_landmark_83 : decode cX10_landmark 83 = .ok (.ireturn, 1) := by decide +kernel
theorem dX10_order_0 : decode cX10_order 0 = .ok (.iconst 0, 1) := by decide +kernel
theorem dX10_order_1 : decode cX10_order 1 = .ok (.istore_n 2, 1) := by decide +kernel
theorem dX10_order_2 : decode cX10_order 2 = .ok (.iconst 0, 1) := by decide +kernel
theorem dX10_order_3 : decode cX10_order 3 = .ok (.istore_n 3, 1) := by decide +kernel
theorem dX10_order_4 : decode cX10_order 4 = .ok (.iload_n 3, 1) := by decide +kernel
theorem dX10_order_5 : decode cX10_order 5 = .ok (.aload_n 0, 1) := by decide +kernel
theorem dX10_order_6 : decode cX10_order 6 = .ok (.getfield 310, 3) := by decide +kernel
theorem dX10_order_9 : decode cX10_order 9 = .ok (.if_icmp .ge 29, 3) := by decide +kernel
theorem dX10_order_38 : decode cX10_order 38 = .ok (.aload_n 0, 1) := by decide +kernel
theorem dX10_order_39 : decode cX10_order 39 = .ok (.aload_n 0, 1) := by decide +kernel
theorem dX10_order_40 : decode cX10_order 40 = .ok (.iload_n 1, 1) := by decide +kernel
theorem dX10_order_41 : decode cX10_order 41 = .ok (.invokevirtual 295, 3) := by decide +kernel
theorem dX10_order_44 : decode cX10_order 44 = .ok (.ifCond .ne 7, 3) := by decide +kernel
theorem dX10_order_47 : decode cX10_order 47 = .ok (.iconst 1, 1) := by decide +kernel
theorem dX10_order_48 : decode cX10_order 48 = .ok (.goto 12, 3) := by decide +kernel
theorem dX10_order_60 : decode cX10_order 60 = .ok (.putfield 1, 3) := by decide +kernel
theorem dX10_order_63 : decode cX10_order 63 = .ok (.aload_n 0, 1) := by decide +kernel
theorem dX10_order_64 : decode cX10_order 64 = .ok (.getfield 1, 3) := by decide +kernel
theorem dX10_order_67 : decode cX10_order 67 = .ok (.ifCond .le 5, 3) := by decide +kernel
theorem dX10_order_70 : decode cX10_order 70 = .ok (.iconst 0, 1) := by decide +kernel
theorem dX10_order_71 : decode cX10_order 71 = .ok (.ireturn, 1) := by decide +kernel
theorem dX10_query_0 : decode cX10_query 0 = .ok (.aload_n 0, 1) := by decide +kernel
theorem dX10_query_1 : decode cX10_query 1 = .ok (.aload_n 0, 1) := by decide +kernel
theorem dX10_query_2 : decode cX10_query 2 = .ok (.iload_n 1, 1) := by decide +kernel
theorem dX10_query_3 : decode cX10_query 3 = .ok (.invokevirtual 295, 3) := by decide +kernel
theorem dX10_query_6 : decode cX10_query 6 = .ok (.ifCond .eq 11, 3) := by decide +kernel
theorem dX10_query_17 : decode cX10_query 17 = .ok (.iconst 1, 1) := by decide +kernel
theorem dX10_query_18 : decode cX10_query 18 = .ok (.goto 15, 3) := by decide +kernel
theorem dX10_query_33 : decode cX10_query 33 = .ok (.putfield 1, 3) := by decide +kernel
theorem dX10_query_36 : decode cX10_query 36 = .ok (.aload_n 0, 1) := by decide +kernel
theorem dX10_query_37 : decode cX10_query 37 = .ok (.getfield 1, 3) := by decide +kernel
theorem dX10_query_40 : decode cX10_query 40 = .ok (.ifCond .le 5, 3) := by decide +kernel
theorem dX10_query_43 : decode cX10_query 43 = .ok (.iconst 0, 1) := by decide +kernel
theorem dX10_query_44 : decode cX10_query 44 = .ok (.ireturn, 1) := by decide +kernel
theorem dX10_about_0 : decode cX10_about 0 = .ok (.aload_n 0, 1) := by decide +kernel
theorem dX10_about_1 : decode cX10_about 1 = .ok (.iconst 0, 1) := by decide +kernel
theorem dX10_about_2 : decode cX10_about 2 = .ok (.putfield 1, 3) := by decide +kernel
theorem dX10_about_5 : decode cX10_about 5 = .ok (.iload_n 2, 1) := by decide +kernel
theorem dX10_about_6 : decode cX10_about 6 = .ok (.ifCond .eq 8, 3) := by decide +kernel
theorem dX10_about_9 : decode cX10_about 9 = .ok (.iload_n 2, 1) := by decide +kernel
theorem dX10_about_10 : decode cX10_about 10 = .ok (.iconst 1, 1) := by decide +kernel
theorem dX10_about_11 : decode cX10_about 11 = .ok (.if_icmp .ne 35, 3) := by decide +kernel
theorem dX10_about_14 : decode cX10_about 14 = .ok (.aload_n 0, 1) := by decide +kernel
theorem dX10_about_15 : decode cX10_about 15 = .ok (.iload_n 1, 1) := by decide +kernel
theorem dX10_about_16 : decode cX10_about 16 = .ok (.invokevirtual 302, 3) := by decide +kernel
theorem dX10_about_19 : decode cX10_about 19 = .ok (.ifCond .ne 7, 3) := by decide +kernel
theorem dX10_about_22 : decode cX10_about 22 = .ok (.iconst (-1), 1) := by decide +kernel
theorem dX10_about_23 : decode cX10_about 23 = .ok (.goto 22, 3) := by decide +kernel
theorem dX10_about_45 : decode cX10_about 45 = .ok (.ireturn, 1) := by decide +kernel
theorem dX10_about_46 : decode cX10_about 46 = .ok (.aload_n 0, 1) := by decide +kernel
theorem dX10_about_47 : decode cX10_about 47 = .ok (.iload_n 1, 1) := by decide +kernel
theorem dX10_about_48 : decode cX10_about 48 = .ok (.invokevirtual 295, 3) := by decide +kernel
theorem dX10_about_51 : decode cX10_about 51 = .ok (.ifCond .ne 5, 3) := by decide +kernel
theorem dX10_about_54 : decode cX10_about 54 = .ok (.iconst (-1), 1) := by decide +kernel
theorem dX10_about_55 : decode cX10_about 55 = .ok (.ireturn, 1) := by decide +kernel
theorem dX10_weight_0 : decode cX10_weight 0 = .ok (.aload_n 0, 1) := by decide +kernel
theorem dX10_weight_1 : decode cX10_weight 1 = .ok (.iconst 0, 1) := by decide +kernel
theorem dX10_weight_2 : decode cX10_weight 2 = .ok (.putfield 1, 3) := by decide +kernel
theorem dX10_weight_5 : decode cX10_weight 5 = .ok (.aload_n 0, 1) := by decide +kernel
theorem dX10_weight_6 : decode cX10_weight 6 = .ok (.iload_n 1, 1) := by decide +kernel
theorem dX10_weight_7 : decode cX10_weight 7 = .ok (.invokevirtual 302, 3) := by decide +kernel
theorem dX10_weight_10 : decode cX10_weight 10 = .ok (.ifCond .eq 12, 3) := by decide +kernel
theorem dX10_weight_22 : decode cX10_weight 22 = .ok (.ldc2_w 305, 3) := by decide +kernel
theorem dX10_weight_25 : decode cX10_weight 25 = .ok (.lreturn, 1) := by decide +kernel
theorem dX10_clear_0 : decode cX10_clear 0 = .ok (.aload_n 0, 1) := by decide +kernel
theorem dX10_clear_1 : decode cX10_clear 1 = .ok (.iconst 0, 1) := by decide +kernel
theorem dX10_clear_2 : decode cX10_clear 2 = .ok (.putfield 1, 3) := by decide +kernel
theorem dX10_clear_5 : decode cX10_clear 5 = .ok (.aload_n 0, 1) := by decide +kernel
theorem dX10_clear_6 : decode cX10_clear 6 = .ok (.getfield 191, 3) := by decide +kernel
theorem dX10_clear_9 : decode cX10_clear 9 = .ok (.istore_n 1, 1) := by decide +kernel
theorem dX10_clear_10 : decode cX10_clear 10 = .ok (.aload_n 0, 1) := by decide +kernel
theorem dX10_clear_11 : decode cX10_clear 11 = .ok (.iconst 0, 1) := by decide +kernel
theorem dX10_clear_12 : decode cX10_clear 12 = .ok (.putfield 191, 3) := by decide +kernel
theorem dX10_clear_15 : decode cX10_clear 15 = .ok (.aload_n 0, 1) := by decide +kernel
theorem dX10_clear_16 : decode cX10_clear 16 = .ok (.iconst 0, 1) := by decide +kernel
theorem dX10_clear_17 : decode cX10_clear 17 = .ok (.putfield 194, 3) := by decide +kernel
theorem dX10_clear_20 : decode cX10_clear 20 = .ok (.aload_n 0, 1) := by decide +kernel
theorem dX10_clear_21 : decode cX10_clear 21 = .ok (.iconst 0, 1) := by decide +kernel
theorem dX10_clear_22 : decode cX10_clear 22 = .ok (.putfield 307, 3) := by decide +kernel
theorem dX10_clear_25 : decode cX10_clear 25 = .ok (.aload_n 0, 1) := by decide +kernel
theorem dX10_clear_26 : decode cX10_clear 26 = .ok (.iconst 0, 1) := by decide +kernel
theorem dX10_clear_27 : decode cX10_clear 27 = .ok (.putfield 310, 3) := by decide +kernel
theorem dX10_clear_30 : decode cX10_clear 30 = .ok (.aload_n 0, 1) := by decide +kernel
theorem dX10_clear_31 : decode cX10_clear 31 = .ok (.iconst (-1), 1) := by decide +kernel
theorem dX10_clear_32 : decode cX10_clear 32 = .ok (.putfield 46, 3) := by decide +kernel
theorem dX10_clear_35 : decode cX10_clear 35 = .ok (.aload_n 0, 1) := by decide +kernel
theorem dX10_clear_36 : decode cX10_clear 36 = .ok (.invokevirtual 272, 3) := by decide +kernel
theorem dX10_clear_39 : decode cX10_clear 39 = .ok (.iload_n 1, 1) := by decide +kernel
theorem dX10_clear_40 : decode cX10_clear 40 = .ok (.ireturn, 1) := by decide +kernel
theorem dX10_settled_0 : decode cX10_settled 0 = .ok (.aload_n 0, 1) := by decide +kernel
theorem dX10_settled_1 : decode cX10_settled 1 = .ok (.iconst 0, 1) := by decide +kernel
theorem dX10_settled_2 : decode cX10_settled 2 = .ok (.putfield 1, 3) := by decide +kernel
theorem dX10_settled_5 : decode cX10_settled 5 = .ok (.aload_n 0, 1) := by decide +kernel
theorem dX10_settled_6 : decode cX10_settled 6 = .ok (.iload_n 1, 1) := by decide +kernel
theorem dX10_settled_7 : decode cX10_settled 7 = .ok (.invokevirtual 354, 3) := by decide +kernel
theorem dX10_settled_10 : decode cX10_settled 10 = .ok (.ifCond .eq 12, 3) := by decide +kernel
theorem dX10_settled_22 : decode cX10_settled 22 = .ok (.iconst (-1), 1) := by decide +kernel
theorem dX10_settled_23 : decode cX10_settled 23 = .ok (.ireturn, 1) := by decide +kernel
theorem dX10_length_0 : decode cX10_length 0 = .ok (.aload_n 0, 1) := by decide +kernel
theorem dX10_length_1 : decode cX10_length 1 = .ok (.iconst 0, 1) := by decide +kernel
theorem dX10_length_2 : decode cX10_length 2 = .ok (.putfield 1, 3) := by decide +kernel
theorem dX10_length_5 : decode cX10_length 5 = .ok (.aload_n 0, 1) := by decide +kernel
theorem dX10_length_6 : decode cX10_length 6 = .ok (.iload_n 1, 1) := by decide +kernel
theorem dX10_length_7 : decode cX10_length 7 = .ok (.invokevirtual 354, 3) := by decide +kernel
theorem dX10_length_10 : decode cX10_length 10 = .ok (.ifCond .eq 12, 3) := by decide +kernel
theorem dX10_length_22 : decode cX10_length 22 = .ok (.ldc2_w 305, 3) := by decide +kernel
theorem dX10_length_25 : decode cX10_length 25 = .ok (.lreturn, 1) := by decide +kernel
theorem dX10_count_0 : decode cX10_count 0 = .ok (.aload_n 0, 1) := by decide +kernel
theorem dX10_count_1 : decode cX10_count 1 = .ok (.iconst 0, 1) := by decide +kernel
theorem dX10_count_2 : decode cX10_count 2 = .ok (.putfield 1, 3) := by decide +kernel
theorem dX10_count_5 : decode cX10_count 5 = .ok (.aload_n 0, 1) := by decide +kernel
theorem dX10_count_6 : decode cX10_count 6 = .ok (.iload_n 1, 1) := by decide +kernel
theorem dX10_count_7 : decode cX10_count 7 = .ok (.invokevirtual 354, 3) := by decide +kernel
theorem dX10_count_10 : decode cX10_count 10 = .ok (.ifCond .eq 12, 3) := by decide +kernel
theorem dX10_count_22 : decode cX10_count 22 = .ok (.iconst (-1), 1) := by decide +kernel
theorem dX10_count_23 : decode cX10_count 23 = .ok (.ireturn, 1) := by decide +kernel
theorem dX10_distance_0 : decode cX10_distance 0 = .ok (.aload_n 0, 1) := by decide +kernel
theorem dX10_distance_1 : decode cX10_distance 1 = .ok (.iconst 0, 1) := by decide +kernel
theorem dX10_distance_2 : decode cX10_distance 2 = .ok (.putfield 1, 3) := by decide +kernel
theorem dX10_distance_5 : decode cX10_distance 5 = .ok (.aload_n 0, 1) := by decide +kernel
theorem dX10_distance_6 : decode cX10_distance 6 = .ok (.iload_n 1, 1) := by decide +kernel
theorem dX10_distance_7 : decode cX10_distance 7 = .ok (.invokevirtual 295, 3) := by decide +kernel
theorem dX10_distance_10 : decode cX10_distance 10 = .ok (.ifCond .eq 11, 3) := by decide +kernel
theorem dX10_distance_21 : decode cX10_distance 21 = .ok (.ldc2_w 305, 3) := by decide +kernel
theorem dX10_distance_24 : decode cX10_distance 24 = .ok (.lreturn, 1) := by decide +kernel
theorem dX10_arcs_0 : decode cX10_arcs 0 = .ok (.aload_n 0, 1) := by decide +kernel
theorem dX10_arcs_1 : decode cX10_arcs 1 = .ok (.iconst 0, 1) := by decide +kernel
theorem dX10_arcs_2 : decode cX10_arcs 2 = .ok (.putfield 1, 3) := by decide +kernel
theorem dX10_arcs_5 : decode cX10_arcs 5 = .ok (.aload_n 0, 1) := by decide +kernel
theorem dX10_arcs_6 : decode cX10_arcs 6 = .ok (.iload_n 1, 1) := by decide +kernel
theorem dX10_arcs_7 : decode cX10_arcs 7 = .ok (.invokevirtual 295, 3) := by decide +kernel
theorem dX10_arcs_10 : decode cX10_arcs 10 = .ok (.ifCond .eq 11, 3) := by decide +kernel
theorem dX10_arcs_21 : decode cX10_arcs 21 = .ok (.iconst (-1), 1) := by decide +kernel
theorem dX10_arcs_22 : decode cX10_arcs 22 = .ok (.ireturn, 1) := by decide +kernel
theorem dX10_inconsistent_0 : decode cX10_inconsistent 0 = .ok (.aload_n 0, 1) := by decide +kernel
theorem dX10_inconsistent_1 : decode cX10_inconsistent 1 = .ok (.iconst 0, 1) := by decide +kernel
theorem dX10_inconsistent_2 : decode cX10_inconsistent 2 = .ok (.putfield 1, 3) := by decide +kernel
theorem dX10_inconsistent_5 : decode cX10_inconsistent 5 = .ok (.aload_n 0, 1) := by decide +kernel
theorem dX10_inconsistent_6 : decode cX10_inconsistent 6 = .ok (.invokevirtual 340, 3) := by decide +kernel
theorem dX10_inconsistent_9 : decode cX10_inconsistent 9 = .ok (.ireturn, 1) := by decide +kernel
theorem dX10_bound_0 : decode cX10_bound 0 = .ok (.aload_n 0, 1) := by decide +kernel
theorem dX10_bound_1 : decode cX10_bound 1 = .ok (.iconst 0, 1) := by decide +kernel
theorem dX10_bound_2 : decode cX10_bound 2 = .ok (.putfield 1, 3) := by decide +kernel
theorem dX10_bound_5 : decode cX10_bound 5 = .ok (.aload_n 0, 1) := by decide +kernel
theorem dX10_bound_6 : decode cX10_bound 6 = .ok (.iload_n 1, 1) := by decide +kernel
theorem dX10_bound_7 : decode cX10_bound 7 = .ok (.invokevirtual 295, 3) := by decide +kernel
theorem dX10_bound_10 : decode cX10_bound 10 = .ok (.ifCond .eq 18, 3) := by decide +kernel
theorem dX10_bound_28 : decode cX10_bound 28 = .ok (.ldc2_w 305, 3) := by decide +kernel
theorem dX10_bound_31 : decode cX10_bound 31 = .ok (.lreturn, 1) := by decide +kernel
theorem dX10_ready_0 : decode cX10_ready 0 = .ok (.aload_n 0, 1) := by decide +kernel
theorem dX10_ready_1 : decode cX10_ready 1 = .ok (.iconst 0, 1) := by decide +kernel
theorem dX10_ready_2 : decode cX10_ready 2 = .ok (.putfield 1, 3) := by decide +kernel
theorem dX10_ready_5 : decode cX10_ready 5 = .ok (.aload_n 0, 1) := by decide +kernel
theorem dX10_ready_6 : decode cX10_ready 6 = .ok (.getfield 201, 3) := by decide +kernel
theorem dX10_ready_9 : decode cX10_ready 9 = .ok (.ifCond .eq 7, 3) := by decide +kernel
theorem dX10_ready_16 : decode cX10_ready 16 = .ok (.iconst 0, 1) := by decide +kernel
theorem dX10_ready_17 : decode cX10_ready 17 = .ok (.ireturn, 1) := by decide +kernel
theorem dX10_ranked_0 : decode cX10_ranked 0 = .ok (.aload_n 0, 1) := by decide +kernel
theorem dX10_ranked_1 : decode cX10_ranked 1 = .ok (.iconst 0, 1) := by decide +kernel
theorem dX10_ranked_2 : decode cX10_ranked 2 = .ok (.putfield 1, 3) := by decide +kernel
theorem dX10_ranked_5 : decode cX10_ranked 5 = .ok (.aload_n 0, 1) := by decide +kernel
theorem dX10_ranked_6 : decode cX10_ranked 6 = .ok (.getfield 201, 3) := by decide +kernel
theorem dX10_ranked_9 : decode cX10_ranked 9 = .ok (.ifCond .eq 24, 3) := by decide +kernel
theorem dX10_ranked_33 : decode cX10_ranked 33 = .ok (.iconst (-1), 1) := by decide +kernel
theorem dX10_ranked_34 : decode cX10_ranked 34 = .ok (.ireturn, 1) := by decide +kernel
theorem dX10_edge_0 : decode cX10_edge 0 = .ok (.aload_n 0, 1) := by decide +kernel
theorem dX10_edge_1 : decode cX10_edge 1 = .ok (.iconst 0, 1) := by decide +kernel
theorem dX10_edge_2 : decode cX10_edge 2 = .ok (.putfield 1, 3) := by decide +kernel
theorem dX10_edge_5 : decode cX10_edge 5 = .ok (.aload_n 0, 1) := by decide +kernel
theorem dX10_edge_6 : decode cX10_edge 6 = .ok (.iload_n 1, 1) := by decide +kernel
theorem dX10_edge_7 : decode cX10_edge 7 = .ok (.iload_n 2, 1) := by decide +kernel
theorem dX10_edge_8 : decode cX10_edge 8 = .ok (.iload_n 3, 1) := by decide +kernel
theorem dX10_edge_9 : decode cX10_edge 9 = .ok (.invokevirtual 381, 3) := by decide +kernel
theorem dX10_edge_12 : decode cX10_edge 12 = .ok (.istore 5, 2) := by decide +kernel
theorem dX10_edge_14 : decode cX10_edge 14 = .ok (.iload 5, 2) := by decide +kernel
theorem dX10_edge_16 : decode cX10_edge 16 = .ok (.ifCond .ge 5, 3) := by decide +kernel
theorem dX10_edge_19 : decode cX10_edge 19 = .ok (.iconst (-1), 1) := by decide +kernel
theorem dX10_edge_20 : decode cX10_edge 20 = .ok (.ireturn, 1) := by decide +kernel
theorem dX10_edgeLength_0 : decode cX10_edgeLength 0 = .ok (.aload_n 0, 1) := by decide +kernel
theorem dX10_edgeLength_1 : decode cX10_edgeLength 1 = .ok (.iconst 0, 1) := by decide +kernel
theorem dX10_edgeLength_2 : decode cX10_edgeLength 2 = .ok (.putfield 1, 3) := by decide +kernel
theorem dX10_edgeLength_5 : decode cX10_edgeLength 5 = .ok (.aload_n 0, 1) := by decide +kernel
theorem dX10_edgeLength_6 : decode cX10_edgeLength 6 = .ok (.iload_n 1, 1) := by decide +kernel
theorem dX10_edgeLength_7 : decode cX10_edgeLength 7 = .ok (.iload_n 2, 1) := by decide +kernel
theorem dX10_edgeLength_8 : decode cX10_edgeLength 8 = .ok (.iload_n 3, 1) := by decide +kernel
theorem dX10_edgeLength_9 : decode cX10_edgeLength 9 = .ok (.invokevirtual 381, 3) := by decide +kernel
theorem dX10_edgeLength_12 : decode cX10_edgeLength 12 = .ok (.istore 4, 2) := by decide +kernel
theorem dX10_edgeLength_14 : decode cX10_edgeLength 14 = .ok (.iload 4, 2) := by decide +kernel
theorem dX10_edgeLength_16 : decode cX10_edgeLength 16 = .ok (.ifCond .ge 9, 3) := by decide +kernel
theorem dX10_edgeLength_19 : decode cX10_edgeLength 19 = .ok (.ldc2_w 305, 3) := by decide +kernel
theorem dX10_edgeLength_22 : decode cX10_edgeLength 22 = .ok (.goto 24, 3) := by decide +kernel
theorem dX10_edgeLength_46 : decode cX10_edgeLength 46 = .ok (.lreturn, 1) := by decide +kernel
theorem dX10_told_0 : decode cX10_told 0 = .ok (.aload_n 0, 1) := by decide +kernel
theorem dX10_told_1 : decode cX10_told 1 = .ok (.iconst 0, 1) := by decide +kernel
theorem dX10_told_2 : decode cX10_told 2 = .ok (.putfield 1, 3) := by decide +kernel
theorem dX10_told_5 : decode cX10_told 5 = .ok (.aload_n 0, 1) := by decide +kernel
theorem dX10_told_6 : decode cX10_told 6 = .ok (.getfield 208, 3) := by decide +kernel
theorem dX10_told_9 : decode cX10_told 9 = .ok (.ifCond .ne 5, 3) := by decide +kernel
theorem dX10_told_12 : decode cX10_told 12 = .ok (.iconst (-1), 1) := by decide +kernel
theorem dX10_told_13 : decode cX10_told 13 = .ok (.ireturn, 1) := by decide +kernel
theorem dX10_found_0 : decode cX10_found 0 = .ok (.aload_n 0, 1) := by decide +kernel
theorem dX10_found_1 : decode cX10_found 1 = .ok (.iconst 0, 1) := by decide +kernel
theorem dX10_found_2 : decode cX10_found 2 = .ok (.putfield 1, 3) := by decide +kernel
theorem dX10_found_5 : decode cX10_found 5 = .ok (.aload_n 0, 1) := by decide +kernel
theorem dX10_found_6 : decode cX10_found 6 = .ok (.getfield 208, 3) := by decide +kernel
theorem dX10_found_9 : decode cX10_found 9 = .ok (.ifCond .eq 17, 3) := by decide +kernel
theorem dX10_found_26 : decode cX10_found 26 = .ok (.ldc2_w 305, 3) := by decide +kernel
theorem dX10_found_29 : decode cX10_found 29 = .ok (.lreturn, 1) := by decide +kernel
theorem dX10_step_0 : decode cX10_step 0 = .ok (.aload_n 0, 1) := by decide +kernel
theorem dX10_step_1 : decode cX10_step 1 = .ok (.iconst 0, 1) := by decide +kernel
theorem dX10_step_2 : decode cX10_step 2 = .ok (.putfield 1, 3) := by decide +kernel
theorem dX10_step_5 : decode cX10_step 5 = .ok (.aload_n 0, 1) := by decide +kernel
theorem dX10_step_6 : decode cX10_step 6 = .ok (.getfield 208, 3) := by decide +kernel
theorem dX10_step_9 : decode cX10_step 9 = .ok (.ifCond .eq 31, 3) := by decide +kernel
theorem dX10_step_40 : decode cX10_step 40 = .ok (.iconst (-1), 1) := by decide +kernel
theorem dX10_step_41 : decode cX10_step 41 = .ok (.ireturn, 1) := by decide +kernel
theorem dX10_relaxed_0 : decode cX10_relaxed 0 = .ok (.aload_n 0, 1) := by decide +kernel
theorem dX10_relaxed_1 : decode cX10_relaxed 1 = .ok (.iconst 0, 1) := by decide +kernel
theorem dX10_relaxed_2 : decode cX10_relaxed 2 = .ok (.putfield 1, 3) := by decide +kernel
theorem dX10_relaxed_5 : decode cX10_relaxed 5 = .ok (.aload_n 0, 1) := by decide +kernel
theorem dX10_relaxed_6 : decode cX10_relaxed 6 = .ok (.getfield 208, 3) := by decide +kernel
theorem dX10_relaxed_9 : decode cX10_relaxed 9 = .ok (.ifCond .eq 15, 3) := by decide +kernel
theorem dX10_relaxed_24 : decode cX10_relaxed 24 = .ok (.iconst (-1), 1) := by decide +kernel
theorem dX10_relaxed_25 : decode cX10_relaxed 25 = .ok (.ireturn, 1) := by decide +kernel
theorem dX10_reached_0 : decode cX10_reached 0 = .ok (.aload_n 0, 1) := by decide +kernel
theorem dX10_reached_1 : decode cX10_reached 1 = .ok (.iconst 0, 1) := by decide +kernel
theorem dX10_reached_2 : decode cX10_reached 2 = .ok (.putfield 1, 3) := by decide +kernel
theorem dX10_reached_5 : decode cX10_reached 5 = .ok (.aload_n 0, 1) := by decide +kernel
theorem dX10_reached_6 : decode cX10_reached 6 = .ok (.iload_n 1, 1) := by decide +kernel
theorem dX10_reached_7 : decode cX10_reached 7 = .ok (.invokevirtual 295, 3) := by decide +kernel
theorem dX10_reached_10 : decode cX10_reached 10 = .ok (.ifCond .eq 7, 3) := by decide +kernel
theorem dX10_reached_17 : decode cX10_reached 17 = .ok (.iconst (-1), 1) := by decide +kernel
theorem dX10_reached_18 : decode cX10_reached 18 = .ok (.ireturn, 1) := by decide +kernel
theorem dX10_total_0 : decode cX10_total 0 = .ok (.aload_n 0, 1) := by decide +kernel
theorem dX10_total_1 : decode cX10_total 1 = .ok (.iconst 0, 1) := by decide +kernel
theorem dX10_total_2 : decode cX10_total 2 = .ok (.putfield 1, 3) := by decide +kernel
theorem dX10_total_5 : decode cX10_total 5 = .ok (.iconst 0, 1) := by decide +kernel
theorem dX10_total_6 : decode cX10_total 6 = .ok (.istore_n 2, 1) := by decide +kernel
theorem dX10_total_7 : decode cX10_total 7 = .ok (.iload_n 1, 1) := by decide +kernel
theorem dX10_total_8 : decode cX10_total 8 = .ok (.tableswitch 175 0 8 #[52, 57, 62, 67, 72, 77, 82, 82, 170], 52) := by decide +kernel
theorem dX10_total_60 : decode cX10_total 60 = .ok (.aload_n 0, 1) := by decide +kernel
theorem dX10_total_61 : decode cX10_total 61 = .ok (.getfield 191, 3) := by decide +kernel
theorem dX10_total_64 : decode cX10_total 64 = .ok (.ireturn, 1) := by decide +kernel
theorem dX10_total_65 : decode cX10_total 65 = .ok (.aload_n 0, 1) := by decide +kernel
theorem dX10_total_66 : decode cX10_total 66 = .ok (.getfield 194, 3) := by decide +kernel
theorem dX10_total_69 : decode cX10_total 69 = .ok (.ireturn, 1) := by decide +kernel
theorem dX10_total_70 : decode cX10_total 70 = .ok (.aload_n 0, 1) := by decide +kernel
theorem dX10_total_71 : decode cX10_total 71 = .ok (.getfield 211, 3) := by decide +kernel
theorem dX10_total_74 : decode cX10_total 74 = .ok (.ireturn, 1) := by decide +kernel
theorem dX10_total_75 : decode cX10_total 75 = .ok (.aload_n 0, 1) := by decide +kernel
theorem dX10_total_76 : decode cX10_total 76 = .ok (.getfield 365, 3) := by decide +kernel
theorem dX10_total_79 : decode cX10_total 79 = .ok (.ireturn, 1) := by decide +kernel
theorem dX10_total_80 : decode cX10_total 80 = .ok (.aload_n 0, 1) := by decide +kernel
theorem dX10_total_81 : decode cX10_total 81 = .ok (.getfield 307, 3) := by decide +kernel
theorem dX10_total_84 : decode cX10_total 84 = .ok (.ireturn, 1) := by decide +kernel
theorem dX10_total_85 : decode cX10_total 85 = .ok (.aload_n 0, 1) := by decide +kernel
theorem dX10_total_86 : decode cX10_total 86 = .ok (.getfield 310, 3) := by decide +kernel
theorem dX10_total_89 : decode cX10_total 89 = .ok (.ireturn, 1) := by decide +kernel
theorem dX10_total_90 : decode cX10_total 90 = .ok (.iconst 0, 1) := by decide +kernel
theorem dX10_total_91 : decode cX10_total 91 = .ok (.istore_n 3, 1) := by decide +kernel
theorem dX10_total_92 : decode cX10_total 92 = .ok (.aload_n 0, 1) := by decide +kernel
theorem dX10_total_93 : decode cX10_total 93 = .ok (.getfield 201, 3) := by decide +kernel
theorem dX10_total_96 : decode cX10_total 96 = .ok (.ifCond .eq 80, 3) := by decide +kernel
theorem dX10_total_176 : decode cX10_total 176 = .ok (.iload_n 2, 1) := by decide +kernel
theorem dX10_total_177 : decode cX10_total 177 = .ok (.ireturn, 1) := by decide +kernel
theorem dX10_total_178 : decode cX10_total 178 = .ok (.aload_n 0, 1) := by decide +kernel
theorem dX10_total_179 : decode cX10_total 179 = .ok (.getfield 205, 3) := by decide +kernel
theorem dX10_total_182 : decode cX10_total 182 = .ok (.ireturn, 1) := by decide +kernel
theorem dX10_total_183 : decode cX10_total 183 = .ok (.iconst (-1), 1) := by decide +kernel
theorem dX10_total_184 : decode cX10_total 184 = .ok (.ireturn, 1) := by decide +kernel
theorem dX10_factors_0 : decode cX10_factors 0 = .ok (.aload_n 0, 1) := by decide +kernel
theorem dX10_factors_1 : decode cX10_factors 1 = .ok (.iconst 0, 1) := by decide +kernel
theorem dX10_factors_2 : decode cX10_factors 2 = .ok (.putfield 1, 3) := by decide +kernel
theorem dX10_factors_5 : decode cX10_factors 5 = .ok (.iload_n 1, 1) := by decide +kernel
theorem dX10_factors_6 : decode cX10_factors 6 = .ok (.ifCond .lt 33, 3) := by decide +kernel
theorem dX10_factors_9 : decode cX10_factors 9 = .ok (.iload_n 1, 1) := by decide +kernel
theorem dX10_factors_10 : decode cX10_factors 10 = .ok (.bipush 9, 2) := by decide +kernel
theorem dX10_factors_12 : decode cX10_factors 12 = .ok (.if_icmp .gt 27, 3) := by decide +kernel
theorem dX10_factors_15 : decode cX10_factors 15 = .ok (.iload_n 2, 1) := by decide +kernel
theorem dX10_factors_16 : decode cX10_factors 16 = .ok (.ifCond .lt 23, 3) := by decide +kernel
theorem dX10_factors_19 : decode cX10_factors 19 = .ok (.iload_n 2, 1) := by decide +kernel
theorem dX10_factors_20 : decode cX10_factors 20 = .ok (.bipush 9, 2) := by decide +kernel
theorem dX10_factors_22 : decode cX10_factors 22 = .ok (.if_icmp .gt 17, 3) := by decide +kernel
theorem dX10_factors_25 : decode cX10_factors 25 = .ok (.iload_n 3, 1) := by decide +kernel
theorem dX10_factors_26 : decode cX10_factors 26 = .ok (.ifCond .lt 13, 3) := by decide +kernel
theorem dX10_factors_29 : decode cX10_factors 29 = .ok (.iload_n 3, 1) := by decide +kernel
theorem dX10_factors_30 : decode cX10_factors 30 = .ok (.bipush 9, 2) := by decide +kernel
theorem dX10_factors_32 : decode cX10_factors 32 = .ok (.if_icmp .gt 7, 3) := by decide +kernel
theorem dX10_factors_35 : decode cX10_factors 35 = .ok (.iconst 1, 1) := by decide +kernel
theorem dX10_factors_36 : decode cX10_factors 36 = .ok (.goto 4, 3) := by decide +kernel
theorem dX10_factors_39 : decode cX10_factors 39 = .ok (.iconst 0, 1) := by decide +kernel
theorem dX10_factors_40 : decode cX10_factors 40 = .ok (.istore 4, 2) := by decide +kernel
theorem dX10_factors_42 : decode cX10_factors 42 = .ok (.iload 4, 2) := by decide +kernel
theorem dX10_factors_44 : decode cX10_factors 44 = .ok (.ifCond .ne 5, 3) := by decide +kernel
theorem dX10_factors_47 : decode cX10_factors 47 = .ok (.iconst 0, 1) := by decide +kernel
theorem dX10_factors_48 : decode cX10_factors 48 = .ok (.ireturn, 1) := by decide +kernel
theorem dX10_factors_49 : decode cX10_factors 49 = .ok (.aload_n 0, 1) := by decide +kernel
theorem dX10_factors_50 : decode cX10_factors 50 = .ok (.getfield 39, 3) := by decide +kernel
theorem dX10_factors_53 : decode cX10_factors 53 = .ok (.iconst 0, 1) := by decide +kernel
theorem dX10_factors_54 : decode cX10_factors 54 = .ok (.iload_n 1, 1) := by decide +kernel
theorem dX10_factors_55 : decode cX10_factors 55 = .ok (.iastore, 1) := by decide +kernel
theorem dX10_factors_56 : decode cX10_factors 56 = .ok (.aload_n 0, 1) := by decide +kernel
theorem dX10_factors_57 : decode cX10_factors 57 = .ok (.getfield 39, 3) := by decide +kernel
theorem dX10_factors_60 : decode cX10_factors 60 = .ok (.iconst 1, 1) := by decide +kernel
theorem dX10_factors_61 : decode cX10_factors 61 = .ok (.iload_n 2, 1) := by decide +kernel
theorem dX10_factors_62 : decode cX10_factors 62 = .ok (.iastore, 1) := by decide +kernel
theorem dX10_factors_63 : decode cX10_factors 63 = .ok (.aload_n 0, 1) := by decide +kernel
theorem dX10_factors_64 : decode cX10_factors 64 = .ok (.getfield 39, 3) := by decide +kernel
theorem dX10_factors_67 : decode cX10_factors 67 = .ok (.iconst 2, 1) := by decide +kernel
theorem dX10_factors_68 : decode cX10_factors 68 = .ok (.iload_n 3, 1) := by decide +kernel
theorem dX10_factors_69 : decode cX10_factors 69 = .ok (.iastore, 1) := by decide +kernel
theorem dX10_factors_70 : decode cX10_factors 70 = .ok (.iconst 1, 1) := by decide +kernel
theorem dX10_factors_71 : decode cX10_factors 71 = .ok (.ireturn, 1) := by decide +kernel
theorem dX10_prepare_0 : decode cX10_prepare 0 = .ok (.aload_n 0, 1) := by decide +kernel
theorem dX10_prepare_1 : decode cX10_prepare 1 = .ok (.aload_n 0, 1) := by decide +kernel
theorem dX10_prepare_2 : decode cX10_prepare 2 = .ok (.getfield 365, 3) := by decide +kernel
theorem dX10_prepare_5 : decode cX10_prepare 5 = .ok (.bipush 24, 2) := by decide +kernel
theorem dX10_prepare_7 : decode cX10_prepare 7 = .ok (.if_icmp .ne 7, 3) := by decide +kernel
theorem dX10_prepare_14 : decode cX10_prepare 14 = .ok (.iconst 0, 1) := by decide +kernel
theorem dX10_prepare_15 : decode cX10_prepare 15 = .ok (.putfield 1, 3) := by decide +kernel
theorem dX10_prepare_18 : decode cX10_prepare 18 = .ok (.aload_n 0, 1) := by decide +kernel
theorem dX10_prepare_19 : decode cX10_prepare 19 = .ok (.getfield 1, 3) := by decide +kernel
theorem dX10_prepare_22 : decode cX10_prepare 22 = .ok (.ifCond .le 5, 3) := by decide +kernel
theorem dX10_prepare_27 : decode cX10_prepare 27 = .ok (.aload_n 0, 1) := by decide +kernel
theorem dX10_prepare_28 : decode cX10_prepare 28 = .ok (.invokevirtual 368, 3) := by decide +kernel
theorem dX10_prepare_31 : decode cX10_prepare 31 = .ok (.iconst 0, 1) := by decide +kernel
theorem dX10_prepare_32 : decode cX10_prepare 32 = .ok (.istore_n 1, 1) := by decide +kernel
theorem dX10_prepare_33 : decode cX10_prepare 33 = .ok (.iconst 0, 1) := by decide +kernel
theorem dX10_prepare_34 : decode cX10_prepare 34 = .ok (.istore_n 2, 1) := by decide +kernel
theorem dX10_prepare_35 : decode cX10_prepare 35 = .ok (.iload_n 2, 1) := by decide +kernel
theorem dX10_prepare_36 : decode cX10_prepare 36 = .ok (.aload_n 0, 1) := by decide +kernel
theorem dX10_prepare_37 : decode cX10_prepare 37 = .ok (.getfield 191, 3) := by decide +kernel
theorem dX10_prepare_40 : decode cX10_prepare 40 = .ok (.if_icmp .ge 83, 3) := by decide +kernel
theorem dX10_prepare_123 : decode cX10_prepare 123 = .ok (.aload_n 0, 1) := by decide +kernel
theorem dX10_prepare_124 : decode cX10_prepare 124 = .ok (.iload_n 1, 1) := by decide +kernel
theorem dX10_prepare_125 : decode cX10_prepare 125 = .ok (.invokevirtual 378, 3) := by decide +kernel
theorem dX10_prepare_128 : decode cX10_prepare 128 = .ok (.ireturn, 1) := by decide +kernel
theorem dX10_prepareTold_0 : decode cX10_prepareTold 0 = .ok (.aload_n 0, 1) := by decide +kernel
theorem dX10_prepareTold_1 : decode cX10_prepareTold 1 = .ok (.aload_n 0, 1) := by decide +kernel
theorem dX10_prepareTold_2 : decode cX10_prepareTold 2 = .ok (.getfield 310, 3) := by decide +kernel
theorem dX10_prepareTold_5 : decode cX10_prepareTold 5 = .ok (.aload_n 0, 1) := by decide +kernel
theorem dX10_prepareTold_6 : decode cX10_prepareTold 6 = .ok (.getfield 191, 3) := by decide +kernel
theorem dX10_prepareTold_9 : decode cX10_prepareTold 9 = .ok (.if_icmp .ge 7, 3) := by decide +kernel
theorem dX10_prepareTold_16 : decode cX10_prepareTold 16 = .ok (.aload_n 0, 1) := by decide +kernel
theorem dX10_prepareTold_17 : decode cX10_prepareTold 17 = .ok (.getfield 365, 3) := by decide +kernel
theorem dX10_prepareTold_20 : decode cX10_prepareTold 20 = .ok (.bipush 24, 2) := by decide +kernel
theorem dX10_prepareTold_22 : decode cX10_prepareTold 22 = .ok (.if_icmp .ne 7, 3) := by decide +kernel
theorem dX10_prepareTold_29 : decode cX10_prepareTold 29 = .ok (.iconst 0, 1) := by decide +kernel
theorem dX10_prepareTold_30 : decode cX10_prepareTold 30 = .ok (.putfield 1, 3) := by decide +kernel
theorem dX10_prepareTold_33 : decode cX10_prepareTold 33 = .ok (.aload_n 0, 1) := by decide +kernel
theorem dX10_prepareTold_34 : decode cX10_prepareTold 34 = .ok (.getfield 1, 3) := by decide +kernel
theorem dX10_prepareTold_37 : decode cX10_prepareTold 37 = .ok (.ifCond .le 5, 3) := by decide +kernel
theorem dX10_prepareTold_42 : decode cX10_prepareTold 42 = .ok (.aload_n 0, 1) := by decide +kernel
theorem dX10_prepareTold_43 : decode cX10_prepareTold 43 = .ok (.invokevirtual 368, 3) := by decide +kernel
theorem dX10_prepareTold_46 : decode cX10_prepareTold 46 = .ok (.iconst 0, 1) := by decide +kernel
theorem dX10_prepareTold_47 : decode cX10_prepareTold 47 = .ok (.istore_n 1, 1) := by decide +kernel
theorem dX10_prepareTold_48 : decode cX10_prepareTold 48 = .ok (.iconst 0, 1) := by decide +kernel
theorem dX10_prepareTold_49 : decode cX10_prepareTold 49 = .ok (.istore_n 2, 1) := by decide +kernel
theorem dX10_prepareTold_50 : decode cX10_prepareTold 50 = .ok (.iload_n 2, 1) := by decide +kernel
theorem dX10_prepareTold_51 : decode cX10_prepareTold 51 = .ok (.aload_n 0, 1) := by decide +kernel
theorem dX10_prepareTold_52 : decode cX10_prepareTold 52 = .ok (.getfield 191, 3) := by decide +kernel
theorem dX10_prepareTold_55 : decode cX10_prepareTold 55 = .ok (.if_icmp .ge 23, 3) := by decide +kernel
theorem dX10_prepareTold_78 : decode cX10_prepareTold 78 = .ok (.aload_n 0, 1) := by decide +kernel
theorem dX10_prepareTold_79 : decode cX10_prepareTold 79 = .ok (.iconst 0, 1) := by decide +kernel
theorem dX10_prepareTold_80 : decode cX10_prepareTold 80 = .ok (.putfield 310, 3) := by decide +kernel
theorem dX10_prepareTold_83 : decode cX10_prepareTold 83 = .ok (.aload_n 0, 1) := by decide +kernel
theorem dX10_prepareTold_84 : decode cX10_prepareTold 84 = .ok (.iload_n 1, 1) := by decide +kernel
theorem dX10_prepareTold_85 : decode cX10_prepareTold 85 = .ok (.invokevirtual 378, 3) := by decide +kernel
theorem dX10_prepareTold_88 : decode cX10_prepareTold 88 = .ok (.ireturn, 1) := by decide +kernel
theorem dX10_remake_0 : decode cX10_remake 0 = .ok (.aload_n 0, 1) := by decide +kernel
theorem dX10_remake_1 : decode cX10_remake 1 = .ok (.aload_n 0, 1) := by decide +kernel
theorem dX10_remake_2 : decode cX10_remake 2 = .ok (.getfield 365, 3) := by decide +kernel
theorem dX10_remake_5 : decode cX10_remake 5 = .ok (.bipush 24, 2) := by decide +kernel
theorem dX10_remake_7 : decode cX10_remake 7 = .ok (.if_icmp .ne 7, 3) := by decide +kernel
theorem dX10_remake_14 : decode cX10_remake 14 = .ok (.iconst 0, 1) := by decide +kernel
theorem dX10_remake_15 : decode cX10_remake 15 = .ok (.putfield 1, 3) := by decide +kernel
theorem dX10_remake_18 : decode cX10_remake 18 = .ok (.aload_n 0, 1) := by decide +kernel
theorem dX10_remake_19 : decode cX10_remake 19 = .ok (.getfield 1, 3) := by decide +kernel
theorem dX10_remake_22 : decode cX10_remake 22 = .ok (.ifCond .le 5, 3) := by decide +kernel
theorem dX10_remake_27 : decode cX10_remake 27 = .ok (.aload_n 0, 1) := by decide +kernel
theorem dX10_remake_28 : decode cX10_remake 28 = .ok (.invokevirtual 368, 3) := by decide +kernel
theorem dX10_remake_31 : decode cX10_remake 31 = .ok (.iconst 0, 1) := by decide +kernel
theorem dX10_remake_32 : decode cX10_remake 32 = .ok (.istore_n 1, 1) := by decide +kernel
theorem dX10_remake_33 : decode cX10_remake 33 = .ok (.iconst 0, 1) := by decide +kernel
theorem dX10_remake_34 : decode cX10_remake 34 = .ok (.istore_n 2, 1) := by decide +kernel
theorem dX10_remake_35 : decode cX10_remake 35 = .ok (.iload_n 2, 1) := by decide +kernel
theorem dX10_remake_36 : decode cX10_remake 36 = .ok (.aload_n 0, 1) := by decide +kernel
theorem dX10_remake_37 : decode cX10_remake 37 = .ok (.getfield 191, 3) := by decide +kernel
theorem dX10_remake_40 : decode cX10_remake 40 = .ok (.if_icmp .ge 109, 3) := by decide +kernel
theorem dX10_remake_149 : decode cX10_remake 149 = .ok (.aload_n 0, 1) := by decide +kernel
theorem dX10_remake_150 : decode cX10_remake 150 = .ok (.iload_n 1, 1) := by decide +kernel
theorem dX10_remake_151 : decode cX10_remake 151 = .ok (.invokevirtual 378, 3) := by decide +kernel
theorem dX10_remake_154 : decode cX10_remake 154 = .ok (.ireturn, 1) := by decide +kernel
