/-! the words and decode rows that the rows of the next part take -/
theorem b_77 : Cond.initialized RL ∈ TB := tb_of 77 (by decide +kernel)
theorem b_521 : Cond.methodLink RL 93 yX9_read ∈ TB := tb_of 521 (by decide +kernel)
theorem b_522 : Cond.instanceMethod yX9_read ∈ TB := tb_of 522 (by decide +kernel)
theorem b_523 : Cond.selects RX9 yX9_read yX9_read ∈ TB := tb_of 523 (by decide +kernel)
theorem b_524 : Cond.code yX9_read cX9_read 2 (some .int) ∈ TB := tb_of 524 (by decide +kernel)
theorem b_670 : Cond.methodLink RL 97 yX9_place ∈ TB := tb_of 670 (by decide +kernel)
theorem b_671 : Cond.instanceMethod yX9_place ∈ TB := tb_of 671 (by decide +kernel)
theorem b_672 : Cond.selects RX9 yX9_place yX9_place ∈ TB := tb_of 672 (by decide +kernel)
theorem b_673 : Cond.code yX9_place cX9_place 1 (some .int) ∈ TB := tb_of 673 (by decide +kernel)
theorem b_674 : Cond.methodLink RL 115 yX9_about ∈ TB := tb_of 674 (by decide +kernel)
theorem b_675 : Cond.instanceMethod yX9_about ∈ TB := tb_of 675 (by decide +kernel)
theorem b_676 : Cond.selects RX9 yX9_about yX9_about ∈ TB := tb_of 676 (by decide +kernel)
theorem b_677 : Cond.code yX9_about cX9_about 3 (some .int) ∈ TB := tb_of 677 (by decide +kernel)
theorem b_690 : Cond.methodLink RL 119 yX9_weight ∈ TB := tb_of 690 (by decide +kernel)
theorem b_691 : Cond.instanceMethod yX9_weight ∈ TB := tb_of 691 (by decide +kernel)
theorem b_692 : Cond.selects RX9 yX9_weight yX9_weight ∈ TB := tb_of 692 (by decide +kernel)
theorem b_693 : Cond.code yX9_weight cX9_weight 2 (some .long) ∈ TB := tb_of 693 (by decide +kernel)
theorem b_695 : Cond.methodLink RL 124 yX9_clear ∈ TB := tb_of 695 (by decide +kernel)
theorem b_696 : Cond.instanceMethod yX9_clear ∈ TB := tb_of 696 (by decide +kernel)
theorem b_697 : Cond.selects RX9 yX9_clear yX9_clear ∈ TB := tb_of 697 (by decide +kernel)
theorem b_698 : Cond.code yX9_clear cX9_clear 2 (some .int) ∈ TB := tb_of 698 (by decide +kernel)
theorem b_699 : Cond.methodLink RL 140 yX9_settled ∈ TB := tb_of 699 (by decide +kernel)
theorem b_700 : Cond.instanceMethod yX9_settled ∈ TB := tb_of 700 (by decide +kernel)
theorem b_701 : Cond.selects RX9 yX9_settled yX9_settled ∈ TB := tb_of 701 (by decide +kernel)
theorem b_702 : Cond.code yX9_settled cX9_settled 2 (some .int) ∈ TB := tb_of 702 (by decide +kernel)
theorem b_707 : Cond.methodLink RL 144 yX9_length ∈ TB := tb_of 707 (by decide +kernel)
theorem b_708 : Cond.instanceMethod yX9_length ∈ TB := tb_of 708 (by decide +kernel)
theorem b_709 : Cond.selects RX9 yX9_length yX9_length ∈ TB := tb_of 709 (by decide +kernel)
theorem b_710 : Cond.code yX9_length cX9_length 2 (some .long) ∈ TB := tb_of 710 (by decide +kernel)
theorem b_711 : Cond.methodLink RL 148 yX9_count ∈ TB := tb_of 711 (by decide +kernel)
theorem b_712 : Cond.instanceMethod yX9_count ∈ TB := tb_of 712 (by decide +kernel)
theorem b_713 : Cond.selects RX9 yX9_count yX9_count ∈ TB := tb_of 713 (by decide +kernel)
theorem b_714 : Cond.code yX9_count cX9_count 2 (some .int) ∈ TB := tb_of 714 (by decide +kernel)
theorem b_715 : Cond.methodLink RL 152 yX9_distance ∈ TB := tb_of 715 (by decide +kernel)
theorem b_716 : Cond.instanceMethod yX9_distance ∈ TB := tb_of 716 (by decide +kernel)
theorem b_717 : Cond.selects RX9 yX9_distance yX9_distance ∈ TB := tb_of 717 (by decide +kernel)
theorem b_718 : Cond.code yX9_distance cX9_distance 3 (some .long) ∈ TB := tb_of 718 (by decide +kernel)
theorem b_743 : Cond.methodLink RL 157 yX9_arcs ∈ TB := tb_of 743 (by decide +kernel)
theorem b_744 : Cond.instanceMethod yX9_arcs ∈ TB := tb_of 744 (by decide +kernel)
theorem b_745 : Cond.selects RX9 yX9_arcs yX9_arcs ∈ TB := tb_of 745 (by decide +kernel)
theorem b_746 : Cond.code yX9_arcs cX9_arcs 3 (some .int) ∈ TB := tb_of 746 (by decide +kernel)
theorem b_747 : Cond.methodLink RL 164 yX9_inconsistent ∈ TB := tb_of 747 (by decide +kernel)
theorem b_748 : Cond.instanceMethod yX9_inconsistent ∈ TB := tb_of 748 (by decide +kernel)
theorem b_749 : Cond.selects RX9 yX9_inconsistent yX9_inconsistent ∈ TB := tb_of 749 (by decide +kernel)
theorem b_750 : Cond.code yX9_inconsistent cX9_inconsistent 1 (some .int) ∈ TB := tb_of 750 (by decide +kernel)
theorem b_755 : Cond.methodLink RL 174 yX9_bound ∈ TB := tb_of 755 (by decide +kernel)
theorem b_756 : Cond.instanceMethod yX9_bound ∈ TB := tb_of 756 (by decide +kernel)
theorem b_757 : Cond.selects RX9 yX9_bound yX9_bound ∈ TB := tb_of 757 (by decide +kernel)
theorem b_758 : Cond.code yX9_bound cX9_bound 3 (some .long) ∈ TB := tb_of 758 (by decide +kernel)
theorem b_786 : Cond.methodLink RL 196 yX9_ready ∈ TB := tb_of 786 (by decide +kernel)
theorem b_787 : Cond.instanceMethod yX9_ready ∈ TB := tb_of 787 (by decide +kernel)
theorem b_788 : Cond.selects RX9 yX9_ready yX9_ready ∈ TB := tb_of 788 (by decide +kernel)
theorem b_789 : Cond.code yX9_ready cX9_ready 1 (some .int) ∈ TB := tb_of 789 (by decide +kernel)
theorem b_790 : Cond.methodLink RL 200 yX9_ranked ∈ TB := tb_of 790 (by decide +kernel)
theorem b_791 : Cond.instanceMethod yX9_ranked ∈ TB := tb_of 791 (by decide +kernel)
theorem b_792 : Cond.selects RX9 yX9_ranked yX9_ranked ∈ TB := tb_of 792 (by decide +kernel)
theorem b_793 : Cond.code yX9_ranked cX9_ranked 2 (some .int) ∈ TB := tb_of 793 (by decide +kernel)
theorem b_823 : Cond.methodLink RL 217 yX9_told ∈ TB := tb_of 823 (by decide +kernel)
theorem b_824 : Cond.instanceMethod yX9_told ∈ TB := tb_of 824 (by decide +kernel)
theorem b_825 : Cond.selects RX9 yX9_told yX9_told ∈ TB := tb_of 825 (by decide +kernel)
theorem b_826 : Cond.code yX9_told cX9_told 3 (some .int) ∈ TB := tb_of 826 (by decide +kernel)
theorem b_827 : Cond.methodLink RL 221 yX9_found ∈ TB := tb_of 827 (by decide +kernel)
theorem b_828 : Cond.instanceMethod yX9_found ∈ TB := tb_of 828 (by decide +kernel)
theorem b_829 : Cond.selects RX9 yX9_found yX9_found ∈ TB := tb_of 829 (by decide +kernel)
theorem b_830 : Cond.code yX9_found cX9_found 1 (some .long) ∈ TB := tb_of 830 (by decide +kernel)
theorem b_831 : Cond.methodLink RL 226 yX9_step ∈ TB := tb_of 831 (by decide +kernel)
theorem b_832 : Cond.instanceMethod yX9_step ∈ TB := tb_of 832 (by decide +kernel)
theorem b_833 : Cond.selects RX9 yX9_step yX9_step ∈ TB := tb_of 833 (by decide +kernel)
theorem b_834 : Cond.code yX9_step cX9_step 2 (some .int) ∈ TB := tb_of 834 (by decide +kernel)
theorem b_835 : Cond.methodLink RL 230 yX9_relaxed ∈ TB := tb_of 835 (by decide +kernel)
theorem b_836 : Cond.instanceMethod yX9_relaxed ∈ TB := tb_of 836 (by decide +kernel)
theorem b_837 : Cond.selects RX9 yX9_relaxed yX9_relaxed ∈ TB := tb_of 837 (by decide +kernel)
theorem b_838 : Cond.code yX9_relaxed cX9_relaxed 3 (some .int) ∈ TB := tb_of 838 (by decide +kernel)
theorem b_839 : Cond.methodLink RL 234 yX9_reached ∈ TB := tb_of 839 (by decide +kernel)
theorem b_840 : Cond.instanceMethod yX9_reached ∈ TB := tb_of 840 (by decide +kernel)
theorem b_841 : Cond.selects RX9 yX9_reached yX9_reached ∈ TB := tb_of 841 (by decide +kernel)
theorem b_842 : Cond.code yX9_reached cX9_reached 5 (some .int) ∈ TB := tb_of 842 (by decide +kernel)
theorem b_851 : Cond.methodLink RL 80 yL_feed ∈ TB := tb_of 851 (by decide +kernel)
theorem b_852 : Cond.static yL_feed ∈ TB := tb_of 852 (by decide +kernel)
theorem b_853 : Cond.codeWith yL_feed cL_feed 8 (some .int) [(0, 16, 19, 13)] ∈ TB := tb_of 853 (by decide +kernel)
theorem b_932 : Cond.methodLink RL 89 yL_end ∈ TB := tb_of 932 (by decide +kernel)
theorem b_933 : Cond.static yL_end ∈ TB := tb_of 933 (by decide +kernel)
theorem b_934 : Cond.codeWith yL_end cL_end 4 (some .int) [(0, 9, 12, 19)] ∈ TB := tb_of 934 (by decide +kernel)
theorem b_956 : Cond.methodLink RL 101 yL_node ∈ TB := tb_of 956 (by decide +kernel)
theorem b_957 : Cond.static yL_node ∈ TB := tb_of 957 (by decide +kernel)
theorem b_958 : Cond.codeWith yL_node cL_node 5 (some .int) [(0, 10, 13, 19), (0, 10, 17, 13)] ∈ TB := tb_of 958 (by decide +kernel)
theorem b_970 : Cond.methodLink RL 107 yL_arc ∈ TB := tb_of 970 (by decide +kernel)
theorem b_971 : Cond.static yL_arc ∈ TB := tb_of 971 (by decide +kernel)
theorem b_972 : Cond.codeWith yL_arc cL_arc 7 (some .int) [(0, 12, 15, 29), (0, 12, 19, 19), (0, 12, 23, 13), (0, 12, 27, 31)] ∈ TB := tb_of 972 (by decide +kernel)
theorem b_1028 : Cond.methodLink RL 111 yL_weigh ∈ TB := tb_of 1028 (by decide +kernel)
theorem b_1029 : Cond.static yL_weigh ∈ TB := tb_of 1029 (by decide +kernel)
theorem b_1030 : Cond.codeWith yL_weigh cL_weigh 6 (some .int) [(0, 10, 13, 29), (0, 10, 17, 19), (0, 10, 21, 31)] ∈ TB := tb_of 1030 (by decide +kernel)
theorem b_1036 : Cond.methodLink RL 128 yL_search ∈ TB := tb_of 1036 (by decide +kernel)
theorem b_1037 : Cond.static yL_search ∈ TB := tb_of 1037 (by decide +kernel)
theorem b_1038 : Cond.codeWith yL_search cL_search 4 (some .int) [(0, 9, 12, 29)] ∈ TB := tb_of 1038 (by decide +kernel)
theorem b_1061 : Cond.methodLink RL 131 yL_goal ∈ TB := tb_of 1061 (by decide +kernel)
theorem b_1062 : Cond.static yL_goal ∈ TB := tb_of 1062 (by decide +kernel)
theorem b_1063 : Cond.codeWith yL_goal cL_goal 5 (some .int) [(0, 10, 13, 29), (0, 10, 17, 13)] ∈ TB := tb_of 1063 (by decide +kernel)
theorem b_1069 : Cond.methodLink RL 134 yL_both ∈ TB := tb_of 1069 (by decide +kernel)
theorem b_1070 : Cond.static yL_both ∈ TB := tb_of 1070 (by decide +kernel)
theorem b_1071 : Cond.codeWith yL_both cL_both 5 (some .int) [(0, 10, 13, 29)] ∈ TB := tb_of 1071 (by decide +kernel)
theorem b_1088 : Cond.methodLink RL 137 yL_landmarked ∈ TB := tb_of 1088 (by decide +kernel)
theorem b_1089 : Cond.static yL_landmarked ∈ TB := tb_of 1089 (by decide +kernel)
theorem b_1090 : Cond.codeWith yL_landmarked cL_landmarked 5 (some .int) [(0, 10, 13, 29), (0, 10, 17, 13)] ∈ TB := tb_of 1090 (by decide +kernel)
theorem b_1096 : Cond.methodLink RL 161 yL_potential ∈ TB := tb_of 1096 (by decide +kernel)
theorem b_1097 : Cond.static yL_potential ∈ TB := tb_of 1097 (by decide +kernel)
theorem b_1098 : Cond.codeWith yL_potential cL_potential 6 (some .int) [(0, 10, 13, 29), (0, 10, 17, 19), (0, 10, 21, 31)] ∈ TB := tb_of 1098 (by decide +kernel)
theorem b_1109 : Cond.methodLink RL 168 yL_straight ∈ TB := tb_of 1109 (by decide +kernel)
theorem b_1110 : Cond.static yL_straight ∈ TB := tb_of 1110 (by decide +kernel)
theorem b_1111 : Cond.codeWith yL_straight cL_straight 5 (some .int) [(0, 10, 13, 29), (0, 10, 17, 19)] ∈ TB := tb_of 1111 (by decide +kernel)
theorem b_1127 : Cond.methodLink RL 171 yL_landmark ∈ TB := tb_of 1127 (by decide +kernel)
theorem b_1128 : Cond.static yL_landmark ∈ TB := tb_of 1128 (by decide +kernel)
theorem b_1129 : Cond.codeWith yL_landmark cL_landmark 4 (some .int) [(0, 9, 12, 29), (0, 9, 15, 19), (0, 9, 18, 13)] ∈ TB := tb_of 1129 (by decide +kernel)
theorem b_1139 : Cond.methodLink RL 183 yL_prepare ∈ TB := tb_of 1139 (by decide +kernel)
theorem b_1140 : Cond.static yL_prepare ∈ TB := tb_of 1140 (by decide +kernel)
theorem b_1141 : Cond.codeWith yL_prepare cL_prepare 3 (some .int) [(0, 8, 11, 62)] ∈ TB := tb_of 1141 (by decide +kernel)
theorem b_1228 : Cond.methodLink RL 187 yL_order ∈ TB := tb_of 1228 (by decide +kernel)
theorem b_1229 : Cond.static yL_order ∈ TB := tb_of 1229 (by decide +kernel)
theorem b_1230 : Cond.codeWith yL_order cL_order 4 (some .int) [(0, 9, 12, 29), (0, 9, 15, 19)] ∈ TB := tb_of 1230 (by decide +kernel)
theorem b_1236 : Cond.methodLink RL 190 yL_prepareTold ∈ TB := tb_of 1236 (by decide +kernel)
theorem b_1237 : Cond.static yL_prepareTold ∈ TB := tb_of 1237 (by decide +kernel)
theorem b_1238 : Cond.codeWith yL_prepareTold cL_prepareTold 3 (some .int) [(0, 8, 11, 13), (0, 8, 14, 62)] ∈ TB := tb_of 1238 (by decide +kernel)
theorem b_1244 : Cond.methodLink RL 193 yL_remake ∈ TB := tb_of 1244 (by decide +kernel)
theorem b_1245 : Cond.static yL_remake ∈ TB := tb_of 1245 (by decide +kernel)
theorem b_1246 : Cond.codeWith yL_remake cL_remake 3 (some .int) [(0, 8, 11, 62)] ∈ TB := tb_of 1246 (by decide +kernel)
theorem b_1251 : Cond.methodLink RL 214 yL_query ∈ TB := tb_of 1251 (by decide +kernel)
theorem b_1252 : Cond.static yL_query ∈ TB := tb_of 1252 (by decide +kernel)
theorem b_1253 : Cond.codeWith yL_query cL_query 5 (some .int) [(0, 10, 13, 29), (0, 10, 17, 13)] ∈ TB := tb_of 1253 (by decide +kernel)
theorem b_1304 : Cond.methodLink RL 86 yX10_thrown ∈ TB := tb_of 1304 (by decide +kernel)
theorem b_1305 : Cond.instanceMethod yX10_thrown ∈ TB := tb_of 1305 (by decide +kernel)
theorem b_1306 : Cond.selects RX10 yX10_thrown yX10_thrown ∈ TB := tb_of 1306 (by decide +kernel)
theorem b_1307 : Cond.code yX10_thrown cX10_thrown 1 (some .int) ∈ TB := tb_of 1307 (by decide +kernel)
theorem b_1558 : Cond.methodLink RL 85 yX10_feed ∈ TB := tb_of 1558 (by decide +kernel)
theorem b_1559 : Cond.instanceMethod yX10_feed ∈ TB := tb_of 1559 (by decide +kernel)
theorem b_1560 : Cond.selects RX10 yX10_feed yX10_feed ∈ TB := tb_of 1560 (by decide +kernel)
theorem b_1561 : Cond.code yX10_feed cX10_feed 6 (some .int) ∈ TB := tb_of 1561 (by decide +kernel)
theorem b_1566 : Cond.methodLink RL 92 yX10_end ∈ TB := tb_of 1566 (by decide +kernel)
theorem b_1567 : Cond.instanceMethod yX10_end ∈ TB := tb_of 1567 (by decide +kernel)
theorem b_1568 : Cond.selects RX10 yX10_end yX10_end ∈ TB := tb_of 1568 (by decide +kernel)
theorem b_1569 : Cond.code yX10_end cX10_end 2 (some .int) ∈ TB := tb_of 1569 (by decide +kernel)
theorem b_1570 : Cond.methodLink RL 96 yX10_read ∈ TB := tb_of 1570 (by decide +kernel)
theorem b_1571 : Cond.instanceMethod yX10_read ∈ TB := tb_of 1571 (by decide +kernel)
theorem b_1572 : Cond.selects RX10 yX10_read yX10_read ∈ TB := tb_of 1572 (by decide +kernel)
theorem b_1573 : Cond.code yX10_read cX10_read 5 (some .int) ∈ TB := tb_of 1573 (by decide +kernel)
theorem b_1634 : Cond.methodLink RL 100 yX10_place ∈ TB := tb_of 1634 (by decide +kernel)
theorem b_1635 : Cond.instanceMethod yX10_place ∈ TB := tb_of 1635 (by decide +kernel)
theorem b_1636 : Cond.selects RX10 yX10_place yX10_place ∈ TB := tb_of 1636 (by decide +kernel)
theorem b_1637 : Cond.code yX10_place cX10_place 1 (some .int) ∈ TB := tb_of 1637 (by decide +kernel)
theorem b_1638 : Cond.methodLink RL 104 yX10_node ∈ TB := tb_of 1638 (by decide +kernel)
theorem b_1639 : Cond.instanceMethod yX10_node ∈ TB := tb_of 1639 (by decide +kernel)
theorem b_1640 : Cond.selects RX10 yX10_node yX10_node ∈ TB := tb_of 1640 (by decide +kernel)
theorem b_1641 : Cond.code yX10_node cX10_node 3 (some .int) ∈ TB := tb_of 1641 (by decide +kernel)
theorem b_1642 : Cond.methodLink RL 110 yX10_arc ∈ TB := tb_of 1642 (by decide +kernel)
theorem b_1643 : Cond.instanceMethod yX10_arc ∈ TB := tb_of 1643 (by decide +kernel)
theorem b_1644 : Cond.selects RX10 yX10_arc yX10_arc ∈ TB := tb_of 1644 (by decide +kernel)
theorem b_1645 : Cond.code yX10_arc cX10_arc 5 (some .int) ∈ TB := tb_of 1645 (by decide +kernel)
theorem b_1653 : Cond.methodLink RL 114 yX10_weigh ∈ TB := tb_of 1653 (by decide +kernel)
theorem b_1654 : Cond.instanceMethod yX10_weigh ∈ TB := tb_of 1654 (by decide +kernel)
theorem b_1655 : Cond.selects RX10 yX10_weigh yX10_weigh ∈ TB := tb_of 1655 (by decide +kernel)
theorem b_1656 : Cond.code yX10_weigh cX10_weigh 6 (some .long) ∈ TB := tb_of 1656 (by decide +kernel)
theorem b_1661 : Cond.methodLink RL 118 yX10_about ∈ TB := tb_of 1661 (by decide +kernel)
theorem b_1662 : Cond.instanceMethod yX10_about ∈ TB := tb_of 1662 (by decide +kernel)
theorem b_1663 : Cond.selects RX10 yX10_about yX10_about ∈ TB := tb_of 1663 (by decide +kernel)
theorem b_1664 : Cond.code yX10_about cX10_about 5 (some .int) ∈ TB := tb_of 1664 (by decide +kernel)
theorem b_1665 : Cond.methodLink RL 123 yX10_weight ∈ TB := tb_of 1665 (by decide +kernel)
theorem b_1666 : Cond.instanceMethod yX10_weight ∈ TB := tb_of 1666 (by decide +kernel)
theorem b_1667 : Cond.selects RX10 yX10_weight yX10_weight ∈ TB := tb_of 1667 (by decide +kernel)
theorem b_1668 : Cond.code yX10_weight cX10_weight 2 (some .long) ∈ TB := tb_of 1668 (by decide +kernel)
theorem b_1670 : Cond.methodLink RL 127 yX10_clear ∈ TB := tb_of 1670 (by decide +kernel)
theorem b_1671 : Cond.instanceMethod yX10_clear ∈ TB := tb_of 1671 (by decide +kernel)
theorem b_1672 : Cond.selects RX10 yX10_clear yX10_clear ∈ TB := tb_of 1672 (by decide +kernel)
theorem b_1673 : Cond.code yX10_clear cX10_clear 2 (some .int) ∈ TB := tb_of 1673 (by decide +kernel)
theorem b_1674 : Cond.methodLink RL 156 yX10_distance ∈ TB := tb_of 1674 (by decide +kernel)
theorem b_1675 : Cond.instanceMethod yX10_distance ∈ TB := tb_of 1675 (by decide +kernel)
theorem b_1676 : Cond.selects RX10 yX10_distance yX10_distance ∈ TB := tb_of 1676 (by decide +kernel)
theorem b_1677 : Cond.code yX10_distance cX10_distance 3 (some .long) ∈ TB := tb_of 1677 (by decide +kernel)
theorem b_1693 : Cond.methodLink RL 160 yX10_arcs ∈ TB := tb_of 1693 (by decide +kernel)
theorem b_1694 : Cond.instanceMethod yX10_arcs ∈ TB := tb_of 1694 (by decide +kernel)
theorem b_1695 : Cond.selects RX10 yX10_arcs yX10_arcs ∈ TB := tb_of 1695 (by decide +kernel)
theorem b_1696 : Cond.code yX10_arcs cX10_arcs 3 (some .int) ∈ TB := tb_of 1696 (by decide +kernel)
theorem b_1697 : Cond.methodLink RL 237 yX10_reached ∈ TB := tb_of 1697 (by decide +kernel)
theorem b_1698 : Cond.instanceMethod yX10_reached ∈ TB := tb_of 1698 (by decide +kernel)
theorem b_1699 : Cond.selects RX10 yX10_reached yX10_reached ∈ TB := tb_of 1699 (by decide +kernel)
theorem b_1700 : Cond.code yX10_reached cX10_reached 5 (some .int) ∈ TB := tb_of 1700 (by decide +kernel)
theorem b_1701 : Cond.methodLink RL 130 yX10_search ∈ TB := tb_of 1701 (by decide +kernel)
theorem b_1702 : Cond.instanceMethod yX10_search ∈ TB := tb_of 1702 (by decide +kernel)
theorem b_1703 : Cond.selects RX10 yX10_search yX10_search ∈ TB := tb_of 1703 (by decide +kernel)
theorem b_1704 : Cond.code yX10_search cX10_search 2 (some .int) ∈ TB := tb_of 1704 (by decide +kernel)
theorem b_1721 : Cond.methodLink RL 133 yX10_goal ∈ TB := tb_of 1721 (by decide +kernel)
theorem b_1722 : Cond.instanceMethod yX10_goal ∈ TB := tb_of 1722 (by decide +kernel)
theorem b_1723 : Cond.selects RX10 yX10_goal yX10_goal ∈ TB := tb_of 1723 (by decide +kernel)
theorem b_1724 : Cond.code yX10_goal cX10_goal 3 (some .int) ∈ TB := tb_of 1724 (by decide +kernel)
theorem b_1733 : Cond.methodLink RL 136 yX10_both ∈ TB := tb_of 1733 (by decide +kernel)
theorem b_1734 : Cond.instanceMethod yX10_both ∈ TB := tb_of 1734 (by decide +kernel)
theorem b_1735 : Cond.selects RX10 yX10_both yX10_both ∈ TB := tb_of 1735 (by decide +kernel)
theorem b_1736 : Cond.code yX10_both cX10_both 16 (some .int) ∈ TB := tb_of 1736 (by decide +kernel)
theorem b_1737 : Cond.methodLink RL 139 yX10_landmarked ∈ TB := tb_of 1737 (by decide +kernel)
theorem b_1738 : Cond.instanceMethod yX10_landmarked ∈ TB := tb_of 1738 (by decide +kernel)
theorem b_1739 : Cond.selects RX10 yX10_landmarked yX10_landmarked ∈ TB := tb_of 1739 (by decide +kernel)
theorem b_1740 : Cond.code yX10_landmarked cX10_landmarked 4 (some .int) ∈ TB := tb_of 1740 (by decide +kernel)
theorem b_1749 : Cond.methodLink RL 143 yX10_settled ∈ TB := tb_of 1749 (by decide +kernel)
theorem b_1750 : Cond.instanceMethod yX10_settled ∈ TB := tb_of 1750 (by decide +kernel)
theorem b_1751 : Cond.selects RX10 yX10_settled yX10_settled ∈ TB := tb_of 1751 (by decide +kernel)
theorem b_1752 : Cond.code yX10_settled cX10_settled 2 (some .int) ∈ TB := tb_of 1752 (by decide +kernel)
theorem b_1757 : Cond.methodLink RL 147 yX10_length ∈ TB := tb_of 1757 (by decide +kernel)
theorem b_1758 : Cond.instanceMethod yX10_length ∈ TB := tb_of 1758 (by decide +kernel)
theorem b_1759 : Cond.selects RX10 yX10_length yX10_length ∈ TB := tb_of 1759 (by decide +kernel)
theorem b_1760 : Cond.code yX10_length cX10_length 2 (some .long) ∈ TB := tb_of 1760 (by decide +kernel)
theorem b_1761 : Cond.methodLink RL 151 yX10_count ∈ TB := tb_of 1761 (by decide +kernel)
theorem b_1762 : Cond.instanceMethod yX10_count ∈ TB := tb_of 1762 (by decide +kernel)
theorem b_1763 : Cond.selects RX10 yX10_count yX10_count ∈ TB := tb_of 1763 (by decide +kernel)
theorem b_1764 : Cond.code yX10_count cX10_count 2 (some .int) ∈ TB := tb_of 1764 (by decide +kernel)
theorem b_1765 : Cond.methodLink RL 163 yX10_potential ∈ TB := tb_of 1765 (by decide +kernel)
theorem b_1766 : Cond.instanceMethod yX10_potential ∈ TB := tb_of 1766 (by decide +kernel)
theorem b_1767 : Cond.selects RX10 yX10_potential yX10_potential ∈ TB := tb_of 1767 (by decide +kernel)
theorem b_1768 : Cond.code yX10_potential cX10_potential 6 (some .long) ∈ TB := tb_of 1768 (by decide +kernel)
theorem b_1771 : Cond.methodLink RL 167 yX10_inconsistent ∈ TB := tb_of 1771 (by decide +kernel)
theorem b_1772 : Cond.instanceMethod yX10_inconsistent ∈ TB := tb_of 1772 (by decide +kernel)
theorem b_1773 : Cond.selects RX10 yX10_inconsistent yX10_inconsistent ∈ TB := tb_of 1773 (by decide +kernel)
theorem b_1774 : Cond.code yX10_inconsistent cX10_inconsistent 1 (some .int) ∈ TB := tb_of 1774 (by decide +kernel)
theorem b_1775 : Cond.methodLink RL 170 yX10_straight ∈ TB := tb_of 1775 (by decide +kernel)
theorem b_1776 : Cond.instanceMethod yX10_straight ∈ TB := tb_of 1776 (by decide +kernel)
theorem b_1777 : Cond.selects RX10 yX10_straight yX10_straight ∈ TB := tb_of 1777 (by decide +kernel)
theorem b_1778 : Cond.code yX10_straight cX10_straight 4 (some .int) ∈ TB := tb_of 1778 (by decide +kernel)
theorem b_1780 : Cond.methodLink RL 173 yX10_landmark ∈ TB := tb_of 1780 (by decide +kernel)
theorem b_1781 : Cond.instanceMethod yX10_landmark ∈ TB := tb_of 1781 (by decide +kernel)
theorem b_1782 : Cond.selects RX10 yX10_landmark yX10_landmark ∈ TB := tb_of 1782 (by decide +kernel)
theorem b_1783 : Cond.code yX10_landmark cX10_landmark 4 (some .int) ∈ TB := tb_of 1783 (by decide +kernel)
theorem b_1784 : Cond.methodLink RL 177 yX10_bound ∈ TB := tb_of 1784 (by decide +kernel)
theorem b_1785 : Cond.instanceMethod yX10_bound ∈ TB := tb_of 1785 (by decide +kernel)
theorem b_1786 : Cond.selects RX10 yX10_bound yX10_bound ∈ TB := tb_of 1786 (by decide +kernel)
theorem b_1787 : Cond.code yX10_bound cX10_bound 3 (some .long) ∈ TB := tb_of 1787 (by decide +kernel)
theorem b_1792 : Cond.methodLink RL 186 yX10_prepare ∈ TB := tb_of 1792 (by decide +kernel)
theorem b_1793 : Cond.instanceMethod yX10_prepare ∈ TB := tb_of 1793 (by decide +kernel)
theorem b_1794 : Cond.selects RX10 yX10_prepare yX10_prepare ∈ TB := tb_of 1794 (by decide +kernel)
theorem b_1795 : Cond.code yX10_prepare cX10_prepare 7 (some .int) ∈ TB := tb_of 1795 (by decide +kernel)
theorem b_1816 : Cond.methodLink RL 189 yX10_order ∈ TB := tb_of 1816 (by decide +kernel)
theorem b_1817 : Cond.instanceMethod yX10_order ∈ TB := tb_of 1817 (by decide +kernel)
theorem b_1818 : Cond.selects RX10 yX10_order yX10_order ∈ TB := tb_of 1818 (by decide +kernel)
theorem b_1819 : Cond.code yX10_order cX10_order 4 (some .int) ∈ TB := tb_of 1819 (by decide +kernel)
theorem b_1820 : Cond.methodLink RL 192 yX10_prepareTold ∈ TB := tb_of 1820 (by decide +kernel)
theorem b_1821 : Cond.instanceMethod yX10_prepareTold ∈ TB := tb_of 1821 (by decide +kernel)
theorem b_1822 : Cond.selects RX10 yX10_prepareTold yX10_prepareTold ∈ TB := tb_of 1822 (by decide +kernel)
theorem b_1823 : Cond.code yX10_prepareTold cX10_prepareTold 3 (some .int) ∈ TB := tb_of 1823 (by decide +kernel)
theorem b_1824 : Cond.methodLink RL 195 yX10_remake ∈ TB := tb_of 1824 (by decide +kernel)
theorem b_1825 : Cond.instanceMethod yX10_remake ∈ TB := tb_of 1825 (by decide +kernel)
theorem b_1826 : Cond.selects RX10 yX10_remake yX10_remake ∈ TB := tb_of 1826 (by decide +kernel)
theorem b_1827 : Cond.code yX10_remake cX10_remake 6 (some .int) ∈ TB := tb_of 1827 (by decide +kernel)
theorem b_1828 : Cond.methodLink RL 199 yX10_ready ∈ TB := tb_of 1828 (by decide +kernel)
theorem b_1829 : Cond.instanceMethod yX10_ready ∈ TB := tb_of 1829 (by decide +kernel)
theorem b_1830 : Cond.selects RX10 yX10_ready yX10_ready ∈ TB := tb_of 1830 (by decide +kernel)
theorem b_1831 : Cond.code yX10_ready cX10_ready 1 (some .int) ∈ TB := tb_of 1831 (by decide +kernel)
theorem b_1832 : Cond.methodLink RL 203 yX10_ranked ∈ TB := tb_of 1832 (by decide +kernel)
theorem b_1833 : Cond.instanceMethod yX10_ranked ∈ TB := tb_of 1833 (by decide +kernel)
theorem b_1834 : Cond.selects RX10 yX10_ranked yX10_ranked ∈ TB := tb_of 1834 (by decide +kernel)
theorem b_1835 : Cond.code yX10_ranked cX10_ranked 2 (some .int) ∈ TB := tb_of 1835 (by decide +kernel)
theorem b_1848 : Cond.methodLink RL 216 yX10_query ∈ TB := tb_of 1848 (by decide +kernel)
theorem b_1849 : Cond.instanceMethod yX10_query ∈ TB := tb_of 1849 (by decide +kernel)
theorem b_1850 : Cond.selects RX10 yX10_query yX10_query ∈ TB := tb_of 1850 (by decide +kernel)
theorem b_1851 : Cond.code yX10_query cX10_query 5 (some .int) ∈ TB := tb_of 1851 (by decide +kernel)
theorem b_1872 : Cond.methodLink RL 220 yX10_told ∈ TB := tb_of 1872 (by decide +kernel)
theorem b_1873 : Cond.instanceMethod yX10_told ∈ TB := tb_of 1873 (by decide +kernel)
theorem b_1874 : Cond.selects RX10 yX10_told yX10_told ∈ TB := tb_of 1874 (by decide +kernel)
theorem b_1875 : Cond.code yX10_told cX10_told 2 (some .int) ∈ TB := tb_of 1875 (by decide +kernel)
theorem b_1876 : Cond.methodLink RL 225 yX10_found ∈ TB := tb_of 1876 (by decide +kernel)
theorem b_1877 : Cond.instanceMethod yX10_found ∈ TB := tb_of 1877 (by decide +kernel)
theorem b_1878 : Cond.selects RX10 yX10_found yX10_found ∈ TB := tb_of 1878 (by decide +kernel)
theorem b_1879 : Cond.code yX10_found cX10_found 1 (some .long) ∈ TB := tb_of 1879 (by decide +kernel)
theorem b_1880 : Cond.methodLink RL 229 yX10_step ∈ TB := tb_of 1880 (by decide +kernel)
theorem b_1881 : Cond.instanceMethod yX10_step ∈ TB := tb_of 1881 (by decide +kernel)
theorem b_1882 : Cond.selects RX10 yX10_step yX10_step ∈ TB := tb_of 1882 (by decide +kernel)
theorem b_1883 : Cond.code yX10_step cX10_step 2 (some .int) ∈ TB := tb_of 1883 (by decide +kernel)
theorem b_1884 : Cond.methodLink RL 233 yX10_relaxed ∈ TB := tb_of 1884 (by decide +kernel)
theorem b_1885 : Cond.instanceMethod yX10_relaxed ∈ TB := tb_of 1885 (by decide +kernel)
theorem b_1886 : Cond.selects RX10 yX10_relaxed yX10_relaxed ∈ TB := tb_of 1886 (by decide +kernel)
theorem b_1887 : Cond.code yX10_relaxed cX10_relaxed 3 (some .int) ∈ TB := tb_of 1887 (by decide +kernel)
theorem b_1892 : Cond.constantLong RL 105 (4294967295) ∈ TB := tb_of 1892 (by decide +kernel)
theorem hd_L_feed : k_hd yL_feed 7 := by decide +kernel
theorem hd_X10_feed : k_hd yX10_feed 5 := by decide +kernel
theorem hd_X10_thrown : k_hd yX10_thrown 0 := by decide +kernel
theorem hd_L_end : k_hd yL_end 3 := by decide +kernel
theorem hd_X10_end : k_hd yX10_end 1 := by decide +kernel
theorem hd_X9_read : k_hd yX9_read 0 := by decide +kernel
theorem hd_X10_read : k_hd yX10_read 0 := by decide +kernel
theorem hd_X9_place : k_hd yX9_place 0 := by decide +kernel
theorem hd_X10_place : k_hd yX10_place 0 := by decide +kernel
theorem hd_L_node : k_hd yL_node 4 := by decide +kernel
theorem hd_X10_node : k_hd yX10_node 2 := by decide +kernel
theorem hd_L_arc : k_hd yL_arc 5 := by decide +kernel
theorem hd_X10_arc : k_hd yX10_arc 3 := by decide +kernel
theorem hd_L_weigh : k_hd yL_weigh 4 := by decide +kernel
theorem hd_X10_weigh : k_hd yX10_weigh 2 := by decide +kernel
theorem hd_L_search : k_hd yL_search 3 := by decide +kernel
theorem hd_X10_search : k_hd yX10_search 1 := by decide +kernel
theorem hd_L_goal : k_hd yL_goal 4 := by decide +kernel
theorem hd_X10_goal : k_hd yX10_goal 2 := by decide +kernel
theorem hd_L_both : k_hd yL_both 4 := by decide +kernel
theorem hd_X10_both : k_hd yX10_both 2 := by decide +kernel
theorem hd_L_landmarked : k_hd yL_landmarked 4 := by decide +kernel
theorem hd_X10_landmarked : k_hd yX10_landmarked 2 := by decide +kernel
theorem hd_L_potential : k_hd yL_potential 4 := by decide +kernel
theorem hd_X10_potential : k_hd yX10_potential 2 := by decide +kernel
theorem hd_L_straight : k_hd yL_straight 4 := by decide +kernel
theorem hd_X10_straight : k_hd yX10_straight 2 := by decide +kernel
theorem hd_L_landmark : k_hd yL_landmark 3 := by decide +kernel
theorem hd_X10_landmark : k_hd yX10_landmark 1 := by decide +kernel
theorem hd_L_order : k_hd yL_order 3 := by decide +kernel
theorem hd_X10_order : k_hd yX10_order 1 := by decide +kernel
theorem hd_L_query : k_hd yL_query 4 := by decide +kernel
theorem hd_X10_query : k_hd yX10_query 2 := by decide +kernel
theorem hd_L_prepare : k_hd yL_prepare 2 := by decide +kernel
theorem hd_X10_prepare : k_hd yX10_prepare 0 := by decide +kernel
theorem hd_L_prepareTold : k_hd yL_prepareTold 2 := by decide +kernel
theorem hd_X10_prepareTold : k_hd yX10_prepareTold 0 := by decide +kernel
theorem hd_L_remake : k_hd yL_remake 2 := by decide +kernel
theorem hd_X10_remake : k_hd yX10_remake 0 := by decide +kernel
theorem hd_X9_about : k_hd yX9_about 2 := by decide +kernel
theorem hd_X10_about : k_hd yX10_about 2 := by decide +kernel
theorem hd_X9_weight : k_hd yX9_weight 1 := by decide +kernel
theorem hd_X10_weight : k_hd yX10_weight 1 := by decide +kernel
theorem hd_X9_clear : k_hd yX9_clear 0 := by decide +kernel
theorem hd_X10_clear : k_hd yX10_clear 0 := by decide +kernel
theorem hd_X9_settled : k_hd yX9_settled 1 := by decide +kernel
theorem hd_X10_settled : k_hd yX10_settled 1 := by decide +kernel
theorem hd_X9_length : k_hd yX9_length 1 := by decide +kernel
theorem hd_X10_length : k_hd yX10_length 1 := by decide +kernel
theorem hd_X9_count : k_hd yX9_count 1 := by decide +kernel
theorem hd_X10_count : k_hd yX10_count 1 := by decide +kernel
theorem hd_X9_distance : k_hd yX9_distance 2 := by decide +kernel
theorem hd_X10_distance : k_hd yX10_distance 2 := by decide +kernel
theorem hd_X9_arcs : k_hd yX9_arcs 2 := by decide +kernel
theorem hd_X10_arcs : k_hd yX10_arcs 2 := by decide +kernel
theorem hd_X9_inconsistent : k_hd yX9_inconsistent 0 := by decide +kernel
theorem hd_X10_inconsistent : k_hd yX10_inconsistent 0 := by decide +kernel
theorem hd_X9_bound : k_hd yX9_bound 2 := by decide +kernel
theorem hd_X10_bound : k_hd yX10_bound 2 := by decide +kernel
theorem hd_X9_ready : k_hd yX9_ready 0 := by decide +kernel
theorem hd_X10_ready : k_hd yX10_ready 0 := by decide +kernel
theorem hd_X9_ranked : k_hd yX9_ranked 1 := by decide +kernel
theorem hd_X10_ranked : k_hd yX10_ranked 1 := by decide +kernel
theorem hd_X9_told : k_hd yX9_told 1 := by decide +kernel
theorem hd_X10_told : k_hd yX10_told 1 := by decide +kernel
theorem hd_X9_found : k_hd yX9_found 0 := by decide +kernel
theorem hd_X10_found : k_hd yX10_found 0 := by decide +kernel
theorem hd_X9_step : k_hd yX9_step 1 := by decide +kernel
theorem hd_X10_step : k_hd yX10_step 1 := by decide +kernel
theorem hd_X9_relaxed : k_hd yX9_relaxed 2 := by decide +kernel
theorem hd_X10_relaxed : k_hd yX10_relaxed 2 := by decide +kernel
theorem hd_X9_reached : k_hd yX9_reached 2 := by decide +kernel
theorem hd_X10_reached : k_hd yX10_reached 2 := by decide +kernel
theorem dL_law_216 : decode cL_law 216 = .ok (.aload_n 1, 1) := by decide +kernel
theorem dL_law_217 : decode cL_law 217 = .ok (.aload_n 0, 1) := by decide +kernel
theorem dL_law_218 : decode cL_law 218 = .ok (.iload 4, 2) := by decide +kernel
theorem dL_law_220 : decode cL_law 220 = .ok (.iconst 1, 1) := by decide +kernel
theorem dL_law_221 : decode cL_law 221 = .ok (.iadd, 1) := by decide +kernel
theorem dL_law_222 : decode cL_law 222 = .ok (.iaload, 1) := by decide +kernel
theorem dL_law_223 : decode cL_law 223 = .ok (.aload_n 0, 1) := by decide +kernel
theorem dL_law_224 : decode cL_law 224 = .ok (.iload 4, 2) := by decide +kernel
theorem dL_law_226 : decode cL_law 226 = .ok (.iconst 2, 1) := by decide +kernel
theorem dL_law_227 : decode cL_law 227 = .ok (.iadd, 1) := by decide +kernel
theorem dL_law_228 : decode cL_law 228 = .ok (.iaload, 1) := by decide +kernel
theorem dL_law_229 : decode cL_law 229 = .ok (.aload_n 0, 1) := by decide +kernel
theorem dL_law_230 : decode cL_law 230 = .ok (.iload 4, 2) := by decide +kernel
theorem dL_law_232 : decode cL_law 232 = .ok (.iconst 3, 1) := by decide +kernel
theorem dL_law_233 : decode cL_law 233 = .ok (.iadd, 1) := by decide +kernel
theorem dL_law_234 : decode cL_law 234 = .ok (.iaload, 1) := by decide +kernel
theorem dL_law_235 : decode cL_law 235 = .ok (.aload_n 0, 1) := by decide +kernel
theorem dL_law_236 : decode cL_law 236 = .ok (.iload 4, 2) := by decide +kernel
theorem dL_law_238 : decode cL_law 238 = .ok (.iconst 4, 1) := by decide +kernel
theorem dL_law_239 : decode cL_law 239 = .ok (.iadd, 1) := by decide +kernel
theorem dL_law_240 : decode cL_law 240 = .ok (.iaload, 1) := by decide +kernel
theorem dL_law_241 : decode cL_law 241 = .ok (.aload_n 0, 1) := by decide +kernel
theorem dL_law_242 : decode cL_law 242 = .ok (.iload 4, 2) := by decide +kernel
theorem dL_law_244 : decode cL_law 244 = .ok (.iconst 5, 1) := by decide +kernel
theorem dL_law_245 : decode cL_law 245 = .ok (.iadd, 1) := by decide +kernel
theorem dL_law_246 : decode cL_law 246 = .ok (.iaload, 1) := by decide +kernel
theorem dL_law_247 : decode cL_law 247 = .ok (.aload_n 3, 1) := by decide +kernel
theorem dL_law_248 : decode cL_law 248 = .ok (.invokestatic 80, 3) := by decide +kernel
theorem dL_law_251 : decode cL_law 251 = .ok (.istore 5, 2) := by decide +kernel
theorem dL_law_253 : decode cL_law 253 = .ok (.aload_n 2, 1) := by decide +kernel
theorem dL_law_254 : decode cL_law 254 = .ok (.aload_n 0, 1) := by decide +kernel
theorem dL_law_255 : decode cL_law 255 = .ok (.iload 4, 2) := by decide +kernel
theorem dL_law_257 : decode cL_law 257 = .ok (.iconst 1, 1) := by decide +kernel
theorem dL_law_258 : decode cL_law 258 = .ok (.iadd, 1) := by decide +kernel
theorem dL_law_259 : decode cL_law 259 = .ok (.iaload, 1) := by decide +kernel
theorem dL_law_260 : decode cL_law 260 = .ok (.aload_n 0, 1) := by decide +kernel
theorem dL_law_261 : decode cL_law 261 = .ok (.iload 4, 2) := by decide +kernel
theorem dL_law_263 : decode cL_law 263 = .ok (.iconst 2, 1) := by decide +kernel
theorem dL_law_264 : decode cL_law 264 = .ok (.iadd, 1) := by decide +kernel
theorem dL_law_265 : decode cL_law 265 = .ok (.iaload, 1) := by decide +kernel
theorem dL_law_266 : decode cL_law 266 = .ok (.aload_n 0, 1) := by decide +kernel
theorem dL_law_267 : decode cL_law 267 = .ok (.iload 4, 2) := by decide +kernel
theorem dL_law_269 : decode cL_law 269 = .ok (.iconst 3, 1) := by decide +kernel
theorem dL_law_270 : decode cL_law 270 = .ok (.iadd, 1) := by decide +kernel
theorem dL_law_271 : decode cL_law 271 = .ok (.iaload, 1) := by decide +kernel
theorem dL_law_272 : decode cL_law 272 = .ok (.aload_n 0, 1) := by decide +kernel
theorem dL_law_273 : decode cL_law 273 = .ok (.iload 4, 2) := by decide +kernel
theorem dL_law_275 : decode cL_law 275 = .ok (.iconst 4, 1) := by decide +kernel
theorem dL_law_276 : decode cL_law 276 = .ok (.iadd, 1) := by decide +kernel
theorem dL_law_277 : decode cL_law 277 = .ok (.iaload, 1) := by decide +kernel
theorem dL_law_278 : decode cL_law 278 = .ok (.aload_n 0, 1) := by decide +kernel
theorem dL_law_279 : decode cL_law 279 = .ok (.iload 4, 2) := by decide +kernel
theorem dL_law_281 : decode cL_law 281 = .ok (.iconst 5, 1) := by decide +kernel
theorem dL_law_282 : decode cL_law 282 = .ok (.iadd, 1) := by decide +kernel
theorem dL_law_283 : decode cL_law 283 = .ok (.iaload, 1) := by decide +kernel
theorem dL_law_284 : decode cL_law 284 = .ok (.invokevirtual 85, 3) := by decide +kernel
theorem dL_law_287 : decode cL_law 287 = .ok (.istore 6, 2) := by decide +kernel
theorem dL_law_289 : decode cL_law 289 = .ok (.aload_n 2, 1) := by decide +kernel
theorem dL_law_290 : decode cL_law 290 = .ok (.invokevirtual 86, 3) := by decide +kernel
theorem dL_law_293 : decode cL_law 293 = .ok (.iload 5, 2) := by decide +kernel
theorem dL_law_295 : decode cL_law 295 = .ok (.if_icmp .eq 5, 3) := by decide +kernel
theorem dL_law_300 : decode cL_law 300 = .ok (.iload 5, 2) := by decide +kernel
theorem dL_law_302 : decode cL_law 302 = .ok (.ifCond .ne 15, 3) := by decide +kernel
theorem dL_law_305 : decode cL_law 305 = .ok (.aload_n 3, 1) := by decide +kernel
theorem dL_law_306 : decode cL_law 306 = .ok (.iconst 0, 1) := by decide +kernel
theorem dL_law_307 : decode cL_law 307 = .ok (.laload, 1) := by decide +kernel
theorem dL_law_308 : decode cL_law 308 = .ok (.iload 6, 2) := by decide +kernel
theorem dL_law_310 : decode cL_law 310 = .ok (.i2l, 1) := by decide +kernel
theorem dL_law_311 : decode cL_law 311 = .ok (.lcmp, 1) := by decide +kernel
theorem dL_law_312 : decode cL_law 312 = .ok (.ifCond .eq 5, 3) := by decide +kernel
theorem dL_law_317 : decode cL_law 317 = .ok (.goto 1774, 3) := by decide +kernel
theorem dL_law_320 : decode cL_law 320 = .ok (.aload_n 1, 1) := by decide +kernel
theorem dL_law_321 : decode cL_law 321 = .ok (.aload_n 0, 1) := by decide +kernel
theorem dL_law_322 : decode cL_law 322 = .ok (.iload 4, 2) := by decide +kernel
theorem dL_law_324 : decode cL_law 324 = .ok (.iconst 1, 1) := by decide +kernel
theorem dL_law_325 : decode cL_law 325 = .ok (.iadd, 1) := by decide +kernel
theorem dL_law_326 : decode cL_law 326 = .ok (.iaload, 1) := by decide +kernel
theorem dL_law_327 : decode cL_law 327 = .ok (.aload_n 3, 1) := by decide +kernel
theorem dL_law_328 : decode cL_law 328 = .ok (.invokestatic 89, 3) := by decide +kernel
theorem dL_law_331 : decode cL_law 331 = .ok (.istore 5, 2) := by decide +kernel
theorem dL_law_333 : decode cL_law 333 = .ok (.aload_n 2, 1) := by decide +kernel
theorem dL_law_334 : decode cL_law 334 = .ok (.aload_n 0, 1) := by decide +kernel
theorem dL_law_335 : decode cL_law 335 = .ok (.iload 4, 2) := by decide +kernel
theorem dL_law_337 : decode cL_law 337 = .ok (.iconst 1, 1) := by decide +kernel
theorem dL_law_338 : decode cL_law 338 = .ok (.iadd, 1) := by decide +kernel
theorem dL_law_339 : decode cL_law 339 = .ok (.iaload, 1) := by decide +kernel
theorem dL_law_340 : decode cL_law 340 = .ok (.invokevirtual 92, 3) := by decide +kernel
theorem dL_law_343 : decode cL_law 343 = .ok (.istore 6, 2) := by decide +kernel
theorem dL_law_345 : decode cL_law 345 = .ok (.aload_n 2, 1) := by decide +kernel
theorem dL_law_346 : decode cL_law 346 = .ok (.invokevirtual 86, 3) := by decide +kernel
theorem dL_law_349 : decode cL_law 349 = .ok (.iload 5, 2) := by decide +kernel
theorem dL_law_351 : decode cL_law 351 = .ok (.if_icmp .eq 5, 3) := by decide +kernel
theorem dL_law_356 : decode cL_law 356 = .ok (.iload 5, 2) := by decide +kernel
theorem dL_law_358 : decode cL_law 358 = .ok (.ifCond .ne 15, 3) := by decide +kernel
theorem dL_law_361 : decode cL_law 361 = .ok (.aload_n 3, 1) := by decide +kernel
theorem dL_law_362 : decode cL_law 362 = .ok (.iconst 0, 1) := by decide +kernel
theorem dL_law_363 : decode cL_law 363 = .ok (.laload, 1) := by decide +kernel
theorem dL_law_364 : decode cL_law 364 = .ok (.iload 6, 2) := by decide +kernel
theorem dL_law_366 : decode cL_law 366 = .ok (.i2l, 1) := by decide +kernel
theorem dL_law_367 : decode cL_law 367 = .ok (.lcmp, 1) := by decide +kernel
theorem dL_law_368 : decode cL_law 368 = .ok (.ifCond .eq 5, 3) := by decide +kernel
theorem dL_law_373 : decode cL_law 373 = .ok (.goto 1718, 3) := by decide +kernel
theorem dL_law_376 : decode cL_law 376 = .ok (.aload_n 1, 1) := by decide +kernel
theorem dL_law_377 : decode cL_law 377 = .ok (.invokevirtual 93, 3) := by decide +kernel
theorem dL_law_380 : decode cL_law 380 = .ok (.aload_n 2, 1) := by decide +kernel
theorem dL_law_381 : decode cL_law 381 = .ok (.invokevirtual 96, 3) := by decide +kernel
theorem dL_law_384 : decode cL_law 384 = .ok (.if_icmp .eq 1707, 3) := by decide +kernel
theorem dL_law_389 : decode cL_law 389 = .ok (.aload_n 1, 1) := by decide +kernel
theorem dL_law_390 : decode cL_law 390 = .ok (.invokevirtual 97, 3) := by decide +kernel
theorem dL_law_393 : decode cL_law 393 = .ok (.aload_n 2, 1) := by decide +kernel
theorem dL_law_394 : decode cL_law 394 = .ok (.invokevirtual 100, 3) := by decide +kernel
theorem dL_law_397 : decode cL_law 397 = .ok (.if_icmp .eq 1694, 3) := by decide +kernel
theorem dL_law_402 : decode cL_law 402 = .ok (.aload_n 1, 1) := by decide +kernel
theorem dL_law_403 : decode cL_law 403 = .ok (.aload_n 0, 1) := by decide +kernel
theorem dL_law_404 : decode cL_law 404 = .ok (.iload 4, 2) := by decide +kernel
theorem dL_law_406 : decode cL_law 406 = .ok (.iconst 1, 1) := by decide +kernel
theorem dL_law_407 : decode cL_law 407 = .ok (.iadd, 1) := by decide +kernel
theorem dL_law_408 : decode cL_law 408 = .ok (.iaload, 1) := by decide +kernel
theorem dL_law_409 : decode cL_law 409 = .ok (.aload_n 0, 1) := by decide +kernel
theorem dL_law_410 : decode cL_law 410 = .ok (.iload 4, 2) := by decide +kernel
theorem dL_law_412 : decode cL_law 412 = .ok (.iconst 2, 1) := by decide +kernel
theorem dL_law_413 : decode cL_law 413 = .ok (.iadd, 1) := by decide +kernel
theorem dL_law_414 : decode cL_law 414 = .ok (.iaload, 1) := by decide +kernel
theorem dL_law_415 : decode cL_law 415 = .ok (.aload_n 3, 1) := by decide +kernel
theorem dL_law_416 : decode cL_law 416 = .ok (.invokestatic 101, 3) := by decide +kernel
theorem dL_law_419 : decode cL_law 419 = .ok (.istore 5, 2) := by decide +kernel
theorem dL_law_421 : decode cL_law 421 = .ok (.aload_n 2, 1) := by decide +kernel
theorem dL_law_422 : decode cL_law 422 = .ok (.aload_n 0, 1) := by decide +kernel
theorem dL_law_423 : decode cL_law 423 = .ok (.iload 4, 2) := by decide +kernel
theorem dL_law_425 : decode cL_law 425 = .ok (.iconst 1, 1) := by decide +kernel
theorem dL_law_426 : decode cL_law 426 = .ok (.iadd, 1) := by decide +kernel
theorem dL_law_427 : decode cL_law 427 = .ok (.iaload, 1) := by decide +kernel
theorem dL_law_428 : decode cL_law 428 = .ok (.aload_n 0, 1) := by decide +kernel
theorem dL_law_429 : decode cL_law 429 = .ok (.iload 4, 2) := by decide +kernel
theorem dL_law_431 : decode cL_law 431 = .ok (.iconst 2, 1) := by decide +kernel
theorem dL_law_432 : decode cL_law 432 = .ok (.iadd, 1) := by decide +kernel
theorem dL_law_433 : decode cL_law 433 = .ok (.iaload, 1) := by decide +kernel
theorem dL_law_434 : decode cL_law 434 = .ok (.invokevirtual 104, 3) := by decide +kernel
theorem dL_law_437 : decode cL_law 437 = .ok (.istore 6, 2) := by decide +kernel
theorem dL_law_439 : decode cL_law 439 = .ok (.aload_n 2, 1) := by decide +kernel
theorem dL_law_440 : decode cL_law 440 = .ok (.invokevirtual 86, 3) := by decide +kernel
theorem dL_law_443 : decode cL_law 443 = .ok (.iload 5, 2) := by decide +kernel
theorem dL_law_445 : decode cL_law 445 = .ok (.if_icmp .eq 5, 3) := by decide +kernel
theorem dL_law_450 : decode cL_law 450 = .ok (.iload 5, 2) := by decide +kernel
theorem dL_law_452 : decode cL_law 452 = .ok (.ifCond .ne 15, 3) := by decide +kernel
theorem dL_law_455 : decode cL_law 455 = .ok (.aload_n 3, 1) := by decide +kernel
theorem dL_law_456 : decode cL_law 456 = .ok (.iconst 0, 1) := by decide +kernel
theorem dL_law_457 : decode cL_law 457 = .ok (.laload, 1) := by decide +kernel
theorem dL_law_458 : decode cL_law 458 = .ok (.iload 6, 2) := by decide +kernel
theorem dL_law_460 : decode cL_law 460 = .ok (.i2l, 1) := by decide +kernel
theorem dL_law_461 : decode cL_law 461 = .ok (.lcmp, 1) := by decide +kernel
theorem dL_law_462 : decode cL_law 462 = .ok (.ifCond .eq 5, 3) := by decide +kernel
theorem dL_law_467 : decode cL_law 467 = .ok (.goto 1624, 3) := by decide +kernel
theorem dL_law_470 : decode cL_law 470 = .ok (.aload_n 1, 1) := by decide +kernel
theorem dL_law_471 : decode cL_law 471 = .ok (.aload_n 0, 1) := by decide +kernel
theorem dL_law_472 : decode cL_law 472 = .ok (.iload 4, 2) := by decide +kernel
theorem dL_law_474 : decode cL_law 474 = .ok (.iconst 1, 1) := by decide +kernel
theorem dL_law_475 : decode cL_law 475 = .ok (.iadd, 1) := by decide +kernel
theorem dL_law_476 : decode cL_law 476 = .ok (.iaload, 1) := by decide +kernel
theorem dL_law_477 : decode cL_law 477 = .ok (.aload_n 0, 1) := by decide +kernel
theorem dL_law_478 : decode cL_law 478 = .ok (.iload 4, 2) := by decide +kernel
theorem dL_law_480 : decode cL_law 480 = .ok (.iconst 2, 1) := by decide +kernel
theorem dL_law_481 : decode cL_law 481 = .ok (.iadd, 1) := by decide +kernel
theorem dL_law_482 : decode cL_law 482 = .ok (.iaload, 1) := by decide +kernel
theorem dL_law_483 : decode cL_law 483 = .ok (.aload_n 0, 1) := by decide +kernel
theorem dL_law_484 : decode cL_law 484 = .ok (.iload 4, 2) := by decide +kernel
theorem dL_law_486 : decode cL_law 486 = .ok (.iconst 3, 1) := by decide +kernel
theorem dL_law_487 : decode cL_law 487 = .ok (.iadd, 1) := by decide +kernel
theorem dL_law_488 : decode cL_law 488 = .ok (.iaload, 1) := by decide +kernel
theorem dL_law_489 : decode cL_law 489 = .ok (.i2l, 1) := by decide +kernel
theorem dL_law_490 : decode cL_law 490 = .ok (.bipush 32, 2) := by decide +kernel
theorem dL_law_492 : decode cL_law 492 = .ok (.lshl, 1) := by decide +kernel
theorem dL_law_493 : decode cL_law 493 = .ok (.aload_n 0, 1) := by decide +kernel
theorem dL_law_494 : decode cL_law 494 = .ok (.iload 4, 2) := by decide +kernel
theorem dL_law_496 : decode cL_law 496 = .ok (.iconst 4, 1) := by decide +kernel
theorem dL_law_497 : decode cL_law 497 = .ok (.iadd, 1) := by decide +kernel
theorem dL_law_498 : decode cL_law 498 = .ok (.iaload, 1) := by decide +kernel
theorem dL_law_499 : decode cL_law 499 = .ok (.i2l, 1) := by decide +kernel
theorem dL_law_500 : decode cL_law 500 = .ok (.ldc2_w 105, 3) := by decide +kernel
theorem dL_law_503 : decode cL_law 503 = .ok (.land, 1) := by decide +kernel
theorem dL_law_504 : decode cL_law 504 = .ok (.lor, 1) := by decide +kernel
theorem dL_law_505 : decode cL_law 505 = .ok (.aload_n 3, 1) := by decide +kernel
theorem dL_law_506 : decode cL_law 506 = .ok (.invokestatic 107, 3) := by decide +kernel
theorem dL_law_509 : decode cL_law 509 = .ok (.istore 5, 2) := by decide +kernel
theorem dL_law_511 : decode cL_law 511 = .ok (.aload_n 2, 1) := by decide +kernel
theorem dL_law_512 : decode cL_law 512 = .ok (.aload_n 0, 1) := by decide +kernel
theorem dL_law_513 : decode cL_law 513 = .ok (.iload 4, 2) := by decide +kernel
theorem dL_law_515 : decode cL_law 515 = .ok (.iconst 1, 1) := by decide +kernel
theorem dL_law_516 : decode cL_law 516 = .ok (.iadd, 1) := by decide +kernel
theorem dL_law_517 : decode cL_law 517 = .ok (.iaload, 1) := by decide +kernel
theorem dL_law_518 : decode cL_law 518 = .ok (.aload_n 0, 1) := by decide +kernel
theorem dL_law_519 : decode cL_law 519 = .ok (.iload 4, 2) := by decide +kernel
theorem dL_law_521 : decode cL_law 521 = .ok (.iconst 2, 1) := by decide +kernel
theorem dL_law_522 : decode cL_law 522 = .ok (.iadd, 1) := by decide +kernel
theorem dL_law_523 : decode cL_law 523 = .ok (.iaload, 1) := by decide +kernel
theorem dL_law_524 : decode cL_law 524 = .ok (.aload_n 0, 1) := by decide +kernel
theorem dL_law_525 : decode cL_law 525 = .ok (.iload 4, 2) := by decide +kernel
theorem dL_law_527 : decode cL_law 527 = .ok (.iconst 3, 1) := by decide +kernel
theorem dL_law_528 : decode cL_law 528 = .ok (.iadd, 1) := by decide +kernel
theorem dL_law_529 : decode cL_law 529 = .ok (.iaload, 1) := by decide +kernel
theorem dL_law_530 : decode cL_law 530 = .ok (.i2l, 1) := by decide +kernel
theorem dL_law_531 : decode cL_law 531 = .ok (.bipush 32, 2) := by decide +kernel
theorem dL_law_533 : decode cL_law 533 = .ok (.lshl, 1) := by decide +kernel
theorem dL_law_534 : decode cL_law 534 = .ok (.aload_n 0, 1) := by decide +kernel
theorem dL_law_535 : decode cL_law 535 = .ok (.iload 4, 2) := by decide +kernel
theorem dL_law_537 : decode cL_law 537 = .ok (.iconst 4, 1) := by decide +kernel
theorem dL_law_538 : decode cL_law 538 = .ok (.iadd, 1) := by decide +kernel
theorem dL_law_539 : decode cL_law 539 = .ok (.iaload, 1) := by decide +kernel
theorem dL_law_540 : decode cL_law 540 = .ok (.i2l, 1) := by decide +kernel
theorem dL_law_541 : decode cL_law 541 = .ok (.ldc2_w 105, 3) := by decide +kernel
theorem dL_law_544 : decode cL_law 544 = .ok (.land, 1) := by decide +kernel
theorem dL_law_545 : decode cL_law 545 = .ok (.lor, 1) := by decide +kernel
theorem dL_law_546 : decode cL_law 546 = .ok (.invokevirtual 110, 3) := by decide +kernel
theorem dL_law_549 : decode cL_law 549 = .ok (.istore 6, 2) := by decide +kernel
theorem dL_law_551 : decode cL_law 551 = .ok (.aload_n 2, 1) := by decide +kernel
theorem dL_law_552 : decode cL_law 552 = .ok (.invokevirtual 86, 3) := by decide +kernel
theorem dL_law_555 : decode cL_law 555 = .ok (.iload 5, 2) := by decide +kernel
theorem dL_law_557 : decode cL_law 557 = .ok (.if_icmp .eq 5, 3) := by decide +kernel
theorem dL_law_562 : decode cL_law 562 = .ok (.iload 5, 2) := by decide +kernel
theorem dL_law_564 : decode cL_law 564 = .ok (.ifCond .ne 15, 3) := by decide +kernel
theorem dL_law_579 : decode cL_law 579 = .ok (.goto 1512, 3) := by decide +kernel
theorem dL_law_582 : decode cL_law 582 = .ok (.aload_n 1, 1) := by decide +kernel
theorem dL_law_583 : decode cL_law 583 = .ok (.aload_n 0, 1) := by decide +kernel
theorem dL_law_584 : decode cL_law 584 = .ok (.iload 4, 2) := by decide +kernel
theorem dL_law_586 : decode cL_law 586 = .ok (.iconst 1, 1) := by decide +kernel
theorem dL_law_587 : decode cL_law 587 = .ok (.iadd, 1) := by decide +kernel
theorem dL_law_588 : decode cL_law 588 = .ok (.iaload, 1) := by decide +kernel
theorem dL_law_589 : decode cL_law 589 = .ok (.aload_n 0, 1) := by decide +kernel
theorem dL_law_590 : decode cL_law 590 = .ok (.iload 4, 2) := by decide +kernel
theorem dL_law_592 : decode cL_law 592 = .ok (.iconst 2, 1) := by decide +kernel
theorem dL_law_593 : decode cL_law 593 = .ok (.iadd, 1) := by decide +kernel
theorem dL_law_594 : decode cL_law 594 = .ok (.iaload, 1) := by decide +kernel
theorem dL_law_595 : decode cL_law 595 = .ok (.i2l, 1) := by decide +kernel
theorem dL_law_596 : decode cL_law 596 = .ok (.bipush 32, 2) := by decide +kernel
theorem dL_law_598 : decode cL_law 598 = .ok (.lshl, 1) := by decide +kernel
theorem dL_law_599 : decode cL_law 599 = .ok (.aload_n 0, 1) := by decide +kernel
theorem dL_law_600 : decode cL_law 600 = .ok (.iload 4, 2) := by decide +kernel
theorem dL_law_602 : decode cL_law 602 = .ok (.iconst 3, 1) := by decide +kernel
theorem dL_law_603 : decode cL_law 603 = .ok (.iadd, 1) := by decide +kernel
theorem dL_law_604 : decode cL_law 604 = .ok (.iaload, 1) := by decide +kernel
theorem dL_law_605 : decode cL_law 605 = .ok (.i2l, 1) := by decide +kernel
theorem dL_law_606 : decode cL_law 606 = .ok (.ldc2_w 105, 3) := by decide +kernel
theorem dL_law_609 : decode cL_law 609 = .ok (.land, 1) := by decide +kernel
theorem dL_law_610 : decode cL_law 610 = .ok (.lor, 1) := by decide +kernel
theorem dL_law_611 : decode cL_law 611 = .ok (.aload_n 3, 1) := by decide +kernel
theorem dL_law_612 : decode cL_law 612 = .ok (.invokestatic 111, 3) := by decide +kernel
theorem dL_law_615 : decode cL_law 615 = .ok (.istore 5, 2) := by decide +kernel
theorem dL_law_617 : decode cL_law 617 = .ok (.aload_n 2, 1) := by decide +kernel
theorem dL_law_618 : decode cL_law 618 = .ok (.aload_n 0, 1) := by decide +kernel
theorem dL_law_619 : decode cL_law 619 = .ok (.iload 4, 2) := by decide +kernel
theorem dL_law_621 : decode cL_law 621 = .ok (.iconst 1, 1) := by decide +kernel
theorem dL_law_622 : decode cL_law 622 = .ok (.iadd, 1) := by decide +kernel
theorem dL_law_623 : decode cL_law 623 = .ok (.iaload, 1) := by decide +kernel
theorem dL_law_624 : decode cL_law 624 = .ok (.aload_n 0, 1) := by decide +kernel
theorem dL_law_625 : decode cL_law 625 = .ok (.iload 4, 2) := by decide +kernel
theorem dL_law_627 : decode cL_law 627 = .ok (.iconst 2, 1) := by decide +kernel
theorem dL_law_628 : decode cL_law 628 = .ok (.iadd, 1) := by decide +kernel
theorem dL_law_629 : decode cL_law 629 = .ok (.iaload, 1) := by decide +kernel
theorem dL_law_630 : decode cL_law 630 = .ok (.i2l, 1) := by decide +kernel
theorem dL_law_631 : decode cL_law 631 = .ok (.bipush 32, 2) := by decide +kernel
theorem dL_law_633 : decode cL_law 633 = .ok (.lshl, 1) := by decide +kernel
theorem dL_law_634 : decode cL_law 634 = .ok (.aload_n 0, 1) := by decide +kernel
theorem dL_law_635 : decode cL_law 635 = .ok (.iload 4, 2) := by decide +kernel
theorem dL_law_637 : decode cL_law 637 = .ok (.iconst 3, 1) := by decide +kernel
theorem dL_law_638 : decode cL_law 638 = .ok (.iadd, 1) := by decide +kernel
theorem dL_law_639 : decode cL_law 639 = .ok (.iaload, 1) := by decide +kernel
theorem dL_law_640 : decode cL_law 640 = .ok (.i2l, 1) := by decide +kernel
theorem dL_law_641 : decode cL_law 641 = .ok (.ldc2_w 105, 3) := by decide +kernel
theorem dL_law_644 : decode cL_law 644 = .ok (.land, 1) := by decide +kernel
theorem dL_law_645 : decode cL_law 645 = .ok (.lor, 1) := by decide +kernel
theorem dL_law_646 : decode cL_law 646 = .ok (.invokevirtual 114, 3) := by decide +kernel
theorem dL_law_649 : decode cL_law 649 = .ok (.lstore 6, 2) := by decide +kernel
theorem dL_law_651 : decode cL_law 651 = .ok (.aload_n 2, 1) := by decide +kernel
theorem dL_law_652 : decode cL_law 652 = .ok (.invokevirtual 86, 3) := by decide +kernel
theorem dL_law_655 : decode cL_law 655 = .ok (.iload 5, 2) := by decide +kernel
theorem dL_law_657 : decode cL_law 657 = .ok (.if_icmp .eq 5, 3) := by decide +kernel
theorem dL_law_662 : decode cL_law 662 = .ok (.iload 5, 2) := by decide +kernel
theorem dL_law_664 : decode cL_law 664 = .ok (.ifCond .ne 14, 3) := by decide +kernel
theorem dL_law_678 : decode cL_law 678 = .ok (.goto 1413, 3) := by decide +kernel
theorem dL_law_681 : decode cL_law 681 = .ok (.aload_n 1, 1) := by decide +kernel
theorem dL_law_682 : decode cL_law 682 = .ok (.aload_n 0, 1) := by decide +kernel
theorem dL_law_683 : decode cL_law 683 = .ok (.iload 4, 2) := by decide +kernel
theorem dL_law_685 : decode cL_law 685 = .ok (.iconst 1, 1) := by decide +kernel
theorem dL_law_686 : decode cL_law 686 = .ok (.iadd, 1) := by decide +kernel
theorem dL_law_687 : decode cL_law 687 = .ok (.iaload, 1) := by decide +kernel
theorem dL_law_688 : decode cL_law 688 = .ok (.aload_n 0, 1) := by decide +kernel
theorem dL_law_689 : decode cL_law 689 = .ok (.iload 4, 2) := by decide +kernel
theorem dL_law_691 : decode cL_law 691 = .ok (.iconst 2, 1) := by decide +kernel
theorem dL_law_692 : decode cL_law 692 = .ok (.iadd, 1) := by decide +kernel
theorem dL_law_693 : decode cL_law 693 = .ok (.iaload, 1) := by decide +kernel
theorem dL_law_694 : decode cL_law 694 = .ok (.invokevirtual 115, 3) := by decide +kernel
theorem dL_law_697 : decode cL_law 697 = .ok (.aload_n 2, 1) := by decide +kernel
theorem dL_law_698 : decode cL_law 698 = .ok (.aload_n 0, 1) := by decide +kernel
theorem dL_law_699 : decode cL_law 699 = .ok (.iload 4, 2) := by decide +kernel
theorem dL_law_701 : decode cL_law 701 = .ok (.iconst 1, 1) := by decide +kernel
theorem dL_law_702 : decode cL_law 702 = .ok (.iadd, 1) := by decide +kernel
theorem dL_law_703 : decode cL_law 703 = .ok (.iaload, 1) := by decide +kernel
theorem dL_law_704 : decode cL_law 704 = .ok (.aload_n 0, 1) := by decide +kernel
theorem dL_law_705 : decode cL_law 705 = .ok (.iload 4, 2) := by decide +kernel
theorem dL_law_707 : decode cL_law 707 = .ok (.iconst 2, 1) := by decide +kernel
theorem dL_law_708 : decode cL_law 708 = .ok (.iadd, 1) := by decide +kernel
theorem dL_law_709 : decode cL_law 709 = .ok (.iaload, 1) := by decide +kernel
theorem dL_law_710 : decode cL_law 710 = .ok (.invokevirtual 118, 3) := by decide +kernel
theorem dL_law_713 : decode cL_law 713 = .ok (.if_icmp .eq 1378, 3) := by decide +kernel
theorem dL_law_718 : decode cL_law 718 = .ok (.aload_n 1, 1) := by decide +kernel
theorem dL_law_719 : decode cL_law 719 = .ok (.aload_n 0, 1) := by decide +kernel
theorem dL_law_720 : decode cL_law 720 = .ok (.iload 4, 2) := by decide +kernel
theorem dL_law_722 : decode cL_law 722 = .ok (.iconst 1, 1) := by decide +kernel
theorem dL_law_723 : decode cL_law 723 = .ok (.iadd, 1) := by decide +kernel
theorem dL_law_724 : decode cL_law 724 = .ok (.iaload, 1) := by decide +kernel
theorem dL_law_725 : decode cL_law 725 = .ok (.invokevirtual 119, 3) := by decide +kernel
theorem dL_law_728 : decode cL_law 728 = .ok (.aload_n 2, 1) := by decide +kernel
theorem dL_law_729 : decode cL_law 729 = .ok (.aload_n 0, 1) := by decide +kernel
theorem dL_law_730 : decode cL_law 730 = .ok (.iload 4, 2) := by decide +kernel
theorem dL_law_732 : decode cL_law 732 = .ok (.iconst 1, 1) := by decide +kernel
theorem dL_law_733 : decode cL_law 733 = .ok (.iadd, 1) := by decide +kernel
theorem dL_law_734 : decode cL_law 734 = .ok (.iaload, 1) := by decide +kernel
theorem dL_law_735 : decode cL_law 735 = .ok (.invokevirtual 123, 3) := by decide +kernel
theorem dL_law_738 : decode cL_law 738 = .ok (.lcmp, 1) := by decide +kernel
theorem dL_law_739 : decode cL_law 739 = .ok (.ifCond .eq 1352, 3) := by decide +kernel
theorem dL_law_744 : decode cL_law 744 = .ok (.aload_n 1, 1) := by decide +kernel
theorem dL_law_745 : decode cL_law 745 = .ok (.invokevirtual 124, 3) := by decide +kernel
theorem dL_law_748 : decode cL_law 748 = .ok (.aload_n 2, 1) := by decide +kernel
theorem dL_law_749 : decode cL_law 749 = .ok (.invokevirtual 127, 3) := by decide +kernel
theorem dL_law_752 : decode cL_law 752 = .ok (.if_icmp .eq 1339, 3) := by decide +kernel
theorem dL_law_757 : decode cL_law 757 = .ok (.aload_n 1, 1) := by decide +kernel
theorem dL_law_758 : decode cL_law 758 = .ok (.aload_n 0, 1) := by decide +kernel
theorem dL_law_759 : decode cL_law 759 = .ok (.iload 4, 2) := by decide +kernel
theorem dL_law_761 : decode cL_law 761 = .ok (.iconst 1, 1) := by decide +kernel
theorem dL_law_762 : decode cL_law 762 = .ok (.iadd, 1) := by decide +kernel
theorem dL_law_763 : decode cL_law 763 = .ok (.iaload, 1) := by decide +kernel
theorem dL_law_764 : decode cL_law 764 = .ok (.aload_n 3, 1) := by decide +kernel
theorem dL_law_765 : decode cL_law 765 = .ok (.invokestatic 128, 3) := by decide +kernel
theorem dL_law_768 : decode cL_law 768 = .ok (.istore 5, 2) := by decide +kernel
theorem dL_law_770 : decode cL_law 770 = .ok (.aload_n 2, 1) := by decide +kernel
theorem dL_law_771 : decode cL_law 771 = .ok (.aload_n 0, 1) := by decide +kernel
theorem dL_law_772 : decode cL_law 772 = .ok (.iload 4, 2) := by decide +kernel
theorem dL_law_774 : decode cL_law 774 = .ok (.iconst 1, 1) := by decide +kernel
theorem dL_law_775 : decode cL_law 775 = .ok (.iadd, 1) := by decide +kernel
theorem dL_law_776 : decode cL_law 776 = .ok (.iaload, 1) := by decide +kernel
theorem dL_law_777 : decode cL_law 777 = .ok (.invokevirtual 130, 3) := by decide +kernel
theorem dL_law_780 : decode cL_law 780 = .ok (.istore 6, 2) := by decide +kernel
theorem dL_law_782 : decode cL_law 782 = .ok (.aload_n 2, 1) := by decide +kernel
theorem dL_law_783 : decode cL_law 783 = .ok (.invokevirtual 86, 3) := by decide +kernel
theorem dL_law_786 : decode cL_law 786 = .ok (.iload 5, 2) := by decide +kernel
theorem dL_law_788 : decode cL_law 788 = .ok (.if_icmp .eq 5, 3) := by decide +kernel
theorem dL_law_793 : decode cL_law 793 = .ok (.iload 5, 2) := by decide +kernel
theorem dL_law_795 : decode cL_law 795 = .ok (.ifCond .ne 15, 3) := by decide +kernel
theorem dL_law_810 : decode cL_law 810 = .ok (.goto 1281, 3) := by decide +kernel
theorem dL_law_813 : decode cL_law 813 = .ok (.aload_n 1, 1) := by decide +kernel
theorem dL_law_814 : decode cL_law 814 = .ok (.aload_n 0, 1) := by decide +kernel
theorem dL_law_815 : decode cL_law 815 = .ok (.iload 4, 2) := by decide +kernel
theorem dL_law_817 : decode cL_law 817 = .ok (.iconst 1, 1) := by decide +kernel
theorem dL_law_818 : decode cL_law 818 = .ok (.iadd, 1) := by decide +kernel
theorem dL_law_819 : decode cL_law 819 = .ok (.iaload, 1) := by decide +kernel
theorem dL_law_820 : decode cL_law 820 = .ok (.aload_n 0, 1) := by decide +kernel
theorem dL_law_821 : decode cL_law 821 = .ok (.iload 4, 2) := by decide +kernel
theorem dL_law_823 : decode cL_law 823 = .ok (.iconst 2, 1) := by decide +kernel
theorem dL_law_824 : decode cL_law 824 = .ok (.iadd, 1) := by decide +kernel
theorem dL_law_825 : decode cL_law 825 = .ok (.iaload, 1) := by decide +kernel
theorem dL_law_826 : decode cL_law 826 = .ok (.aload_n 3, 1) := by decide +kernel
theorem dL_law_827 : decode cL_law 827 = .ok (.invokestatic 131, 3) := by decide +kernel
theorem dL_law_830 : decode cL_law 830 = .ok (.istore 5, 2) := by decide +kernel
theorem dL_law_832 : decode cL_law 832 = .ok (.aload_n 2, 1) := by decide +kernel
theorem dL_law_833 : decode cL_law 833 = .ok (.aload_n 0, 1) := by decide +kernel
theorem dL_law_834 : decode cL_law 834 = .ok (.iload 4, 2) := by decide +kernel
theorem dL_law_836 : decode cL_law 836 = .ok (.iconst 1, 1) := by decide +kernel
theorem dL_law_837 : decode cL_law 837 = .ok (.iadd, 1) := by decide +kernel
theorem dL_law_838 : decode cL_law 838 = .ok (.iaload, 1) := by decide +kernel
theorem dL_law_839 : decode cL_law 839 = .ok (.aload_n 0, 1) := by decide +kernel
theorem dL_law_840 : decode cL_law 840 = .ok (.iload 4, 2) := by decide +kernel
theorem dL_law_842 : decode cL_law 842 = .ok (.iconst 2, 1) := by decide +kernel
theorem dL_law_843 : decode cL_law 843 = .ok (.iadd, 1) := by decide +kernel
theorem dL_law_844 : decode cL_law 844 = .ok (.iaload, 1) := by decide +kernel
theorem dL_law_845 : decode cL_law 845 = .ok (.invokevirtual 133, 3) := by decide +kernel
theorem dL_law_848 : decode cL_law 848 = .ok (.istore 6, 2) := by decide +kernel
theorem dL_law_850 : decode cL_law 850 = .ok (.aload_n 2, 1) := by decide +kernel
theorem dL_law_851 : decode cL_law 851 = .ok (.invokevirtual 86, 3) := by decide +kernel
theorem dL_law_854 : decode cL_law 854 = .ok (.iload 5, 2) := by decide +kernel
theorem dL_law_856 : decode cL_law 856 = .ok (.if_icmp .eq 5, 3) := by decide +kernel
theorem dL_law_861 : decode cL_law 861 = .ok (.iload 5, 2) := by decide +kernel
theorem dL_law_863 : decode cL_law 863 = .ok (.ifCond .ne 15, 3) := by decide +kernel
theorem dL_law_878 : decode cL_law 878 = .ok (.goto 1213, 3) := by decide +kernel
theorem dL_law_881 : decode cL_law 881 = .ok (.aload_n 1, 1) := by decide +kernel
theorem dL_law_882 : decode cL_law 882 = .ok (.aload_n 0, 1) := by decide +kernel
theorem dL_law_883 : decode cL_law 883 = .ok (.iload 4, 2) := by decide +kernel
theorem dL_law_885 : decode cL_law 885 = .ok (.iconst 1, 1) := by decide +kernel
theorem dL_law_886 : decode cL_law 886 = .ok (.iadd, 1) := by decide +kernel
theorem dL_law_887 : decode cL_law 887 = .ok (.iaload, 1) := by decide +kernel
theorem dL_law_888 : decode cL_law 888 = .ok (.aload_n 0, 1) := by decide +kernel
theorem dL_law_889 : decode cL_law 889 = .ok (.iload 4, 2) := by decide +kernel
theorem dL_law_891 : decode cL_law 891 = .ok (.iconst 2, 1) := by decide +kernel
theorem dL_law_892 : decode cL_law 892 = .ok (.iadd, 1) := by decide +kernel
theorem dL_law_893 : decode cL_law 893 = .ok (.iaload, 1) := by decide +kernel
theorem dL_law_894 : decode cL_law 894 = .ok (.aload_n 3, 1) := by decide +kernel
theorem dL_law_895 : decode cL_law 895 = .ok (.invokestatic 134, 3) := by decide +kernel
theorem dL_law_898 : decode cL_law 898 = .ok (.istore 5, 2) := by decide +kernel
theorem dL_law_900 : decode cL_law 900 = .ok (.aload_n 2, 1) := by decide +kernel
theorem dL_law_901 : decode cL_law 901 = .ok (.aload_n 0, 1) := by decide +kernel
theorem dL_law_902 : decode cL_law 902 = .ok (.iload 4, 2) := by decide +kernel
theorem dL_law_904 : decode cL_law 904 = .ok (.iconst 1, 1) := by decide +kernel
theorem dL_law_905 : decode cL_law 905 = .ok (.iadd, 1) := by decide +kernel
theorem dL_law_906 : decode cL_law 906 = .ok (.iaload, 1) := by decide +kernel
theorem dL_law_907 : decode cL_law 907 = .ok (.aload_n 0, 1) := by decide +kernel
theorem dL_law_908 : decode cL_law 908 = .ok (.iload 4, 2) := by decide +kernel
theorem dL_law_910 : decode cL_law 910 = .ok (.iconst 2, 1) := by decide +kernel
theorem dL_law_911 : decode cL_law 911 = .ok (.iadd, 1) := by decide +kernel
theorem dL_law_912 : decode cL_law 912 = .ok (.iaload, 1) := by decide +kernel
theorem dL_law_913 : decode cL_law 913 = .ok (.invokevirtual 136, 3) := by decide +kernel
theorem dL_law_916 : decode cL_law 916 = .ok (.istore 6, 2) := by decide +kernel
theorem dL_law_918 : decode cL_law 918 = .ok (.aload_n 2, 1) := by decide +kernel
theorem dL_law_919 : decode cL_law 919 = .ok (.invokevirtual 86, 3) := by decide +kernel
theorem dL_law_922 : decode cL_law 922 = .ok (.iload 5, 2) := by decide +kernel
theorem dL_law_924 : decode cL_law 924 = .ok (.if_icmp .eq 5, 3) := by decide +kernel
theorem dL_law_929 : decode cL_law 929 = .ok (.iload 5, 2) := by decide +kernel
theorem dL_law_931 : decode cL_law 931 = .ok (.ifCond .ne 15, 3) := by decide +kernel
theorem dL_law_946 : decode cL_law 946 = .ok (.goto 1145, 3) := by decide +kernel
theorem dL_law_949 : decode cL_law 949 = .ok (.aload_n 1, 1) := by decide +kernel
theorem dL_law_950 : decode cL_law 950 = .ok (.aload_n 0, 1) := by decide +kernel
theorem dL_law_951 : decode cL_law 951 = .ok (.iload 4, 2) := by decide +kernel
theorem dL_law_953 : decode cL_law 953 = .ok (.iconst 1, 1) := by decide +kernel
theorem dL_law_954 : decode cL_law 954 = .ok (.iadd, 1) := by decide +kernel
theorem dL_law_955 : decode cL_law 955 = .ok (.iaload, 1) := by decide +kernel
theorem dL_law_956 : decode cL_law 956 = .ok (.aload_n 0, 1) := by decide +kernel
theorem dL_law_957 : decode cL_law 957 = .ok (.iload 4, 2) := by decide +kernel
theorem dL_law_959 : decode cL_law 959 = .ok (.iconst 2, 1) := by decide +kernel
theorem dL_law_960 : decode cL_law 960 = .ok (.iadd, 1) := by decide +kernel
theorem dL_law_961 : decode cL_law 961 = .ok (.iaload, 1) := by decide +kernel
theorem dL_law_962 : decode cL_law 962 = .ok (.aload_n 3, 1) := by decide +kernel
theorem dL_law_963 : decode cL_law 963 = .ok (.invokestatic 137, 3) := by decide +kernel
theorem dL_law_966 : decode cL_law 966 = .ok (.istore 5, 2) := by decide +kernel
theorem dL_law_968 : decode cL_law 968 = .ok (.aload_n 2, 1) := by decide +kernel
theorem dL_law_969 : decode cL_law 969 = .ok (.aload_n 0, 1) := by decide +kernel
theorem dL_law_970 : decode cL_law 970 = .ok (.iload 4, 2) := by decide +kernel
theorem dL_law_972 : decode cL_law 972 = .ok (.iconst 1, 1) := by decide +kernel
theorem dL_law_973 : decode cL_law 973 = .ok (.iadd, 1) := by decide +kernel
theorem dL_law_974 : decode cL_law 974 = .ok (.iaload, 1) := by decide +kernel
theorem dL_law_975 : decode cL_law 975 = .ok (.aload_n 0, 1) := by decide +kernel
theorem dL_law_976 : decode cL_law 976 = .ok (.iload 4, 2) := by decide +kernel
theorem dL_law_978 : decode cL_law 978 = .ok (.iconst 2, 1) := by decide +kernel
theorem dL_law_979 : decode cL_law 979 = .ok (.iadd, 1) := by decide +kernel
theorem dL_law_980 : decode cL_law 980 = .ok (.iaload, 1) := by decide +kernel
theorem dL_law_981 : decode cL_law 981 = .ok (.invokevirtual 139, 3) := by decide +kernel
theorem dL_law_984 : decode cL_law 984 = .ok (.istore 6, 2) := by decide +kernel
theorem dL_law_986 : decode cL_law 986 = .ok (.aload_n 2, 1) := by decide +kernel
theorem dL_law_987 : decode cL_law 987 = .ok (.invokevirtual 86, 3) := by decide +kernel
theorem dL_law_990 : decode cL_law 990 = .ok (.iload 5, 2) := by decide +kernel
theorem dL_law_992 : decode cL_law 992 = .ok (.if_icmp .eq 5, 3) := by decide +kernel
theorem dL_law_997 : decode cL_law 997 = .ok (.iload 5, 2) := by decide +kernel
theorem dL_law_999 : decode cL_law 999 = .ok (.ifCond .ne 15, 3) := by decide +kernel
theorem dL_law_1014 : decode cL_law 1014 = .ok (.goto 1077, 3) := by decide +kernel
theorem dL_law_1017 : decode cL_law 1017 = .ok (.aload_n 1, 1) := by decide +kernel
theorem dL_law_1018 : decode cL_law 1018 = .ok (.aload_n 0, 1) := by decide +kernel
theorem dL_law_1019 : decode cL_law 1019 = .ok (.iload 4, 2) := by decide +kernel
theorem dL_law_1021 : decode cL_law 1021 = .ok (.iconst 1, 1) := by decide +kernel
theorem dL_law_1022 : decode cL_law 1022 = .ok (.iadd, 1) := by decide +kernel
theorem dL_law_1023 : decode cL_law 1023 = .ok (.iaload, 1) := by decide +kernel
theorem dL_law_1024 : decode cL_law 1024 = .ok (.invokevirtual 140, 3) := by decide +kernel
theorem dL_law_1027 : decode cL_law 1027 = .ok (.aload_n 2, 1) := by decide +kernel
theorem dL_law_1028 : decode cL_law 1028 = .ok (.aload_n 0, 1) := by decide +kernel
theorem dL_law_1029 : decode cL_law 1029 = .ok (.iload 4, 2) := by decide +kernel
theorem dL_law_1031 : decode cL_law 1031 = .ok (.iconst 1, 1) := by decide +kernel
theorem dL_law_1032 : decode cL_law 1032 = .ok (.iadd, 1) := by decide +kernel
theorem dL_law_1033 : decode cL_law 1033 = .ok (.iaload, 1) := by decide +kernel
theorem dL_law_1034 : decode cL_law 1034 = .ok (.invokevirtual 143, 3) := by decide +kernel
theorem dL_law_1037 : decode cL_law 1037 = .ok (.if_icmp .eq 1054, 3) := by decide +kernel
theorem dL_law_1042 : decode cL_law 1042 = .ok (.aload_n 1, 1) := by decide +kernel
theorem dL_law_1043 : decode cL_law 1043 = .ok (.aload_n 0, 1) := by decide +kernel
theorem dL_law_1044 : decode cL_law 1044 = .ok (.iload 4, 2) := by decide +kernel
theorem dL_law_1046 : decode cL_law 1046 = .ok (.iconst 1, 1) := by decide +kernel
theorem dL_law_1047 : decode cL_law 1047 = .ok (.iadd, 1) := by decide +kernel
theorem dL_law_1048 : decode cL_law 1048 = .ok (.iaload, 1) := by decide +kernel
theorem dL_law_1049 : decode cL_law 1049 = .ok (.invokevirtual 144, 3) := by decide +kernel
theorem dL_law_1052 : decode cL_law 1052 = .ok (.aload_n 2, 1) := by decide +kernel
theorem dL_law_1053 : decode cL_law 1053 = .ok (.aload_n 0, 1) := by decide +kernel
theorem dL_law_1054 : decode cL_law 1054 = .ok (.iload 4, 2) := by decide +kernel
theorem dL_law_1056 : decode cL_law 1056 = .ok (.iconst 1, 1) := by decide +kernel
theorem dL_law_1057 : decode cL_law 1057 = .ok (.iadd, 1) := by decide +kernel
theorem dL_law_1058 : decode cL_law 1058 = .ok (.iaload, 1) := by decide +kernel
theorem dL_law_1059 : decode cL_law 1059 = .ok (.invokevirtual 147, 3) := by decide +kernel
theorem dL_law_1062 : decode cL_law 1062 = .ok (.lcmp, 1) := by decide +kernel
theorem dL_law_1063 : decode cL_law 1063 = .ok (.ifCond .eq 1028, 3) := by decide +kernel
theorem dL_law_1068 : decode cL_law 1068 = .ok (.aload_n 1, 1) := by decide +kernel
theorem dL_law_1069 : decode cL_law 1069 = .ok (.aload_n 0, 1) := by decide +kernel
theorem dL_law_1070 : decode cL_law 1070 = .ok (.iload 4, 2) := by decide +kernel
theorem dL_law_1072 : decode cL_law 1072 = .ok (.iconst 1, 1) := by decide +kernel
theorem dL_law_1073 : decode cL_law 1073 = .ok (.iadd, 1) := by decide +kernel
theorem dL_law_1074 : decode cL_law 1074 = .ok (.iaload, 1) := by decide +kernel
theorem dL_law_1075 : decode cL_law 1075 = .ok (.invokevirtual 148, 3) := by decide +kernel
theorem dL_law_1078 : decode cL_law 1078 = .ok (.aload_n 2, 1) := by decide +kernel
theorem dL_law_1079 : decode cL_law 1079 = .ok (.aload_n 0, 1) := by decide +kernel
theorem dL_law_1080 : decode cL_law 1080 = .ok (.iload 4, 2) := by decide +kernel
theorem dL_law_1082 : decode cL_law 1082 = .ok (.iconst 1, 1) := by decide +kernel
theorem dL_law_1083 : decode cL_law 1083 = .ok (.iadd, 1) := by decide +kernel
theorem dL_law_1084 : decode cL_law 1084 = .ok (.iaload, 1) := by decide +kernel
theorem dL_law_1085 : decode cL_law 1085 = .ok (.invokevirtual 151, 3) := by decide +kernel
theorem dL_law_1088 : decode cL_law 1088 = .ok (.if_icmp .eq 1003, 3) := by decide +kernel
theorem dL_law_1093 : decode cL_law 1093 = .ok (.aload_n 1, 1) := by decide +kernel
theorem dL_law_1094 : decode cL_law 1094 = .ok (.aload_n 0, 1) := by decide +kernel
theorem dL_law_1095 : decode cL_law 1095 = .ok (.iload 4, 2) := by decide +kernel
theorem dL_law_1097 : decode cL_law 1097 = .ok (.iconst 1, 1) := by decide +kernel
theorem dL_law_1098 : decode cL_law 1098 = .ok (.iadd, 1) := by decide +kernel
theorem dL_law_1099 : decode cL_law 1099 = .ok (.iaload, 1) := by decide +kernel
theorem dL_law_1100 : decode cL_law 1100 = .ok (.aload_n 0, 1) := by decide +kernel
theorem dL_law_1101 : decode cL_law 1101 = .ok (.iload 4, 2) := by decide +kernel
theorem dL_law_1103 : decode cL_law 1103 = .ok (.iconst 2, 1) := by decide +kernel
theorem dL_law_1104 : decode cL_law 1104 = .ok (.iadd, 1) := by decide +kernel
theorem dL_law_1105 : decode cL_law 1105 = .ok (.iaload, 1) := by decide +kernel
theorem dL_law_1106 : decode cL_law 1106 = .ok (.invokevirtual 152, 3) := by decide +kernel
theorem dL_law_1109 : decode cL_law 1109 = .ok (.aload_n 2, 1) := by decide +kernel
theorem dL_law_1110 : decode cL_law 1110 = .ok (.aload_n 0, 1) := by decide +kernel
theorem dL_law_1111 : decode cL_law 1111 = .ok (.iload 4, 2) := by decide +kernel
theorem dL_law_1113 : decode cL_law 1113 = .ok (.iconst 1, 1) := by decide +kernel
theorem dL_law_1114 : decode cL_law 1114 = .ok (.iadd, 1) := by decide +kernel
theorem dL_law_1115 : decode cL_law 1115 = .ok (.iaload, 1) := by decide +kernel
theorem dL_law_1116 : decode cL_law 1116 = .ok (.aload_n 0, 1) := by decide +kernel
theorem dL_law_1117 : decode cL_law 1117 = .ok (.iload 4, 2) := by decide +kernel
theorem dL_law_1119 : decode cL_law 1119 = .ok (.iconst 2, 1) := by decide +kernel
theorem dL_law_1120 : decode cL_law 1120 = .ok (.iadd, 1) := by decide +kernel
theorem dL_law_1121 : decode cL_law 1121 = .ok (.iaload, 1) := by decide +kernel
theorem dL_law_1122 : decode cL_law 1122 = .ok (.invokevirtual 156, 3) := by decide +kernel
theorem dL_law_1125 : decode cL_law 1125 = .ok (.lcmp, 1) := by decide +kernel
theorem dL_law_1126 : decode cL_law 1126 = .ok (.ifCond .eq 965, 3) := by decide +kernel
theorem dL_law_1131 : decode cL_law 1131 = .ok (.aload_n 1, 1) := by decide +kernel
theorem dL_law_1132 : decode cL_law 1132 = .ok (.aload_n 0, 1) := by decide +kernel
theorem dL_law_1133 : decode cL_law 1133 = .ok (.iload 4, 2) := by decide +kernel
theorem dL_law_1135 : decode cL_law 1135 = .ok (.iconst 1, 1) := by decide +kernel
theorem dL_law_1136 : decode cL_law 1136 = .ok (.iadd, 1) := by decide +kernel
theorem dL_law_1137 : decode cL_law 1137 = .ok (.iaload, 1) := by decide +kernel
theorem dL_law_1138 : decode cL_law 1138 = .ok (.aload_n 0, 1) := by decide +kernel
theorem dL_law_1139 : decode cL_law 1139 = .ok (.iload 4, 2) := by decide +kernel
theorem dL_law_1141 : decode cL_law 1141 = .ok (.iconst 2, 1) := by decide +kernel
theorem dL_law_1142 : decode cL_law 1142 = .ok (.iadd, 1) := by decide +kernel
theorem dL_law_1143 : decode cL_law 1143 = .ok (.iaload, 1) := by decide +kernel
theorem dL_law_1144 : decode cL_law 1144 = .ok (.invokevirtual 157, 3) := by decide +kernel
theorem dL_law_1147 : decode cL_law 1147 = .ok (.aload_n 2, 1) := by decide +kernel
theorem dL_law_1148 : decode cL_law 1148 = .ok (.aload_n 0, 1) := by decide +kernel
theorem dL_law_1149 : decode cL_law 1149 = .ok (.iload 4, 2) := by decide +kernel
theorem dL_law_1151 : decode cL_law 1151 = .ok (.iconst 1, 1) := by decide +kernel
theorem dL_law_1152 : decode cL_law 1152 = .ok (.iadd, 1) := by decide +kernel
theorem dL_law_1153 : decode cL_law 1153 = .ok (.iaload, 1) := by decide +kernel
theorem dL_law_1154 : decode cL_law 1154 = .ok (.aload_n 0, 1) := by decide +kernel
theorem dL_law_1155 : decode cL_law 1155 = .ok (.iload 4, 2) := by decide +kernel
theorem dL_law_1157 : decode cL_law 1157 = .ok (.iconst 2, 1) := by decide +kernel
theorem dL_law_1158 : decode cL_law 1158 = .ok (.iadd, 1) := by decide +kernel
theorem dL_law_1159 : decode cL_law 1159 = .ok (.iaload, 1) := by decide +kernel
theorem dL_law_1160 : decode cL_law 1160 = .ok (.invokevirtual 160, 3) := by decide +kernel
theorem dL_law_1163 : decode cL_law 1163 = .ok (.if_icmp .eq 928, 3) := by decide +kernel
theorem dL_law_1168 : decode cL_law 1168 = .ok (.aload_n 1, 1) := by decide +kernel
theorem dL_law_1169 : decode cL_law 1169 = .ok (.aload_n 0, 1) := by decide +kernel
theorem dL_law_1170 : decode cL_law 1170 = .ok (.iload 4, 2) := by decide +kernel
theorem dL_law_1172 : decode cL_law 1172 = .ok (.iconst 1, 1) := by decide +kernel
theorem dL_law_1173 : decode cL_law 1173 = .ok (.iadd, 1) := by decide +kernel
theorem dL_law_1174 : decode cL_law 1174 = .ok (.iaload, 1) := by decide +kernel
theorem dL_law_1175 : decode cL_law 1175 = .ok (.aload_n 0, 1) := by decide +kernel
theorem dL_law_1176 : decode cL_law 1176 = .ok (.iload 4, 2) := by decide +kernel
theorem dL_law_1178 : decode cL_law 1178 = .ok (.iconst 2, 1) := by decide +kernel
theorem dL_law_1179 : decode cL_law 1179 = .ok (.iadd, 1) := by decide +kernel
theorem dL_law_1180 : decode cL_law 1180 = .ok (.iaload, 1) := by decide +kernel
theorem dL_law_1181 : decode cL_law 1181 = .ok (.i2l, 1) := by decide +kernel
theorem dL_law_1182 : decode cL_law 1182 = .ok (.bipush 32, 2) := by decide +kernel
theorem dL_law_1184 : decode cL_law 1184 = .ok (.lshl, 1) := by decide +kernel
theorem dL_law_1185 : decode cL_law 1185 = .ok (.aload_n 0, 1) := by decide +kernel
theorem dL_law_1186 : decode cL_law 1186 = .ok (.iload 4, 2) := by decide +kernel
theorem dL_law_1188 : decode cL_law 1188 = .ok (.iconst 3, 1) := by decide +kernel
theorem dL_law_1189 : decode cL_law 1189 = .ok (.iadd, 1) := by decide +kernel
theorem dL_law_1190 : decode cL_law 1190 = .ok (.iaload, 1) := by decide +kernel
theorem dL_law_1191 : decode cL_law 1191 = .ok (.i2l, 1) := by decide +kernel
theorem dL_law_1192 : decode cL_law 1192 = .ok (.ldc2_w 105, 3) := by decide +kernel
theorem dL_law_1195 : decode cL_law 1195 = .ok (.land, 1) := by decide +kernel
theorem dL_law_1196 : decode cL_law 1196 = .ok (.lor, 1) := by decide +kernel
theorem dL_law_1197 : decode cL_law 1197 = .ok (.aload_n 3, 1) := by decide +kernel
theorem dL_law_1198 : decode cL_law 1198 = .ok (.invokestatic 161, 3) := by decide +kernel
theorem dL_law_1201 : decode cL_law 1201 = .ok (.istore 5, 2) := by decide +kernel
theorem dL_law_1203 : decode cL_law 1203 = .ok (.aload_n 2, 1) := by decide +kernel
theorem dL_law_1204 : decode cL_law 1204 = .ok (.aload_n 0, 1) := by decide +kernel
theorem dL_law_1205 : decode cL_law 1205 = .ok (.iload 4, 2) := by decide +kernel
theorem dL_law_1207 : decode cL_law 1207 = .ok (.iconst 1, 1) := by decide +kernel
theorem dL_law_1208 : decode cL_law 1208 = .ok (.iadd, 1) := by decide +kernel
theorem dL_law_1209 : decode cL_law 1209 = .ok (.iaload, 1) := by decide +kernel
theorem dL_law_1210 : decode cL_law 1210 = .ok (.aload_n 0, 1) := by decide +kernel
theorem dL_law_1211 : decode cL_law 1211 = .ok (.iload 4, 2) := by decide +kernel
theorem dL_law_1213 : decode cL_law 1213 = .ok (.iconst 2, 1) := by decide +kernel
theorem dL_law_1214 : decode cL_law 1214 = .ok (.iadd, 1) := by decide +kernel
theorem dL_law_1215 : decode cL_law 1215 = .ok (.iaload, 1) := by decide +kernel
theorem dL_law_1216 : decode cL_law 1216 = .ok (.i2l, 1) := by decide +kernel
theorem dL_law_1217 : decode cL_law 1217 = .ok (.bipush 32, 2) := by decide +kernel
theorem dL_law_1219 : decode cL_law 1219 = .ok (.lshl, 1) := by decide +kernel
theorem dL_law_1220 : decode cL_law 1220 = .ok (.aload_n 0, 1) := by decide +kernel
theorem dL_law_1221 : decode cL_law 1221 = .ok (.iload 4, 2) := by decide +kernel
theorem dL_law_1223 : decode cL_law 1223 = .ok (.iconst 3, 1) := by decide +kernel
theorem dL_law_1224 : decode cL_law 1224 = .ok (.iadd, 1) := by decide +kernel
theorem dL_law_1225 : decode cL_law 1225 = .ok (.iaload, 1) := by decide +kernel
theorem dL_law_1226 : decode cL_law 1226 = .ok (.i2l, 1) := by decide +kernel
theorem dL_law_1227 : decode cL_law 1227 = .ok (.ldc2_w 105, 3) := by decide +kernel
theorem dL_law_1230 : decode cL_law 1230 = .ok (.land, 1) := by decide +kernel
theorem dL_law_1231 : decode cL_law 1231 = .ok (.lor, 1) := by decide +kernel
theorem dL_law_1232 : decode cL_law 1232 = .ok (.invokevirtual 163, 3) := by decide +kernel
theorem dL_law_1235 : decode cL_law 1235 = .ok (.lstore 6, 2) := by decide +kernel
theorem dL_law_1237 : decode cL_law 1237 = .ok (.aload_n 2, 1) := by decide +kernel
theorem dL_law_1238 : decode cL_law 1238 = .ok (.invokevirtual 86, 3) := by decide +kernel
theorem dL_law_1241 : decode cL_law 1241 = .ok (.iload 5, 2) := by decide +kernel
theorem dL_law_1243 : decode cL_law 1243 = .ok (.if_icmp .eq 5, 3) := by decide +kernel
theorem dL_law_1248 : decode cL_law 1248 = .ok (.iload 5, 2) := by decide +kernel
theorem dL_law_1250 : decode cL_law 1250 = .ok (.ifCond .ne 14, 3) := by decide +kernel
theorem dL_law_1264 : decode cL_law 1264 = .ok (.goto 827, 3) := by decide +kernel
theorem dL_law_1267 : decode cL_law 1267 = .ok (.aload_n 1, 1) := by decide +kernel
theorem dL_law_1268 : decode cL_law 1268 = .ok (.invokevirtual 164, 3) := by decide +kernel
theorem dL_law_1271 : decode cL_law 1271 = .ok (.aload_n 2, 1) := by decide +kernel
theorem dL_law_1272 : decode cL_law 1272 = .ok (.invokevirtual 167, 3) := by decide +kernel
theorem dL_law_1275 : decode cL_law 1275 = .ok (.if_icmp .eq 816, 3) := by decide +kernel
theorem dL_law_1280 : decode cL_law 1280 = .ok (.aload_n 1, 1) := by decide +kernel
theorem dL_law_1281 : decode cL_law 1281 = .ok (.aload_n 0, 1) := by decide +kernel
theorem dL_law_1282 : decode cL_law 1282 = .ok (.iload 4, 2) := by decide +kernel
theorem dL_law_1284 : decode cL_law 1284 = .ok (.iconst 1, 1) := by decide +kernel
theorem dL_law_1285 : decode cL_law 1285 = .ok (.iadd, 1) := by decide +kernel
theorem dL_law_1286 : decode cL_law 1286 = .ok (.iaload, 1) := by decide +kernel
theorem dL_law_1287 : decode cL_law 1287 = .ok (.aload_n 0, 1) := by decide +kernel
theorem dL_law_1288 : decode cL_law 1288 = .ok (.iload 4, 2) := by decide +kernel
theorem dL_law_1290 : decode cL_law 1290 = .ok (.iconst 2, 1) := by decide +kernel
theorem dL_law_1291 : decode cL_law 1291 = .ok (.iadd, 1) := by decide +kernel
theorem dL_law_1292 : decode cL_law 1292 = .ok (.iaload, 1) := by decide +kernel
theorem dL_law_1293 : decode cL_law 1293 = .ok (.aload_n 3, 1) := by decide +kernel
theorem dL_law_1294 : decode cL_law 1294 = .ok (.invokestatic 168, 3) := by decide +kernel
theorem dL_law_1297 : decode cL_law 1297 = .ok (.istore 5, 2) := by decide +kernel
theorem dL_law_1299 : decode cL_law 1299 = .ok (.aload_n 2, 1) := by decide +kernel
theorem dL_law_1300 : decode cL_law 1300 = .ok (.aload_n 0, 1) := by decide +kernel
theorem dL_law_1301 : decode cL_law 1301 = .ok (.iload 4, 2) := by decide +kernel
theorem dL_law_1303 : decode cL_law 1303 = .ok (.iconst 1, 1) := by decide +kernel
theorem dL_law_1304 : decode cL_law 1304 = .ok (.iadd, 1) := by decide +kernel
theorem dL_law_1305 : decode cL_law 1305 = .ok (.iaload, 1) := by decide +kernel
theorem dL_law_1306 : decode cL_law 1306 = .ok (.aload_n 0, 1) := by decide +kernel
theorem dL_law_1307 : decode cL_law 1307 = .ok (.iload 4, 2) := by decide +kernel
theorem dL_law_1309 : decode cL_law 1309 = .ok (.iconst 2, 1) := by decide +kernel
theorem dL_law_1310 : decode cL_law 1310 = .ok (.iadd, 1) := by decide +kernel
theorem dL_law_1311 : decode cL_law 1311 = .ok (.iaload, 1) := by decide +kernel
theorem dL_law_1312 : decode cL_law 1312 = .ok (.invokevirtual 170, 3) := by decide +kernel
theorem dL_law_1315 : decode cL_law 1315 = .ok (.istore 6, 2) := by decide +kernel
theorem dL_law_1317 : decode cL_law 1317 = .ok (.aload_n 2, 1) := by decide +kernel
theorem dL_law_1318 : decode cL_law 1318 = .ok (.invokevirtual 86, 3) := by decide +kernel
theorem dL_law_1321 : decode cL_law 1321 = .ok (.iload 5, 2) := by decide +kernel
theorem dL_law_1323 : decode cL_law 1323 = .ok (.if_icmp .eq 5, 3) := by decide +kernel
theorem dL_law_1328 : decode cL_law 1328 = .ok (.iload 5, 2) := by decide +kernel
theorem dL_law_1330 : decode cL_law 1330 = .ok (.ifCond .ne 15, 3) := by decide +kernel
theorem dL_law_1345 : decode cL_law 1345 = .ok (.goto 746, 3) := by decide +kernel
theorem dL_law_1348 : decode cL_law 1348 = .ok (.aload_n 1, 1) := by decide +kernel
theorem dL_law_1349 : decode cL_law 1349 = .ok (.aload_n 0, 1) := by decide +kernel
theorem dL_law_1350 : decode cL_law 1350 = .ok (.iload 4, 2) := by decide +kernel
theorem dL_law_1352 : decode cL_law 1352 = .ok (.iconst 1, 1) := by decide +kernel
theorem dL_law_1353 : decode cL_law 1353 = .ok (.iadd, 1) := by decide +kernel
theorem dL_law_1354 : decode cL_law 1354 = .ok (.iaload, 1) := by decide +kernel
theorem dL_law_1355 : decode cL_law 1355 = .ok (.aload_n 3, 1) := by decide +kernel
theorem dL_law_1356 : decode cL_law 1356 = .ok (.invokestatic 171, 3) := by decide +kernel
theorem dL_law_1359 : decode cL_law 1359 = .ok (.istore 5, 2) := by decide +kernel
theorem dL_law_1361 : decode cL_law 1361 = .ok (.aload_n 2, 1) := by decide +kernel
theorem dL_law_1362 : decode cL_law 1362 = .ok (.aload_n 0, 1) := by decide +kernel
theorem dL_law_1363 : decode cL_law 1363 = .ok (.iload 4, 2) := by decide +kernel
theorem dL_law_1365 : decode cL_law 1365 = .ok (.iconst 1, 1) := by decide +kernel
theorem dL_law_1366 : decode cL_law 1366 = .ok (.iadd, 1) := by decide +kernel
theorem dL_law_1367 : decode cL_law 1367 = .ok (.iaload, 1) := by decide +kernel
theorem dL_law_1368 : decode cL_law 1368 = .ok (.invokevirtual 173, 3) := by decide +kernel
theorem dL_law_1371 : decode cL_law 1371 = .ok (.istore 6, 2) := by decide +kernel
theorem dL_law_1373 : decode cL_law 1373 = .ok (.aload_n 2, 1) := by decide +kernel
theorem dL_law_1374 : decode cL_law 1374 = .ok (.invokevirtual 86, 3) := by decide +kernel
theorem dL_law_1377 : decode cL_law 1377 = .ok (.iload 5, 2) := by decide +kernel
theorem dL_law_1379 : decode cL_law 1379 = .ok (.if_icmp .eq 5, 3) := by decide +kernel
theorem dL_law_1384 : decode cL_law 1384 = .ok (.iload 5, 2) := by decide +kernel
theorem dL_law_1386 : decode cL_law 1386 = .ok (.ifCond .ne 15, 3) := by decide +kernel
theorem dL_law_1401 : decode cL_law 1401 = .ok (.goto 690, 3) := by decide +kernel
theorem dL_law_1404 : decode cL_law 1404 = .ok (.aload_n 1, 1) := by decide +kernel
theorem dL_law_1405 : decode cL_law 1405 = .ok (.aload_n 0, 1) := by decide +kernel
theorem dL_law_1406 : decode cL_law 1406 = .ok (.iload 4, 2) := by decide +kernel
theorem dL_law_1408 : decode cL_law 1408 = .ok (.iconst 1, 1) := by decide +kernel
theorem dL_law_1409 : decode cL_law 1409 = .ok (.iadd, 1) := by decide +kernel
theorem dL_law_1410 : decode cL_law 1410 = .ok (.iaload, 1) := by decide +kernel
theorem dL_law_1411 : decode cL_law 1411 = .ok (.aload_n 0, 1) := by decide +kernel
theorem dL_law_1412 : decode cL_law 1412 = .ok (.iload 4, 2) := by decide +kernel
theorem dL_law_1414 : decode cL_law 1414 = .ok (.iconst 2, 1) := by decide +kernel
theorem dL_law_1415 : decode cL_law 1415 = .ok (.iadd, 1) := by decide +kernel
theorem dL_law_1416 : decode cL_law 1416 = .ok (.iaload, 1) := by decide +kernel
theorem dL_law_1417 : decode cL_law 1417 = .ok (.invokevirtual 174, 3) := by decide +kernel
theorem dL_law_1420 : decode cL_law 1420 = .ok (.aload_n 2, 1) := by decide +kernel
theorem dL_law_1421 : decode cL_law 1421 = .ok (.aload_n 0, 1) := by decide +kernel
theorem dL_law_1422 : decode cL_law 1422 = .ok (.iload 4, 2) := by decide +kernel
theorem dL_law_1424 : decode cL_law 1424 = .ok (.iconst 1, 1) := by decide +kernel
theorem dL_law_1425 : decode cL_law 1425 = .ok (.iadd, 1) := by decide +kernel
theorem dL_law_1426 : decode cL_law 1426 = .ok (.iaload, 1) := by decide +kernel
theorem dL_law_1427 : decode cL_law 1427 = .ok (.aload_n 0, 1) := by decide +kernel
theorem dL_law_1428 : decode cL_law 1428 = .ok (.iload 4, 2) := by decide +kernel
theorem dL_law_1430 : decode cL_law 1430 = .ok (.iconst 2, 1) := by decide +kernel
theorem dL_law_1431 : decode cL_law 1431 = .ok (.iadd, 1) := by decide +kernel
theorem dL_law_1432 : decode cL_law 1432 = .ok (.iaload, 1) := by decide +kernel
theorem dL_law_1433 : decode cL_law 1433 = .ok (.invokevirtual 177, 3) := by decide +kernel
theorem dL_law_1436 : decode cL_law 1436 = .ok (.lcmp, 1) := by decide +kernel
theorem dL_law_1437 : decode cL_law 1437 = .ok (.ifCond .eq 654, 3) := by decide +kernel
theorem dL_law_1491 : decode cL_law 1491 = .ok (.aload_n 1, 1) := by decide +kernel
theorem dL_law_1492 : decode cL_law 1492 = .ok (.aload_n 3, 1) := by decide +kernel
theorem dL_law_1493 : decode cL_law 1493 = .ok (.invokestatic 183, 3) := by decide +kernel
theorem dL_law_1496 : decode cL_law 1496 = .ok (.istore 5, 2) := by decide +kernel
theorem dL_law_1498 : decode cL_law 1498 = .ok (.aload_n 2, 1) := by decide +kernel
theorem dL_law_1499 : decode cL_law 1499 = .ok (.invokevirtual 186, 3) := by decide +kernel
theorem dL_law_1502 : decode cL_law 1502 = .ok (.istore 6, 2) := by decide +kernel
theorem dL_law_1504 : decode cL_law 1504 = .ok (.aload_n 2, 1) := by decide +kernel
theorem dL_law_1505 : decode cL_law 1505 = .ok (.invokevirtual 86, 3) := by decide +kernel
theorem dL_law_1508 : decode cL_law 1508 = .ok (.iload 5, 2) := by decide +kernel
theorem dL_law_1510 : decode cL_law 1510 = .ok (.if_icmp .eq 5, 3) := by decide +kernel
theorem dL_law_1515 : decode cL_law 1515 = .ok (.iload 5, 2) := by decide +kernel
theorem dL_law_1517 : decode cL_law 1517 = .ok (.ifCond .ne 15, 3) := by decide +kernel
theorem dL_law_1520 : decode cL_law 1520 = .ok (.aload_n 3, 1) := by decide +kernel
theorem dL_law_1521 : decode cL_law 1521 = .ok (.iconst 0, 1) := by decide +kernel
theorem dL_law_1522 : decode cL_law 1522 = .ok (.laload, 1) := by decide +kernel
theorem dL_law_1523 : decode cL_law 1523 = .ok (.iload 6, 2) := by decide +kernel
theorem dL_law_1525 : decode cL_law 1525 = .ok (.i2l, 1) := by decide +kernel
theorem dL_law_1526 : decode cL_law 1526 = .ok (.lcmp, 1) := by decide +kernel
theorem dL_law_1527 : decode cL_law 1527 = .ok (.ifCond .eq 5, 3) := by decide +kernel
theorem dL_law_1532 : decode cL_law 1532 = .ok (.goto 559, 3) := by decide +kernel
theorem dL_law_1535 : decode cL_law 1535 = .ok (.aload_n 1, 1) := by decide +kernel
theorem dL_law_1536 : decode cL_law 1536 = .ok (.aload_n 0, 1) := by decide +kernel
theorem dL_law_1537 : decode cL_law 1537 = .ok (.iload 4, 2) := by decide +kernel
theorem dL_law_1539 : decode cL_law 1539 = .ok (.iconst 1, 1) := by decide +kernel
theorem dL_law_1540 : decode cL_law 1540 = .ok (.iadd, 1) := by decide +kernel
theorem dL_law_1541 : decode cL_law 1541 = .ok (.iaload, 1) := by decide +kernel
theorem dL_law_1542 : decode cL_law 1542 = .ok (.aload_n 3, 1) := by decide +kernel
theorem dL_law_1543 : decode cL_law 1543 = .ok (.invokestatic 187, 3) := by decide +kernel
theorem dL_law_1546 : decode cL_law 1546 = .ok (.istore 5, 2) := by decide +kernel
theorem dL_law_1548 : decode cL_law 1548 = .ok (.aload_n 2, 1) := by decide +kernel
theorem dL_law_1549 : decode cL_law 1549 = .ok (.aload_n 0, 1) := by decide +kernel
theorem dL_law_1550 : decode cL_law 1550 = .ok (.iload 4, 2) := by decide +kernel
theorem dL_law_1552 : decode cL_law 1552 = .ok (.iconst 1, 1) := by decide +kernel
theorem dL_law_1553 : decode cL_law 1553 = .ok (.iadd, 1) := by decide +kernel
theorem dL_law_1554 : decode cL_law 1554 = .ok (.iaload, 1) := by decide +kernel
theorem dL_law_1555 : decode cL_law 1555 = .ok (.invokevirtual 189, 3) := by decide +kernel
theorem dL_law_1558 : decode cL_law 1558 = .ok (.istore 6, 2) := by decide +kernel
theorem dL_law_1560 : decode cL_law 1560 = .ok (.aload_n 2, 1) := by decide +kernel
theorem dL_law_1561 : decode cL_law 1561 = .ok (.invokevirtual 86, 3) := by decide +kernel
theorem dL_law_1564 : decode cL_law 1564 = .ok (.iload 5, 2) := by decide +kernel
theorem dL_law_1566 : decode cL_law 1566 = .ok (.if_icmp .eq 5, 3) := by decide +kernel
theorem dL_law_1571 : decode cL_law 1571 = .ok (.iload 5, 2) := by decide +kernel
theorem dL_law_1573 : decode cL_law 1573 = .ok (.ifCond .ne 15, 3) := by decide +kernel
theorem dL_law_1588 : decode cL_law 1588 = .ok (.goto 503, 3) := by decide +kernel
theorem dL_law_1591 : decode cL_law 1591 = .ok (.aload_n 1, 1) := by decide +kernel
theorem dL_law_1592 : decode cL_law 1592 = .ok (.aload_n 3, 1) := by decide +kernel
theorem dL_law_1593 : decode cL_law 1593 = .ok (.invokestatic 190, 3) := by decide +kernel
theorem dL_law_1596 : decode cL_law 1596 = .ok (.istore 5, 2) := by decide +kernel
theorem dL_law_1598 : decode cL_law 1598 = .ok (.aload_n 2, 1) := by decide +kernel
theorem dL_law_1599 : decode cL_law 1599 = .ok (.invokevirtual 192, 3) := by decide +kernel
theorem dL_law_1602 : decode cL_law 1602 = .ok (.istore 6, 2) := by decide +kernel
theorem dL_law_1604 : decode cL_law 1604 = .ok (.aload_n 2, 1) := by decide +kernel
theorem dL_law_1605 : decode cL_law 1605 = .ok (.invokevirtual 86, 3) := by decide +kernel
theorem dL_law_1608 : decode cL_law 1608 = .ok (.iload 5, 2) := by decide +kernel
theorem dL_law_1610 : decode cL_law 1610 = .ok (.if_icmp .eq 5, 3) := by decide +kernel
theorem dL_law_1615 : decode cL_law 1615 = .ok (.iload 5, 2) := by decide +kernel
theorem dL_law_1617 : decode cL_law 1617 = .ok (.ifCond .ne 15, 3) := by decide +kernel
theorem dL_law_1620 : decode cL_law 1620 = .ok (.aload_n 3, 1) := by decide +kernel
theorem dL_law_1621 : decode cL_law 1621 = .ok (.iconst 0, 1) := by decide +kernel
theorem dL_law_1622 : decode cL_law 1622 = .ok (.laload, 1) := by decide +kernel
theorem dL_law_1623 : decode cL_law 1623 = .ok (.iload 6, 2) := by decide +kernel
theorem dL_law_1625 : decode cL_law 1625 = .ok (.i2l, 1) := by decide +kernel
theorem dL_law_1626 : decode cL_law 1626 = .ok (.lcmp, 1) := by decide +kernel
theorem dL_law_1627 : decode cL_law 1627 = .ok (.ifCond .eq 5, 3) := by decide +kernel
theorem dL_law_1632 : decode cL_law 1632 = .ok (.goto 459, 3) := by decide +kernel
theorem dL_law_1635 : decode cL_law 1635 = .ok (.aload_n 1, 1) := by decide +kernel
theorem dL_law_1636 : decode cL_law 1636 = .ok (.aload_n 3, 1) := by decide +kernel
theorem dL_law_1637 : decode cL_law 1637 = .ok (.invokestatic 193, 3) := by decide +kernel
theorem dL_law_1640 : decode cL_law 1640 = .ok (.istore 5, 2) := by decide +kernel
theorem dL_law_1642 : decode cL_law 1642 = .ok (.aload_n 2, 1) := by decide +kernel
theorem dL_law_1643 : decode cL_law 1643 = .ok (.invokevirtual 195, 3) := by decide +kernel
theorem dL_law_1646 : decode cL_law 1646 = .ok (.istore 6, 2) := by decide +kernel
theorem dL_law_1648 : decode cL_law 1648 = .ok (.aload_n 2, 1) := by decide +kernel
theorem dL_law_1649 : decode cL_law 1649 = .ok (.invokevirtual 86, 3) := by decide +kernel
theorem dL_law_1652 : decode cL_law 1652 = .ok (.iload 5, 2) := by decide +kernel
theorem dL_law_1654 : decode cL_law 1654 = .ok (.if_icmp .eq 5, 3) := by decide +kernel
theorem dL_law_1659 : decode cL_law 1659 = .ok (.iload 5, 2) := by decide +kernel
theorem dL_law_1661 : decode cL_law 1661 = .ok (.ifCond .ne 15, 3) := by decide +kernel
theorem dL_law_1664 : decode cL_law 1664 = .ok (.aload_n 3, 1) := by decide +kernel
theorem dL_law_1665 : decode cL_law 1665 = .ok (.iconst 0, 1) := by decide +kernel
theorem dL_law_1666 : decode cL_law 1666 = .ok (.laload, 1) := by decide +kernel
theorem dL_law_1667 : decode cL_law 1667 = .ok (.iload 6, 2) := by decide +kernel
theorem dL_law_1669 : decode cL_law 1669 = .ok (.i2l, 1) := by decide +kernel
theorem dL_law_1670 : decode cL_law 1670 = .ok (.lcmp, 1) := by decide +kernel
theorem dL_law_1671 : decode cL_law 1671 = .ok (.ifCond .eq 5, 3) := by decide +kernel
theorem dL_law_1676 : decode cL_law 1676 = .ok (.goto 415, 3) := by decide +kernel
theorem dL_law_1679 : decode cL_law 1679 = .ok (.aload_n 1, 1) := by decide +kernel
theorem dL_law_1680 : decode cL_law 1680 = .ok (.invokevirtual 196, 3) := by decide +kernel
theorem dL_law_1683 : decode cL_law 1683 = .ok (.aload_n 2, 1) := by decide +kernel
theorem dL_law_1684 : decode cL_law 1684 = .ok (.invokevirtual 199, 3) := by decide +kernel
theorem dL_law_1687 : decode cL_law 1687 = .ok (.if_icmp .eq 404, 3) := by decide +kernel
theorem dL_law_1692 : decode cL_law 1692 = .ok (.aload_n 1, 1) := by decide +kernel
theorem dL_law_1693 : decode cL_law 1693 = .ok (.aload_n 0, 1) := by decide +kernel
theorem dL_law_1694 : decode cL_law 1694 = .ok (.iload 4, 2) := by decide +kernel
theorem dL_law_1696 : decode cL_law 1696 = .ok (.iconst 1, 1) := by decide +kernel
theorem dL_law_1697 : decode cL_law 1697 = .ok (.iadd, 1) := by decide +kernel
theorem dL_law_1698 : decode cL_law 1698 = .ok (.iaload, 1) := by decide +kernel
theorem dL_law_1699 : decode cL_law 1699 = .ok (.invokevirtual 200, 3) := by decide +kernel
theorem dL_law_1702 : decode cL_law 1702 = .ok (.aload_n 2, 1) := by decide +kernel
theorem dL_law_1703 : decode cL_law 1703 = .ok (.aload_n 0, 1) := by decide +kernel
theorem dL_law_1704 : decode cL_law 1704 = .ok (.iload 4, 2) := by decide +kernel
theorem dL_law_1706 : decode cL_law 1706 = .ok (.iconst 1, 1) := by decide +kernel
theorem dL_law_1707 : decode cL_law 1707 = .ok (.iadd, 1) := by decide +kernel
theorem dL_law_1708 : decode cL_law 1708 = .ok (.iaload, 1) := by decide +kernel
theorem dL_law_1709 : decode cL_law 1709 = .ok (.invokevirtual 203, 3) := by decide +kernel
theorem dL_law_1712 : decode cL_law 1712 = .ok (.if_icmp .eq 379, 3) := by decide +kernel
theorem dL_law_1860 : decode cL_law 1860 = .ok (.aload_n 1, 1) := by decide +kernel
theorem dL_law_1861 : decode cL_law 1861 = .ok (.aload_n 0, 1) := by decide +kernel
theorem dL_law_1862 : decode cL_law 1862 = .ok (.iload 4, 2) := by decide +kernel
theorem dL_law_1864 : decode cL_law 1864 = .ok (.iconst 1, 1) := by decide +kernel
theorem dL_law_1865 : decode cL_law 1865 = .ok (.iadd, 1) := by decide +kernel
theorem dL_law_1866 : decode cL_law 1866 = .ok (.iaload, 1) := by decide +kernel
theorem dL_law_1867 : decode cL_law 1867 = .ok (.aload_n 0, 1) := by decide +kernel
theorem dL_law_1868 : decode cL_law 1868 = .ok (.iload 4, 2) := by decide +kernel
theorem dL_law_1870 : decode cL_law 1870 = .ok (.iconst 2, 1) := by decide +kernel
theorem dL_law_1871 : decode cL_law 1871 = .ok (.iadd, 1) := by decide +kernel
theorem dL_law_1872 : decode cL_law 1872 = .ok (.iaload, 1) := by decide +kernel
theorem dL_law_1873 : decode cL_law 1873 = .ok (.aload_n 3, 1) := by decide +kernel
theorem dL_law_1874 : decode cL_law 1874 = .ok (.invokestatic 214, 3) := by decide +kernel
theorem dL_law_1877 : decode cL_law 1877 = .ok (.istore 5, 2) := by decide +kernel
theorem dL_law_1879 : decode cL_law 1879 = .ok (.aload_n 2, 1) := by decide +kernel
theorem dL_law_1880 : decode cL_law 1880 = .ok (.aload_n 0, 1) := by decide +kernel
theorem dL_law_1881 : decode cL_law 1881 = .ok (.iload 4, 2) := by decide +kernel
theorem dL_law_1883 : decode cL_law 1883 = .ok (.iconst 1, 1) := by decide +kernel
theorem dL_law_1884 : decode cL_law 1884 = .ok (.iadd, 1) := by decide +kernel
theorem dL_law_1885 : decode cL_law 1885 = .ok (.iaload, 1) := by decide +kernel
theorem dL_law_1886 : decode cL_law 1886 = .ok (.aload_n 0, 1) := by decide +kernel
theorem dL_law_1887 : decode cL_law 1887 = .ok (.iload 4, 2) := by decide +kernel
theorem dL_law_1889 : decode cL_law 1889 = .ok (.iconst 2, 1) := by decide +kernel
theorem dL_law_1890 : decode cL_law 1890 = .ok (.iadd, 1) := by decide +kernel
theorem dL_law_1891 : decode cL_law 1891 = .ok (.iaload, 1) := by decide +kernel
theorem dL_law_1892 : decode cL_law 1892 = .ok (.invokevirtual 216, 3) := by decide +kernel
theorem dL_law_1895 : decode cL_law 1895 = .ok (.istore 6, 2) := by decide +kernel
theorem dL_law_1897 : decode cL_law 1897 = .ok (.aload_n 2, 1) := by decide +kernel
theorem dL_law_1898 : decode cL_law 1898 = .ok (.invokevirtual 86, 3) := by decide +kernel
theorem dL_law_1901 : decode cL_law 1901 = .ok (.iload 5, 2) := by decide +kernel
theorem dL_law_1903 : decode cL_law 1903 = .ok (.if_icmp .eq 5, 3) := by decide +kernel
theorem dL_law_1908 : decode cL_law 1908 = .ok (.iload 5, 2) := by decide +kernel
theorem dL_law_1910 : decode cL_law 1910 = .ok (.ifCond .ne 15, 3) := by decide +kernel
theorem dL_law_1925 : decode cL_law 1925 = .ok (.goto 166, 3) := by decide +kernel
theorem dL_law_1928 : decode cL_law 1928 = .ok (.aload_n 1, 1) := by decide +kernel
theorem dL_law_1929 : decode cL_law 1929 = .ok (.aload_n 0, 1) := by decide +kernel
theorem dL_law_1930 : decode cL_law 1930 = .ok (.iload 4, 2) := by decide +kernel
theorem dL_law_1932 : decode cL_law 1932 = .ok (.iconst 1, 1) := by decide +kernel
theorem dL_law_1933 : decode cL_law 1933 = .ok (.iadd, 1) := by decide +kernel
theorem dL_law_1934 : decode cL_law 1934 = .ok (.iaload, 1) := by decide +kernel
theorem dL_law_1935 : decode cL_law 1935 = .ok (.invokevirtual 217, 3) := by decide +kernel
theorem dL_law_1938 : decode cL_law 1938 = .ok (.aload_n 2, 1) := by decide +kernel
theorem dL_law_1939 : decode cL_law 1939 = .ok (.aload_n 0, 1) := by decide +kernel
theorem dL_law_1940 : decode cL_law 1940 = .ok (.iload 4, 2) := by decide +kernel
theorem dL_law_1942 : decode cL_law 1942 = .ok (.iconst 1, 1) := by decide +kernel
theorem dL_law_1943 : decode cL_law 1943 = .ok (.iadd, 1) := by decide +kernel
theorem dL_law_1944 : decode cL_law 1944 = .ok (.iaload, 1) := by decide +kernel
theorem dL_law_1945 : decode cL_law 1945 = .ok (.invokevirtual 220, 3) := by decide +kernel
theorem dL_law_1948 : decode cL_law 1948 = .ok (.if_icmp .eq 143, 3) := by decide +kernel
theorem dL_law_1953 : decode cL_law 1953 = .ok (.aload_n 1, 1) := by decide +kernel
theorem dL_law_1954 : decode cL_law 1954 = .ok (.invokevirtual 221, 3) := by decide +kernel
theorem dL_law_1957 : decode cL_law 1957 = .ok (.aload_n 2, 1) := by decide +kernel
theorem dL_law_1958 : decode cL_law 1958 = .ok (.invokevirtual 225, 3) := by decide +kernel
theorem dL_law_1961 : decode cL_law 1961 = .ok (.lcmp, 1) := by decide +kernel
theorem dL_law_1962 : decode cL_law 1962 = .ok (.ifCond .eq 129, 3) := by decide +kernel
theorem dL_law_1967 : decode cL_law 1967 = .ok (.aload_n 1, 1) := by decide +kernel
theorem dL_law_1968 : decode cL_law 1968 = .ok (.aload_n 0, 1) := by decide +kernel
theorem dL_law_1969 : decode cL_law 1969 = .ok (.iload 4, 2) := by decide +kernel
theorem dL_law_1971 : decode cL_law 1971 = .ok (.iconst 1, 1) := by decide +kernel
theorem dL_law_1972 : decode cL_law 1972 = .ok (.iadd, 1) := by decide +kernel
theorem dL_law_1973 : decode cL_law 1973 = .ok (.iaload, 1) := by decide +kernel
theorem dL_law_1974 : decode cL_law 1974 = .ok (.invokevirtual 226, 3) := by decide +kernel
theorem dL_law_1977 : decode cL_law 1977 = .ok (.aload_n 2, 1) := by decide +kernel
theorem dL_law_1978 : decode cL_law 1978 = .ok (.aload_n 0, 1) := by decide +kernel
theorem dL_law_1979 : decode cL_law 1979 = .ok (.iload 4, 2) := by decide +kernel
theorem dL_law_1981 : decode cL_law 1981 = .ok (.iconst 1, 1) := by decide +kernel
theorem dL_law_1982 : decode cL_law 1982 = .ok (.iadd, 1) := by decide +kernel
theorem dL_law_1983 : decode cL_law 1983 = .ok (.iaload, 1) := by decide +kernel
theorem dL_law_1984 : decode cL_law 1984 = .ok (.invokevirtual 229, 3) := by decide +kernel
theorem dL_law_1987 : decode cL_law 1987 = .ok (.if_icmp .eq 104, 3) := by decide +kernel
theorem dL_law_1992 : decode cL_law 1992 = .ok (.aload_n 1, 1) := by decide +kernel
theorem dL_law_1993 : decode cL_law 1993 = .ok (.aload_n 0, 1) := by decide +kernel
theorem dL_law_1994 : decode cL_law 1994 = .ok (.iload 4, 2) := by decide +kernel
theorem dL_law_1996 : decode cL_law 1996 = .ok (.iconst 1, 1) := by decide +kernel
theorem dL_law_1997 : decode cL_law 1997 = .ok (.iadd, 1) := by decide +kernel
theorem dL_law_1998 : decode cL_law 1998 = .ok (.iaload, 1) := by decide +kernel
theorem dL_law_1999 : decode cL_law 1999 = .ok (.aload_n 0, 1) := by decide +kernel
theorem dL_law_2000 : decode cL_law 2000 = .ok (.iload 4, 2) := by decide +kernel
theorem dL_law_2002 : decode cL_law 2002 = .ok (.iconst 2, 1) := by decide +kernel
theorem dL_law_2003 : decode cL_law 2003 = .ok (.iadd, 1) := by decide +kernel
theorem dL_law_2004 : decode cL_law 2004 = .ok (.iaload, 1) := by decide +kernel
theorem dL_law_2005 : decode cL_law 2005 = .ok (.invokevirtual 230, 3) := by decide +kernel
theorem dL_law_2008 : decode cL_law 2008 = .ok (.aload_n 2, 1) := by decide +kernel
theorem dL_law_2009 : decode cL_law 2009 = .ok (.aload_n 0, 1) := by decide +kernel
theorem dL_law_2010 : decode cL_law 2010 = .ok (.iload 4, 2) := by decide +kernel
theorem dL_law_2012 : decode cL_law 2012 = .ok (.iconst 1, 1) := by decide +kernel
theorem dL_law_2013 : decode cL_law 2013 = .ok (.iadd, 1) := by decide +kernel
theorem dL_law_2014 : decode cL_law 2014 = .ok (.iaload, 1) := by decide +kernel
theorem dL_law_2015 : decode cL_law 2015 = .ok (.aload_n 0, 1) := by decide +kernel
theorem dL_law_2016 : decode cL_law 2016 = .ok (.iload 4, 2) := by decide +kernel
theorem dL_law_2018 : decode cL_law 2018 = .ok (.iconst 2, 1) := by decide +kernel
theorem dL_law_2019 : decode cL_law 2019 = .ok (.iadd, 1) := by decide +kernel
theorem dL_law_2020 : decode cL_law 2020 = .ok (.iaload, 1) := by decide +kernel
theorem dL_law_2021 : decode cL_law 2021 = .ok (.invokevirtual 233, 3) := by decide +kernel
theorem dL_law_2024 : decode cL_law 2024 = .ok (.if_icmp .eq 67, 3) := by decide +kernel
theorem dL_law_2029 : decode cL_law 2029 = .ok (.aload_n 1, 1) := by decide +kernel
theorem dL_law_2030 : decode cL_law 2030 = .ok (.aload_n 0, 1) := by decide +kernel
theorem dL_law_2031 : decode cL_law 2031 = .ok (.iload 4, 2) := by decide +kernel
theorem dL_law_2033 : decode cL_law 2033 = .ok (.iconst 1, 1) := by decide +kernel
theorem dL_law_2034 : decode cL_law 2034 = .ok (.iadd, 1) := by decide +kernel
theorem dL_law_2035 : decode cL_law 2035 = .ok (.iaload, 1) := by decide +kernel
theorem dL_law_2036 : decode cL_law 2036 = .ok (.aload_n 0, 1) := by decide +kernel
theorem dL_law_2037 : decode cL_law 2037 = .ok (.iload 4, 2) := by decide +kernel
theorem dL_law_2039 : decode cL_law 2039 = .ok (.iconst 2, 1) := by decide +kernel
theorem dL_law_2040 : decode cL_law 2040 = .ok (.iadd, 1) := by decide +kernel
theorem dL_law_2041 : decode cL_law 2041 = .ok (.iaload, 1) := by decide +kernel
theorem dL_law_2042 : decode cL_law 2042 = .ok (.invokevirtual 234, 3) := by decide +kernel
theorem dL_law_2045 : decode cL_law 2045 = .ok (.aload_n 2, 1) := by decide +kernel
theorem dL_law_2046 : decode cL_law 2046 = .ok (.aload_n 0, 1) := by decide +kernel
theorem dL_law_2047 : decode cL_law 2047 = .ok (.iload 4, 2) := by decide +kernel
theorem dL_law_2049 : decode cL_law 2049 = .ok (.iconst 1, 1) := by decide +kernel
theorem dL_law_2050 : decode cL_law 2050 = .ok (.iadd, 1) := by decide +kernel
theorem dL_law_2051 : decode cL_law 2051 = .ok (.iaload, 1) := by decide +kernel
theorem dL_law_2052 : decode cL_law 2052 = .ok (.aload_n 0, 1) := by decide +kernel
theorem dL_law_2053 : decode cL_law 2053 = .ok (.iload 4, 2) := by decide +kernel
theorem dL_law_2055 : decode cL_law 2055 = .ok (.iconst 2, 1) := by decide +kernel
theorem dL_law_2056 : decode cL_law 2056 = .ok (.iadd, 1) := by decide +kernel
theorem dL_law_2057 : decode cL_law 2057 = .ok (.iaload, 1) := by decide +kernel
theorem dL_law_2058 : decode cL_law 2058 = .ok (.invokevirtual 237, 3) := by decide +kernel
theorem dL_law_2061 : decode cL_law 2061 = .ok (.if_icmp .eq 30, 3) := by decide +kernel
