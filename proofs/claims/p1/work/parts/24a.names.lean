/-! the words and decode rows that the rows of the next part take -/
theorem b_104 : Cond.classLink RL 8 RX9 ∈ TB := tb_of 104 (by decide +kernel)
theorem b_106 : Cond.methodLink RL 76 yX9_init ∈ TB := tb_of 106 (by decide +kernel)
theorem b_107 : Cond.instanceMethod yX9_init ∈ TB := tb_of 107 (by decide +kernel)
theorem b_108 : Cond.code yX9_init cX9_init 1 none ∈ TB := tb_of 108 (by decide +kernel)
theorem b_1308 : Cond.classLink RL 77 RX10 ∈ TB := tb_of 1308 (by decide +kernel)
theorem b_1310 : Cond.methodLink RL 79 yX10_init ∈ TB := tb_of 1310 (by decide +kernel)
theorem b_1311 : Cond.instanceMethod yX10_init ∈ TB := tb_of 1311 (by decide +kernel)
theorem b_1312 : Cond.code yX10_init cX10_init 1 none ∈ TB := tb_of 1312 (by decide +kernel)
theorem hd_X9_init : k_hd yX9_init 0 := by decide +kernel
theorem hd_X10_init : k_hd yX10_init 0 := by decide +kernel
theorem dL_law_0 : decode cL_law 0 = .ok (.new 8, 3) := by decide +kernel
theorem dL_law_3 : decode cL_law 3 = .ok (.dup, 1) := by decide +kernel
theorem dL_law_4 : decode cL_law 4 = .ok (.invokespecial 76, 3) := by decide +kernel
theorem dL_law_7 : decode cL_law 7 = .ok (.astore_n 1, 1) := by decide +kernel
theorem dL_law_8 : decode cL_law 8 = .ok (.new 77, 3) := by decide +kernel
theorem dL_law_11 : decode cL_law 11 = .ok (.dup, 1) := by decide +kernel
theorem dL_law_12 : decode cL_law 12 = .ok (.invokespecial 79, 3) := by decide +kernel
theorem dL_law_15 : decode cL_law 15 = .ok (.astore_n 2, 1) := by decide +kernel
theorem dL_law_16 : decode cL_law 16 = .ok (.iconst 1, 1) := by decide +kernel
theorem dL_law_17 : decode cL_law 17 = .ok (.newarray .long, 2) := by decide +kernel
theorem dL_law_19 : decode cL_law 19 = .ok (.astore_n 3, 1) := by decide +kernel
theorem dL_law_20 : decode cL_law 20 = .ok (.iconst 0, 1) := by decide +kernel
theorem dL_law_21 : decode cL_law 21 = .ok (.istore 4, 2) := by decide +kernel
theorem dL_law_33 : decode cL_law 33 = .ok (.aload_n 0, 1) := by decide +kernel
theorem dL_law_34 : decode cL_law 34 = .ok (.iload 4, 2) := by decide +kernel
theorem dL_law_36 : decode cL_law 36 = .ok (.iaload, 1) := by decide +kernel
theorem dL_law_37 : decode cL_law 37 = .ok (.bipush 63, 2) := by decide +kernel
theorem dL_law_39 : decode cL_law 39 = .ok (.iand, 1) := by decide +kernel
theorem dL_law_40 : decode cL_law 40 = .ok (.tableswitch 2051 0 39 #[176, 280, 336, 349, 362, 430, 542, 641, 678, 704, 717, 773, 841, 909, 977, 1002, 1028, 1053, 1091, 1128, 1227, 1240, 1308, 1364, 1402, 1451, 1495, 1551, 1595, 1639, 1652, 1677, 1754, 1820, 1888, 1913, 1927, 1952, 1989, 2026], 176) := by decide +kernel
