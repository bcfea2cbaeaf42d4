/-! the words and decode rows that the rows of the next part take -/
theorem dL_law_23 : decode cL_law 23 = .ok (.iload 4, 2) := by decide +kernel
theorem dL_law_25 : decode cL_law 25 = .ok (.aload_n 0, 1) := by decide +kernel
theorem dL_law_26 : decode cL_law 26 = .ok (.arraylength, 1) := by decide +kernel
theorem dL_law_27 : decode cL_law 27 = .ok (.bipush 6, 2) := by decide +kernel
theorem dL_law_29 : decode cL_law 29 = .ok (.isub, 1) := by decide +kernel
theorem dL_law_30 : decode cL_law 30 = .ok (.if_icmp .gt 2067, 3) := by decide +kernel
theorem dL_law_2091 : decode cL_law 2091 = .ok (.iinc 4 6, 3) := by decide +kernel
theorem dL_law_2094 : decode cL_law 2094 = .ok (.goto (-2071), 3) := by decide +kernel
theorem dL_law_2097 : decode cL_law 2097 = .ok (.iconst 1, 1) := by decide +kernel
theorem dL_law_2098 : decode cL_law 2098 = .ok (.ireturn, 1) := by decide +kernel
