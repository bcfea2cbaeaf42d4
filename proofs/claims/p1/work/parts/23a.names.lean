/-! the words and decode rows that the rows of the next part take -/
theorem b_105 : Cond.instantiable RX9 13 ∈ TB := tb_of 105 (by decide +kernel)
theorem b_1309 : Cond.instantiable RX10 81 ∈ TB := tb_of 1309 (by decide +kernel)
