theorem t_X10_95_99 : sTN RX10 95 99 := ⟨c_X10_95, lw_in 52 (by decide +kernel) (by decide +kernel), by decide +kernel, by decide +kernel⟩
theorem t_X10_276_280 : sT RX10 276 280 "java/lang/IllegalStateException" := ⟨by decide +kernel, c_X10_276, lw_in 51 (by decide +kernel) (by decide +kernel), by decide +kernel, by decide +kernel⟩
theorem t_X10_294_298 : sT RX10 294 298 "java/lang/IllegalArgumentException" := ⟨by decide +kernel, c_X10_294, lw_in 50 (by decide +kernel) (by decide +kernel), by decide +kernel, by decide +kernel⟩
theorem t_X10_306_310 : sT RX10 306 310 "java/lang/UnsupportedOperationException" := ⟨by decide +kernel, c_X10_306, lw_in 53 (by decide +kernel) (by decide +kernel), by decide +kernel, by decide +kernel⟩
theorem t_X10_265_269 : sT RX10 265 269 "java/lang/IndexOutOfBoundsException" := ⟨by decide +kernel, c_X10_265, lw_in 49 (by decide +kernel) (by decide +kernel), by decide +kernel, by decide +kernel⟩
