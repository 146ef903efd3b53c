set_option maxRecDepth 1000000 in
theorem am_fl : am_tb.flatten = lw_tbl := by rfl
