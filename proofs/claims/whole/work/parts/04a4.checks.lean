set_option maxRecDepth 100000 in
theorem am_oy136 : am_chYs 136 153 = true := by decide +kernel
set_option maxRecDepth 100000 in
theorem am_oy153 : am_chYs 153 170 = true := by decide +kernel
