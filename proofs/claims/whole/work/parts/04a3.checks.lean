set_option maxRecDepth 100000 in
theorem am_oy0 : am_chYs 0 34 = true := by decide +kernel
set_option maxRecDepth 100000 in
theorem am_oy34 : am_chYs 34 68 = true := by decide +kernel
set_option maxRecDepth 100000 in
theorem am_oy68 : am_chYs 68 102 = true := by decide +kernel
set_option maxRecDepth 100000 in
theorem am_oy102 : am_chYs 102 136 = true := by decide +kernel
