set_option maxRecDepth 100000 in
theorem am_oy204 : am_chYs 204 213 = true := by decide +kernel
set_option maxRecDepth 100000 in
theorem am_oy213 : am_chYs 213 221 = true := by decide +kernel
