set_option maxRecDepth 100000 in
theorem am_oy221 : am_chYs 221 230 = true := by decide +kernel
set_option maxRecDepth 100000 in
theorem am_oy230 : am_chYs 230 239 = true := by decide +kernel
