set_option maxRecDepth 100000 in
theorem am_oy170 : am_chYs 170 187 = true := by decide +kernel
set_option maxRecDepth 100000 in
theorem am_oy187 : am_chYs 187 204 = true := by decide +kernel
