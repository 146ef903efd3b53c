set_option maxRecDepth 100000 in
theorem am_ok180 : am_chM 180 210 = true := by decide +kernel
set_option maxRecDepth 100000 in
theorem am_ok210 : am_chM 210 239 = true := by decide +kernel
