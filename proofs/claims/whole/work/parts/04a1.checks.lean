set_option maxRecDepth 100000 in
theorem am_ok0 : am_chM 0 30 = true := by decide +kernel
set_option maxRecDepth 100000 in
theorem am_ok30 : am_chM 30 60 = true := by decide +kernel
