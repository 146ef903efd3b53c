set_option maxRecDepth 100000 in
theorem am_ok60 : am_chM 60 90 = true := by decide +kernel
set_option maxRecDepth 100000 in
theorem am_ok90 : am_chM 90 120 = true := by decide +kernel
