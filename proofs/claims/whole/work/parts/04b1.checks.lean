set_option maxRecDepth 100000 in
theorem am_ok120 : am_chM 120 150 = true := by decide +kernel
set_option maxRecDepth 100000 in
theorem am_ok150 : am_chM 150 180 = true := by decide +kernel
