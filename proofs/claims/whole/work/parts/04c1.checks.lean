set_option maxRecDepth 100000 in
theorem am_okL0 : am_chS 238 0 4 = true := by decide +kernel
set_option maxRecDepth 100000 in
theorem am_okL4 : am_chS 238 4 4 = true := by decide +kernel
set_option maxRecDepth 100000 in
theorem am_okL8 : am_chS 238 8 4 = true := by decide +kernel
set_option maxRecDepth 100000 in
theorem am_okL12 : am_chS 238 12 4 = true := by decide +kernel
set_option maxRecDepth 100000 in
theorem am_okL16 : am_chS 238 16 4 = true := by decide +kernel
