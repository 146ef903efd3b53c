set_option maxRecDepth 100000 in
theorem am_okL0 : am_chS 239 0 4 = true := by decide +kernel
set_option maxRecDepth 100000 in
theorem am_okL4 : am_chS 239 4 4 = true := by decide +kernel
set_option maxRecDepth 100000 in
theorem am_okL8 : am_chS 239 8 4 = true := by decide +kernel
set_option maxRecDepth 100000 in
theorem am_okL12 : am_chS 239 12 4 = true := by decide +kernel
set_option maxRecDepth 100000 in
theorem am_okL16 : am_chS 239 16 4 = true := by decide +kernel
