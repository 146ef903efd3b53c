set_option maxRecDepth 100000 in
theorem am_okL20 : am_chS 239 20 4 = true := by decide +kernel
set_option maxRecDepth 100000 in
theorem am_okL24 : am_chS 239 24 4 = true := by decide +kernel
set_option maxRecDepth 100000 in
theorem am_okL28 : am_chS 239 28 4 = true := by decide +kernel
set_option maxRecDepth 100000 in
theorem am_okL32 : am_chS 239 32 4 = true := by decide +kernel
set_option maxRecDepth 100000 in
theorem am_okL36 : am_chS 239 36 4 = true := by decide +kernel
