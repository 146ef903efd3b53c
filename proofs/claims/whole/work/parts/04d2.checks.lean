set_option maxRecDepth 100000 in
theorem am_okL60 : am_chS 238 60 4 = true := by decide +kernel
set_option maxRecDepth 100000 in
theorem am_okL64 : am_chS 238 64 4 = true := by decide +kernel
set_option maxRecDepth 100000 in
theorem am_okL68 : am_chS 238 68 4 = true := by decide +kernel
set_option maxRecDepth 100000 in
theorem am_okL72 : am_chS 238 72 4 = true := by decide +kernel
set_option maxRecDepth 100000 in
theorem am_okL76 : am_chS 238 76 4 = true := by decide +kernel
