set_option maxRecDepth 100000 in
theorem am_okL60 : am_chS 239 60 4 = true := by decide +kernel
set_option maxRecDepth 100000 in
theorem am_okL64 : am_chS 239 64 4 = true := by decide +kernel
set_option maxRecDepth 100000 in
theorem am_okL68 : am_chS 239 68 4 = true := by decide +kernel
set_option maxRecDepth 100000 in
theorem am_okL72 : am_chS 239 72 4 = true := by decide +kernel
set_option maxRecDepth 100000 in
theorem am_okL76 : am_chS 239 76 4 = true := by decide +kernel
