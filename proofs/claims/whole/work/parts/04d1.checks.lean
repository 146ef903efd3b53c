set_option maxRecDepth 100000 in
theorem am_okL40 : am_chS 239 40 4 = true := by decide +kernel
set_option maxRecDepth 100000 in
theorem am_okL44 : am_chS 239 44 4 = true := by decide +kernel
set_option maxRecDepth 100000 in
theorem am_okL48 : am_chS 239 48 4 = true := by decide +kernel
set_option maxRecDepth 100000 in
theorem am_okL52 : am_chS 239 52 4 = true := by decide +kernel
set_option maxRecDepth 100000 in
theorem am_okL56 : am_chS 239 56 4 = true := by decide +kernel
