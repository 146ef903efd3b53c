set_option maxRecDepth 100000 in
theorem am_ok0 : am_chM 0 30 = true := by decide +kernel
set_option maxRecDepth 100000 in
theorem am_ok30 : am_chM 30 60 = true := by decide +kernel
set_option maxRecDepth 100000 in
theorem am_ok60 : am_chM 60 90 = true := by decide +kernel
set_option maxRecDepth 100000 in
theorem am_ok90 : am_chM 90 120 = true := by decide +kernel
set_option maxRecDepth 100000 in
theorem am_okQ0 : am_chQ 0 8 = true := by decide +kernel
set_option maxRecDepth 100000 in
theorem am_okQ8 : am_chQ 8 16 = true := by decide +kernel
set_option maxRecDepth 100000 in
theorem am_okQ16 : am_chQ 16 24 = true := by decide +kernel
set_option maxRecDepth 100000 in
theorem am_okQ24 : am_chQ 24 31 = true := by decide +kernel
