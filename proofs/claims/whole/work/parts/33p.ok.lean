/-! ===== the check itself: every block is the code that stands there ===== -/
set_option maxRecDepth 100000 in
theorem am_okm_0 : (List.range' 0 12).all am_okm = true := by decide +kernel
set_option maxRecDepth 100000 in
theorem am_okm_12 : (List.range' 12 12).all am_okm = true := by decide +kernel
set_option maxRecDepth 100000 in
theorem am_okm_24 : (List.range' 24 12).all am_okm = true := by decide +kernel
set_option maxRecDepth 100000 in
theorem am_okm_36 : (List.range' 36 12).all am_okm = true := by decide +kernel
set_option maxRecDepth 100000 in
theorem am_okm_48 : (List.range' 48 12).all am_okm = true := by decide +kernel
set_option maxRecDepth 100000 in
theorem am_okm_60 : (List.range' 60 12).all am_okm = true := by decide +kernel
set_option maxRecDepth 100000 in
theorem am_okm_72 : (List.range' 72 12).all am_okm = true := by decide +kernel
set_option maxRecDepth 100000 in
theorem am_okm_84 : (List.range' 84 12).all am_okm = true := by decide +kernel
