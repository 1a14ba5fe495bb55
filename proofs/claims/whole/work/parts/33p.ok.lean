/-! ===== the check itself: every block is the code that stands there ===== -/
set_option maxRecDepth 100000 in
theorem am_okm_0 : (List.range' 0 4).all am_okm = true := by decide +kernel
set_option maxRecDepth 100000 in
theorem am_okm_4 : (List.range' 4 4).all am_okm = true := by decide +kernel
set_option maxRecDepth 100000 in
theorem am_okm_8 : (List.range' 8 4).all am_okm = true := by decide +kernel
set_option maxRecDepth 100000 in
theorem am_okm_12 : (List.range' 12 4).all am_okm = true := by decide +kernel
set_option maxRecDepth 100000 in
theorem am_okm_16 : (List.range' 16 4).all am_okm = true := by decide +kernel
set_option maxRecDepth 100000 in
theorem am_okm_20 : (List.range' 20 4).all am_okm = true := by decide +kernel
set_option maxRecDepth 100000 in
theorem am_okm_24 : (List.range' 24 4).all am_okm = true := by decide +kernel
set_option maxRecDepth 100000 in
theorem am_okm_28 : (List.range' 28 4).all am_okm = true := by decide +kernel
set_option maxRecDepth 100000 in
theorem am_okm_32 : (List.range' 32 4).all am_okm = true := by decide +kernel
set_option maxRecDepth 100000 in
theorem am_okm_36 : (List.range' 36 4).all am_okm = true := by decide +kernel
set_option maxRecDepth 100000 in
theorem am_okm_40 : (List.range' 40 4).all am_okm = true := by decide +kernel
set_option maxRecDepth 100000 in
theorem am_okm_44 : (List.range' 44 4).all am_okm = true := by decide +kernel
set_option maxRecDepth 100000 in
theorem am_okm_48 : (List.range' 48 4).all am_okm = true := by decide +kernel
set_option maxRecDepth 100000 in
theorem am_okm_52 : (List.range' 52 4).all am_okm = true := by decide +kernel
set_option maxRecDepth 100000 in
theorem am_okm_56 : (List.range' 56 4).all am_okm = true := by decide +kernel
set_option maxRecDepth 100000 in
theorem am_okm_60 : (List.range' 60 4).all am_okm = true := by decide +kernel
set_option maxRecDepth 100000 in
theorem am_okm_64 : (List.range' 64 4).all am_okm = true := by decide +kernel
set_option maxRecDepth 100000 in
theorem am_okm_68 : (List.range' 68 4).all am_okm = true := by decide +kernel
set_option maxRecDepth 100000 in
theorem am_okm_72 : (List.range' 72 4).all am_okm = true := by decide +kernel
set_option maxRecDepth 100000 in
theorem am_okm_76 : (List.range' 76 4).all am_okm = true := by decide +kernel
set_option maxRecDepth 100000 in
theorem am_okm_80 : (List.range' 80 4).all am_okm = true := by decide +kernel
set_option maxRecDepth 100000 in
theorem am_okm_84 : (List.range' 84 4).all am_okm = true := by decide +kernel
set_option maxRecDepth 100000 in
theorem am_okm_88 : (List.range' 88 4).all am_okm = true := by decide +kernel
set_option maxRecDepth 100000 in
theorem am_okm_92 : (List.range' 92 4).all am_okm = true := by decide +kernel
set_option maxRecDepth 100000 in
theorem am_okm_96 : (List.range' 96 4).all am_okm = true := by decide +kernel
set_option maxRecDepth 100000 in
theorem am_okm_100 : (List.range' 100 4).all am_okm = true := by decide +kernel
