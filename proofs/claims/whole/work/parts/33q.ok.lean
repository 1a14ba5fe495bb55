set_option maxRecDepth 100000 in
theorem am_okm_96 : (List.range' 96 12).all am_okm = true := by decide +kernel
set_option maxRecDepth 100000 in
theorem am_okm_108 : (List.range' 108 12).all am_okm = true := by decide +kernel
set_option maxRecDepth 100000 in
theorem am_okm_120 : (List.range' 120 12).all am_okm = true := by decide +kernel
set_option maxRecDepth 100000 in
theorem am_okm_132 : (List.range' 132 12).all am_okm = true := by decide +kernel
set_option maxRecDepth 100000 in
theorem am_okm_144 : (List.range' 144 12).all am_okm = true := by decide +kernel
set_option maxRecDepth 100000 in
theorem am_okm_156 : (List.range' 156 12).all am_okm = true := by decide +kernel
set_option maxRecDepth 100000 in
theorem am_okm_168 : (List.range' 168 12).all am_okm = true := by decide +kernel
set_option maxRecDepth 100000 in
theorem am_okm_180 : (List.range' 180 12).all am_okm = true := by decide +kernel
set_option maxRecDepth 100000 in
theorem am_okm_192 : (List.range' 192 12).all am_okm = true := by decide +kernel
set_option maxRecDepth 100000 in
theorem am_okm_204 : (List.range' 204 9).all am_okm = true := by decide +kernel
