set_option maxRecDepth 100000 in
theorem am_okm_104 : (List.range' 104 4).all am_okm = true := by decide +kernel
set_option maxRecDepth 100000 in
theorem am_okm_108 : (List.range' 108 4).all am_okm = true := by decide +kernel
set_option maxRecDepth 100000 in
theorem am_okm_112 : (List.range' 112 4).all am_okm = true := by decide +kernel
set_option maxRecDepth 100000 in
theorem am_okm_116 : (List.range' 116 4).all am_okm = true := by decide +kernel
set_option maxRecDepth 100000 in
theorem am_okm_120 : (List.range' 120 4).all am_okm = true := by decide +kernel
set_option maxRecDepth 100000 in
theorem am_okm_124 : (List.range' 124 4).all am_okm = true := by decide +kernel
set_option maxRecDepth 100000 in
theorem am_okm_128 : (List.range' 128 4).all am_okm = true := by decide +kernel
set_option maxRecDepth 100000 in
theorem am_okm_132 : (List.range' 132 4).all am_okm = true := by decide +kernel
set_option maxRecDepth 100000 in
theorem am_okm_136 : (List.range' 136 4).all am_okm = true := by decide +kernel
set_option maxRecDepth 100000 in
theorem am_okm_140 : (List.range' 140 4).all am_okm = true := by decide +kernel
set_option maxRecDepth 100000 in
theorem am_okm_144 : (List.range' 144 4).all am_okm = true := by decide +kernel
set_option maxRecDepth 100000 in
theorem am_okm_148 : (List.range' 148 4).all am_okm = true := by decide +kernel
set_option maxRecDepth 100000 in
theorem am_okm_152 : (List.range' 152 4).all am_okm = true := by decide +kernel
set_option maxRecDepth 100000 in
theorem am_okm_156 : (List.range' 156 4).all am_okm = true := by decide +kernel
set_option maxRecDepth 100000 in
theorem am_okm_160 : (List.range' 160 4).all am_okm = true := by decide +kernel
set_option maxRecDepth 100000 in
theorem am_okm_164 : (List.range' 164 4).all am_okm = true := by decide +kernel
set_option maxRecDepth 100000 in
theorem am_okm_168 : (List.range' 168 4).all am_okm = true := by decide +kernel
set_option maxRecDepth 100000 in
theorem am_okm_172 : (List.range' 172 4).all am_okm = true := by decide +kernel
set_option maxRecDepth 100000 in
theorem am_okm_176 : (List.range' 176 4).all am_okm = true := by decide +kernel
set_option maxRecDepth 100000 in
theorem am_okm_180 : (List.range' 180 4).all am_okm = true := by decide +kernel
set_option maxRecDepth 100000 in
theorem am_okm_184 : (List.range' 184 4).all am_okm = true := by decide +kernel
set_option maxRecDepth 100000 in
theorem am_okm_188 : (List.range' 188 4).all am_okm = true := by decide +kernel
set_option maxRecDepth 100000 in
theorem am_okm_192 : (List.range' 192 4).all am_okm = true := by decide +kernel
set_option maxRecDepth 100000 in
theorem am_okm_196 : (List.range' 196 4).all am_okm = true := by decide +kernel
set_option maxRecDepth 100000 in
theorem am_okm_200 : (List.range' 200 4).all am_okm = true := by decide +kernel
set_option maxRecDepth 100000 in
theorem am_okm_204 : (List.range' 204 4).all am_okm = true := by decide +kernel
set_option maxRecDepth 100000 in
theorem am_okm_208 : (List.range' 208 4).all am_okm = true := by decide +kernel
set_option maxRecDepth 100000 in
theorem am_okm_212 : (List.range' 212 1).all am_okm = true := by decide +kernel
