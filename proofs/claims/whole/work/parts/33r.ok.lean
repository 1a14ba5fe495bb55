set_option maxRecDepth 100000 in
theorem am_okl_0 : ((am_t213.drop 0).take 3).all (fun q => am_at 213 q.1 q.2) = true := by decide +kernel
set_option maxRecDepth 100000 in
theorem am_okl_3 : ((am_t213.drop 3).take 3).all (fun q => am_at 213 q.1 q.2) = true := by decide +kernel
set_option maxRecDepth 100000 in
theorem am_okl_6 : ((am_t213.drop 6).take 3).all (fun q => am_at 213 q.1 q.2) = true := by decide +kernel
set_option maxRecDepth 100000 in
theorem am_okl_9 : ((am_t213.drop 9).take 3).all (fun q => am_at 213 q.1 q.2) = true := by decide +kernel
set_option maxRecDepth 100000 in
theorem am_okl_12 : ((am_t213.drop 12).take 3).all (fun q => am_at 213 q.1 q.2) = true := by decide +kernel
set_option maxRecDepth 100000 in
theorem am_okl_15 : ((am_t213.drop 15).take 3).all (fun q => am_at 213 q.1 q.2) = true := by decide +kernel
set_option maxRecDepth 100000 in
theorem am_okl_18 : ((am_t213.drop 18).take 3).all (fun q => am_at 213 q.1 q.2) = true := by decide +kernel
set_option maxRecDepth 100000 in
theorem am_okl_21 : ((am_t213.drop 21).take 3).all (fun q => am_at 213 q.1 q.2) = true := by decide +kernel
set_option maxRecDepth 100000 in
theorem am_okl_24 : ((am_t213.drop 24).take 3).all (fun q => am_at 213 q.1 q.2) = true := by decide +kernel
set_option maxRecDepth 100000 in
theorem am_okl_27 : ((am_t213.drop 27).take 3).all (fun q => am_at 213 q.1 q.2) = true := by decide +kernel
set_option maxRecDepth 100000 in
theorem am_okl_30 : ((am_t213.drop 30).take 3).all (fun q => am_at 213 q.1 q.2) = true := by decide +kernel
set_option maxRecDepth 100000 in
theorem am_okl_33 : ((am_t213.drop 33).take 3).all (fun q => am_at 213 q.1 q.2) = true := by decide +kernel
set_option maxRecDepth 100000 in
theorem am_okl_36 : ((am_t213.drop 36).take 3).all (fun q => am_at 213 q.1 q.2) = true := by decide +kernel
set_option maxRecDepth 100000 in
theorem am_okl_39 : ((am_t213.drop 39).take 3).all (fun q => am_at 213 q.1 q.2) = true := by decide +kernel
set_option maxRecDepth 100000 in
theorem am_okl_42 : ((am_t213.drop 42).take 3).all (fun q => am_at 213 q.1 q.2) = true := by decide +kernel
set_option maxRecDepth 100000 in
theorem am_okl_45 : ((am_t213.drop 45).take 3).all (fun q => am_at 213 q.1 q.2) = true := by decide +kernel
theorem am_okl_len : am_t213.length = 46 := by decide +kernel
theorem am_okl_r {a b i : Nat} {q : Nat × List Instr} (h : ((am_t213.drop a).take b).all (fun q => am_at 213 q.1 q.2) = true) (h1 : a ≤ i) (h2 : i < a + b) (hi : am_t213[i]? = some q) : am_at 213 q.1 q.2 = true := by
  refine List.all_eq_true.mp h q ?_
  refine List.mem_of_getElem? (i := i - a) ?_
  rw [List.getElem?_take_of_lt (by omega), List.getElem?_drop, show a + (i - a) = i by omega]
  exact hi
theorem am_okm_law : am_okm 213 = true := by
  refine List.all_eq_true.mpr fun q hq => ?_
  have hq : q ∈ am_t213 := hq
  obtain ⟨i, hi⟩ := List.getElem?_of_mem hq
  have hl : i < 46 := by have := (List.getElem?_eq_some_iff.mp hi).1; rw [am_okl_len] at this; exact this
  by_cases h0 : i < 3
  · exact am_okl_r am_okl_0 (by omega) (by omega) hi
  by_cases h3 : i < 6
  · exact am_okl_r am_okl_3 (by omega) (by omega) hi
  by_cases h6 : i < 9
  · exact am_okl_r am_okl_6 (by omega) (by omega) hi
  by_cases h9 : i < 12
  · exact am_okl_r am_okl_9 (by omega) (by omega) hi
  by_cases h12 : i < 15
  · exact am_okl_r am_okl_12 (by omega) (by omega) hi
  by_cases h15 : i < 18
  · exact am_okl_r am_okl_15 (by omega) (by omega) hi
  by_cases h18 : i < 21
  · exact am_okl_r am_okl_18 (by omega) (by omega) hi
  by_cases h21 : i < 24
  · exact am_okl_r am_okl_21 (by omega) (by omega) hi
  by_cases h24 : i < 27
  · exact am_okl_r am_okl_24 (by omega) (by omega) hi
  by_cases h27 : i < 30
  · exact am_okl_r am_okl_27 (by omega) (by omega) hi
  by_cases h30 : i < 33
  · exact am_okl_r am_okl_30 (by omega) (by omega) hi
  by_cases h33 : i < 36
  · exact am_okl_r am_okl_33 (by omega) (by omega) hi
  by_cases h36 : i < 39
  · exact am_okl_r am_okl_36 (by omega) (by omega) hi
  by_cases h39 : i < 42
  · exact am_okl_r am_okl_39 (by omega) (by omega) hi
  by_cases h42 : i < 45
  · exact am_okl_r am_okl_42 (by omega) (by omega) hi
  exact am_okl_r am_okl_45 (by omega) (by omega) hi
theorem am_okm_r {a n k : Nat} (h : (List.range' a n).all am_okm = true) (h1 : a ≤ k) (h2 : k < a + n) : am_okm k = true := List.all_eq_true.mp h k (List.mem_range'_1.mpr ⟨h1, h2⟩)
theorem am_okm_all {k : Nat} (hk : k < 214) : am_okm k = true := by
  by_cases h0 : k < 4
  · exact am_okm_r am_okm_0 (by omega) (by omega)
  by_cases h4 : k < 8
  · exact am_okm_r am_okm_4 (by omega) (by omega)
  by_cases h8 : k < 12
  · exact am_okm_r am_okm_8 (by omega) (by omega)
  by_cases h12 : k < 16
  · exact am_okm_r am_okm_12 (by omega) (by omega)
  by_cases h16 : k < 20
  · exact am_okm_r am_okm_16 (by omega) (by omega)
  by_cases h20 : k < 24
  · exact am_okm_r am_okm_20 (by omega) (by omega)
  by_cases h24 : k < 28
  · exact am_okm_r am_okm_24 (by omega) (by omega)
  by_cases h28 : k < 32
  · exact am_okm_r am_okm_28 (by omega) (by omega)
  by_cases h32 : k < 36
  · exact am_okm_r am_okm_32 (by omega) (by omega)
  by_cases h36 : k < 40
  · exact am_okm_r am_okm_36 (by omega) (by omega)
  by_cases h40 : k < 44
  · exact am_okm_r am_okm_40 (by omega) (by omega)
  by_cases h44 : k < 48
  · exact am_okm_r am_okm_44 (by omega) (by omega)
  by_cases h48 : k < 52
  · exact am_okm_r am_okm_48 (by omega) (by omega)
  by_cases h52 : k < 56
  · exact am_okm_r am_okm_52 (by omega) (by omega)
  by_cases h56 : k < 60
  · exact am_okm_r am_okm_56 (by omega) (by omega)
  by_cases h60 : k < 64
  · exact am_okm_r am_okm_60 (by omega) (by omega)
  by_cases h64 : k < 68
  · exact am_okm_r am_okm_64 (by omega) (by omega)
  by_cases h68 : k < 72
  · exact am_okm_r am_okm_68 (by omega) (by omega)
  by_cases h72 : k < 76
  · exact am_okm_r am_okm_72 (by omega) (by omega)
  by_cases h76 : k < 80
  · exact am_okm_r am_okm_76 (by omega) (by omega)
  by_cases h80 : k < 84
  · exact am_okm_r am_okm_80 (by omega) (by omega)
  by_cases h84 : k < 88
  · exact am_okm_r am_okm_84 (by omega) (by omega)
  by_cases h88 : k < 92
  · exact am_okm_r am_okm_88 (by omega) (by omega)
  by_cases h92 : k < 96
  · exact am_okm_r am_okm_92 (by omega) (by omega)
  by_cases h96 : k < 100
  · exact am_okm_r am_okm_96 (by omega) (by omega)
  by_cases h100 : k < 104
  · exact am_okm_r am_okm_100 (by omega) (by omega)
  by_cases h104 : k < 108
  · exact am_okm_r am_okm_104 (by omega) (by omega)
  by_cases h108 : k < 112
  · exact am_okm_r am_okm_108 (by omega) (by omega)
  by_cases h112 : k < 116
  · exact am_okm_r am_okm_112 (by omega) (by omega)
  by_cases h116 : k < 120
  · exact am_okm_r am_okm_116 (by omega) (by omega)
  by_cases h120 : k < 124
  · exact am_okm_r am_okm_120 (by omega) (by omega)
  by_cases h124 : k < 128
  · exact am_okm_r am_okm_124 (by omega) (by omega)
  by_cases h128 : k < 132
  · exact am_okm_r am_okm_128 (by omega) (by omega)
  by_cases h132 : k < 136
  · exact am_okm_r am_okm_132 (by omega) (by omega)
  by_cases h136 : k < 140
  · exact am_okm_r am_okm_136 (by omega) (by omega)
  by_cases h140 : k < 144
  · exact am_okm_r am_okm_140 (by omega) (by omega)
  by_cases h144 : k < 148
  · exact am_okm_r am_okm_144 (by omega) (by omega)
  by_cases h148 : k < 152
  · exact am_okm_r am_okm_148 (by omega) (by omega)
  by_cases h152 : k < 156
  · exact am_okm_r am_okm_152 (by omega) (by omega)
  by_cases h156 : k < 160
  · exact am_okm_r am_okm_156 (by omega) (by omega)
  by_cases h160 : k < 164
  · exact am_okm_r am_okm_160 (by omega) (by omega)
  by_cases h164 : k < 168
  · exact am_okm_r am_okm_164 (by omega) (by omega)
  by_cases h168 : k < 172
  · exact am_okm_r am_okm_168 (by omega) (by omega)
  by_cases h172 : k < 176
  · exact am_okm_r am_okm_172 (by omega) (by omega)
  by_cases h176 : k < 180
  · exact am_okm_r am_okm_176 (by omega) (by omega)
  by_cases h180 : k < 184
  · exact am_okm_r am_okm_180 (by omega) (by omega)
  by_cases h184 : k < 188
  · exact am_okm_r am_okm_184 (by omega) (by omega)
  by_cases h188 : k < 192
  · exact am_okm_r am_okm_188 (by omega) (by omega)
  by_cases h192 : k < 196
  · exact am_okm_r am_okm_192 (by omega) (by omega)
  by_cases h196 : k < 200
  · exact am_okm_r am_okm_196 (by omega) (by omega)
  by_cases h200 : k < 204
  · exact am_okm_r am_okm_200 (by omega) (by omega)
  by_cases h204 : k < 208
  · exact am_okm_r am_okm_204 (by omega) (by omega)
  by_cases h208 : k < 212
  · exact am_okm_r am_okm_208 (by omega) (by omega)
  by_cases h212 : k < 213
  · exact am_okm_r am_okm_212 (by omega) (by omega)
  rw [show k = 213 by omega]
  exact am_okm_law
