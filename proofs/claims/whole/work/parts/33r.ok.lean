set_option maxRecDepth 100000 in
theorem am_okl_0 : ((am_t213.drop 0).take 10).all (fun q => am_at 213 q.1 q.2) = true := by decide +kernel
set_option maxRecDepth 100000 in
theorem am_okl_10 : ((am_t213.drop 10).take 10).all (fun q => am_at 213 q.1 q.2) = true := by decide +kernel
set_option maxRecDepth 100000 in
theorem am_okl_20 : ((am_t213.drop 20).take 10).all (fun q => am_at 213 q.1 q.2) = true := by decide +kernel
set_option maxRecDepth 100000 in
theorem am_okl_30 : ((am_t213.drop 30).take 10).all (fun q => am_at 213 q.1 q.2) = true := by decide +kernel
set_option maxRecDepth 100000 in
theorem am_okl_40 : ((am_t213.drop 40).take 10).all (fun q => am_at 213 q.1 q.2) = true := by decide +kernel
theorem am_okl_len : am_t213.length = 46 := by decide +kernel
theorem am_okl_r {a b i : Nat} {q : Nat × List Instr} (h : ((am_t213.drop a).take b).all (fun q => am_at 213 q.1 q.2) = true) (h1 : a ≤ i) (h2 : i < a + b) (hi : am_t213[i]? = some q) : am_at 213 q.1 q.2 = true := by
  refine List.all_eq_true.mp h q ?_
  refine List.mem_of_getElem? (i := i - a) ?_
  rw [List.getElem?_take_of_lt (by omega), List.getElem?_drop, show a + (i - a) = i by omega]
  exact hi
theorem am_okm_law : am_okm 213 = true := by
  refine List.all_eq_true.mpr fun q hq => ?_
  have hq : q ∈ am_t213 := hq
  obtain ⟨i, hi⟩ := List.getElem?_of_mem hq
  have hl : i < 46 := by have := (List.getElem?_eq_some_iff.mp hi).1; rw [am_okl_len] at this; exact this
  by_cases h0 : i < 10
  · exact am_okl_r am_okl_0 (by omega) (by omega) hi
  by_cases h10 : i < 20
  · exact am_okl_r am_okl_10 (by omega) (by omega) hi
  by_cases h20 : i < 30
  · exact am_okl_r am_okl_20 (by omega) (by omega) hi
  by_cases h30 : i < 40
  · exact am_okl_r am_okl_30 (by omega) (by omega) hi
  exact am_okl_r am_okl_40 (by omega) (by omega) hi
theorem am_okm_r {a n k : Nat} (h : (List.range' a n).all am_okm = true) (h1 : a ≤ k) (h2 : k < a + n) : am_okm k = true := List.all_eq_true.mp h k (List.mem_range'_1.mpr ⟨h1, h2⟩)
theorem am_okm_all {k : Nat} (hk : k < 214) : am_okm k = true := by
  by_cases h0 : k < 12
  · exact am_okm_r am_okm_0 (by omega) (by omega)
  by_cases h12 : k < 24
  · exact am_okm_r am_okm_12 (by omega) (by omega)
  by_cases h24 : k < 36
  · exact am_okm_r am_okm_24 (by omega) (by omega)
  by_cases h36 : k < 48
  · exact am_okm_r am_okm_36 (by omega) (by omega)
  by_cases h48 : k < 60
  · exact am_okm_r am_okm_48 (by omega) (by omega)
  by_cases h60 : k < 72
  · exact am_okm_r am_okm_60 (by omega) (by omega)
  by_cases h72 : k < 84
  · exact am_okm_r am_okm_72 (by omega) (by omega)
  by_cases h84 : k < 96
  · exact am_okm_r am_okm_84 (by omega) (by omega)
  by_cases h96 : k < 108
  · exact am_okm_r am_okm_96 (by omega) (by omega)
  by_cases h108 : k < 120
  · exact am_okm_r am_okm_108 (by omega) (by omega)
  by_cases h120 : k < 132
  · exact am_okm_r am_okm_120 (by omega) (by omega)
  by_cases h132 : k < 144
  · exact am_okm_r am_okm_132 (by omega) (by omega)
  by_cases h144 : k < 156
  · exact am_okm_r am_okm_144 (by omega) (by omega)
  by_cases h156 : k < 168
  · exact am_okm_r am_okm_156 (by omega) (by omega)
  by_cases h168 : k < 180
  · exact am_okm_r am_okm_168 (by omega) (by omega)
  by_cases h180 : k < 192
  · exact am_okm_r am_okm_180 (by omega) (by omega)
  by_cases h192 : k < 204
  · exact am_okm_r am_okm_192 (by omega) (by omega)
  by_cases h204 : k < 213
  · exact am_okm_r am_okm_204 (by omega) (by omega)
  rw [show k = 213 by omega]
  exact am_okm_law
