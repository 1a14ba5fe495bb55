/-! ===== the constructors: sheet, tape, town ===== -/
set_option maxHeartbeats 8000000 in
set_option maxRecDepth 100000 in
theorem ic_X0 (l : Launch) (D : va_G) (cI cR cS : ClassId) (h0 sz : Nat) : Met l yX0_init (ic_ws yX0_init cX0_init 1) { frames := 1, cells := 1, slots := 40, locals := 12 } (va_Pc [.ref h0] (ic_pre D cI cR cS [(h0, .inr (0, [.null, .int 0, .int 0]))] sz)) (ic_Q D (fun u => [(h0, .inr (0, [.ref (u 0), .int 0, .int 0])), (u 0, ic_i cI 40)]) (va_A [(h0, .inr (0, [.null, .int 0, .int 0]))] sz)) 1 40 (va_A [(h0, .inr (0, [.null, .int 0, .int 0]))] sz) := by
  refine Met.ofW (cc := cX0_init) (maxL := 1) (ret := none) (by decide) rfl ?_
  intro p e s m args below meth c s₁ B hml hv
  obtain ⟨rfl, hsz, hP, hK, hD0, hE⟩ := hv
  have hx := B.exec
  have hb := B.bytes
  have hr := B.returns
  have hts := atoms_spec (ws := ic_ws yX0_init cX0_init 1) B.pre
  have hw : ∀ w ∈ wsL_law, w.before ([.ref h0] : List Value).toArray s = true := fun w h => hts w (List.mem_cons_of_mem _ h)
  have hown : s.vm.findClass RX0 = some m.cls := findClass_of_methodNamed B.named
  have hlocks := B.notSynchronized
  have hin : meth.name = "<init>" := (name_of_methodNamed B.named B.method).1
  subst hsz
  have hD := hD0.self (sz := s.heap.size)
  generalize hAe : va_A [(h0, .inr (0, [.null, .int 0, .int 0]))] s.heap.size = A at hD ⊢
  have hA : ∀ q : Nat, s.heap.size ≤ q → A q := fun q h => by rw [← hAe]; exact Or.inr h
  have hS : va_S A s.heap s.heap [] := va_S.rf
  have hP : va_P D vwCl [(h0, .inr (0, [.null, .int 0, .int 0]))] s.heap := hP
  have hl := lv_entry ([.ref h0]) (n := 1) (Nat.le_of_ble_eq_true rfl)
  rw [lg_entry_eq]
  generalize (lg_sl ([.ref h0]) ++ List.replicate (1 - (lg_sl ([.ref h0])).length) Slot.unset).toArray = ls at hl ⊢
  have hl : lv_has ls 1 [(0, .ref h0)] := hl
  refine lv_aload_n hx hb dX0_init_0 rfl (lv_at hl 0 rfl) ?_
  refine W.objInit hx hb hown (am_word hw icw_66) (am_word hw icw_10) (am_word hw icw_11) rfl (by rw [hml]; exact hl.1) rfl dX0_init_1 (Nat.le_of_ble_eq_true rfl) (Nat.le_of_ble_eq_true rfl) ?_
  refine W.eq (g2 := F0 m 4 ls []) rfl ?_
  refine lv_aload_n hx hb dX0_init_4 rfl (lv_at hl 0 rfl) ?_
  refine lv_bipush (v := nI 40) hx hb dX0_init_5 rfl ?_
  refine ic_newa (N := 40) hx hb hw hK hP hD hS hA (by decide +kernel) (by decide +kernel) (by decide) (Nat.le_of_ble_eq_true rfl) (Nat.le_of_ble_eq_true rfl) dX0_init_7 (fun q0 H hP hD hS => ?_)
  have hP : va_P D vwCl [(h0, .inr (0, [.null, .int 0, .int 0])), (q0, ic_i cI 40)] H := hP
  have hD : va_D A [(h0, .inr (0, [.null, .int 0, .int 0])), (q0, ic_i cI 40)] := hD
  refine W.widen (k := 1) (n := 40) (by omega) (by omega) ?_
  refine va_putF (D := D) (ci := 0) (v := .ref q0) (ty := tyX0 0) (C := RX0) (T := TX0) (N := 3) hx hb hw ic_u0 tyX0 tyX0_ok nmX0 hown hK hP hD hS 0 rfl rfl 0 (by decide) (am_word hw icw_67) (fun _ h9 => h9) rfl hin rfl (by decide +kernel) rfl rfl (Nat.le_of_ble_eq_true rfl) dX0_init_9 (fun H locs hP hD hS => ?_)
  have hP : va_P D vwCl [(h0, .inr (0, [.ref q0, .int 0, .int 0])), (q0, ic_i cI 40)] H := hP
  have hD : va_D A [(h0, .inr (0, [.ref q0, .int 0, .int 0])), (q0, ic_i cI 40)] := hD
  exact W.vret hx hb hr (fun t ht hW => ⟨⟨fun i => [q0].getD i 0, rfl, trivial, by rw [ht]; exact hP, hD⟩, hS.F ht⟩) hS.2.2 dX0_init_12
set_option maxHeartbeats 8000000 in
set_option maxRecDepth 100000 in
theorem ic_X1 (l : Launch) (D : va_G) (cI cR cS : ClassId) (h0 sz : Nat) : Met l yX1_init (ic_ws yX1_init cX1_init 1) { frames := 1, cells := 1, slots := 120, locals := 12 } (va_Pc [.ref h0] (ic_pre D cI cR cS [(h0, .inr (1, [.null, .int 0, .int 0, .int 0, .int 0, .int 0]))] sz)) (ic_Q D (fun u => [(h0, .inr (1, [.ref (u 0), .int 0, .int 0, .int 0, .int 0, .int 0])), (u 0, ic_i cI 120)]) (va_A [(h0, .inr (1, [.null, .int 0, .int 0, .int 0, .int 0, .int 0]))] sz)) 1 120 (va_A [(h0, .inr (1, [.null, .int 0, .int 0, .int 0, .int 0, .int 0]))] sz) := by
  refine Met.ofW (cc := cX1_init) (maxL := 1) (ret := none) (by decide) rfl ?_
  intro p e s m args below meth c s₁ B hml hv
  obtain ⟨rfl, hsz, hP, hK, hD0, hE⟩ := hv
  have hx := B.exec
  have hb := B.bytes
  have hr := B.returns
  have hts := atoms_spec (ws := ic_ws yX1_init cX1_init 1) B.pre
  have hw : ∀ w ∈ wsL_law, w.before ([.ref h0] : List Value).toArray s = true := fun w h => hts w (List.mem_cons_of_mem _ h)
  have hown : s.vm.findClass RX1 = some m.cls := findClass_of_methodNamed B.named
  have hlocks := B.notSynchronized
  have hin : meth.name = "<init>" := (name_of_methodNamed B.named B.method).1
  subst hsz
  have hD := hD0.self (sz := s.heap.size)
  generalize hAe : va_A [(h0, .inr (1, [.null, .int 0, .int 0, .int 0, .int 0, .int 0]))] s.heap.size = A at hD ⊢
  have hA : ∀ q : Nat, s.heap.size ≤ q → A q := fun q h => by rw [← hAe]; exact Or.inr h
  have hS : va_S A s.heap s.heap [] := va_S.rf
  have hP : va_P D vwCl [(h0, .inr (1, [.null, .int 0, .int 0, .int 0, .int 0, .int 0]))] s.heap := hP
  have hl := lv_entry ([.ref h0]) (n := 1) (Nat.le_of_ble_eq_true rfl)
  rw [lg_entry_eq]
  generalize (lg_sl ([.ref h0]) ++ List.replicate (1 - (lg_sl ([.ref h0])).length) Slot.unset).toArray = ls at hl ⊢
  have hl : lv_has ls 1 [(0, .ref h0)] := hl
  refine lv_aload_n hx hb dX1_init_0 rfl (lv_at hl 0 rfl) ?_
  refine W.objInit hx hb hown (am_word hw icw_61) (am_word hw icw_10) (am_word hw icw_11) rfl (by rw [hml]; exact hl.1) rfl dX1_init_1 (Nat.le_of_ble_eq_true rfl) (Nat.le_of_ble_eq_true rfl) ?_
  refine W.eq (g2 := F0 m 4 ls []) rfl ?_
  refine lv_aload_n hx hb dX1_init_4 rfl (lv_at hl 0 rfl) ?_
  refine lv_bipush (v := nI 120) hx hb dX1_init_5 rfl ?_
  refine ic_newa (N := 120) hx hb hw hK hP hD hS hA (by decide +kernel) (by decide +kernel) (by decide) (Nat.le_of_ble_eq_true rfl) (Nat.le_of_ble_eq_true rfl) dX1_init_7 (fun q0 H hP hD hS => ?_)
  have hP : va_P D vwCl [(h0, .inr (1, [.null, .int 0, .int 0, .int 0, .int 0, .int 0])), (q0, ic_i cI 120)] H := hP
  have hD : va_D A [(h0, .inr (1, [.null, .int 0, .int 0, .int 0, .int 0, .int 0])), (q0, ic_i cI 120)] := hD
  refine W.widen (k := 1) (n := 120) (by omega) (by omega) ?_
  refine va_putF (D := D) (ci := 1) (v := .ref q0) (ty := tyX1 0) (C := RX1) (T := TX1) (N := 6) hx hb hw ic_u1 tyX1 tyX1_ok nmX1 hown hK hP hD hS 0 rfl rfl 0 (by decide) (am_word hw icw_62) (fun _ h9 => h9) rfl hin rfl (by decide +kernel) rfl rfl (Nat.le_of_ble_eq_true rfl) dX1_init_9 (fun H locs hP hD hS => ?_)
  have hP : va_P D vwCl [(h0, .inr (1, [.ref q0, .int 0, .int 0, .int 0, .int 0, .int 0])), (q0, ic_i cI 120)] H := hP
  have hD : va_D A [(h0, .inr (1, [.ref q0, .int 0, .int 0, .int 0, .int 0, .int 0])), (q0, ic_i cI 120)] := hD
  exact W.vret hx hb hr (fun t ht hW => ⟨⟨fun i => [q0].getD i 0, rfl, trivial, by rw [ht]; exact hP, hD⟩, hS.F ht⟩) hS.2.2 dX1_init_12
set_option maxHeartbeats 8000000 in
set_option maxRecDepth 100000 in
theorem ic_X3 (l : Launch) (D : va_G) (cI cR cS : ClassId) (h0 sz : Nat) : Met l yX3_init (ic_ws yX3_init cX3_init 1) { frames := 1, cells := 10, slots := 82, locals := 23 } (va_Pc [.ref h0] (ic_pre D cI cR cS [(h0, .inr (3, [.null, .null, .null, .null, .null, .null, .null, .int 0, .int 0, .int 0, .null, .null, .null]))] sz)) (ic_Q D (fun u => [(h0, .inr (3, [.ref (u 0), .ref (u 1), .ref (u 2), .ref (u 3), .ref (u 4), .ref (u 5), .ref (u 6), .int (nI 0), .int (nI 0), .int (nI 1), .ref (u 7), .ref (u 8), .ref (u 9)])), (u 0, ic_f cI 8 (nI 10)), (u 1, ic_i cI 8), (u 2, ic_i cI 8), (u 3, ic_i cI 8), (u 4, ic_i cI 8), (u 5, ic_i cI 8), (u 6, ic_f cI 10 (-1)), (u 7, ic_i cI 8), (u 8, ic_i cI 8), (u 9, ic_i cI 8)]) (va_A [(h0, .inr (3, [.null, .null, .null, .null, .null, .null, .null, .int 0, .int 0, .int 0, .null, .null, .null]))] sz)) 10 82 (va_A [(h0, .inr (3, [.null, .null, .null, .null, .null, .null, .null, .int 0, .int 0, .int 0, .null, .null, .null]))] sz) := by
  refine Met.ofW (cc := cX3_init) (maxL := 1) (ret := none) (by decide) rfl ?_
  intro p e s m args below meth c s₁ B hml hv
  obtain ⟨rfl, hsz, hP, hK, hD0, hE⟩ := hv
  have hx := B.exec
  have hb := B.bytes
  have hr := B.returns
  have hts := atoms_spec (ws := ic_ws yX3_init cX3_init 1) B.pre
  have hw : ∀ w ∈ wsL_law, w.before ([.ref h0] : List Value).toArray s = true := fun w h => hts w (List.mem_cons_of_mem _ h)
  have hown : s.vm.findClass RX3 = some m.cls := findClass_of_methodNamed B.named
  have hlocks := B.notSynchronized
  have hin : meth.name = "<init>" := (name_of_methodNamed B.named B.method).1
  subst hsz
  have hD := hD0.self (sz := s.heap.size)
  generalize hAe : va_A [(h0, .inr (3, [.null, .null, .null, .null, .null, .null, .null, .int 0, .int 0, .int 0, .null, .null, .null]))] s.heap.size = A at hD ⊢
  have hA : ∀ q : Nat, s.heap.size ≤ q → A q := fun q h => by rw [← hAe]; exact Or.inr h
  have hS : va_S A s.heap s.heap [] := va_S.rf
  have hP : va_P D vwCl [(h0, .inr (3, [.null, .null, .null, .null, .null, .null, .null, .int 0, .int 0, .int 0, .null, .null, .null]))] s.heap := hP
  have hl := lv_entry ([.ref h0]) (n := 1) (Nat.le_of_ble_eq_true rfl)
  rw [lg_entry_eq]
  generalize (lg_sl ([.ref h0]) ++ List.replicate (1 - (lg_sl ([.ref h0])).length) Slot.unset).toArray = ls at hl ⊢
  have hl : lv_has ls 1 [(0, .ref h0)] := hl
  refine lv_aload_n hx hb dX3_init_0 rfl (lv_at hl 0 rfl) ?_
  refine W.objInit hx hb hown (am_word hw icw_32) (am_word hw icw_10) (am_word hw icw_11) rfl (by rw [hml]; exact hl.1) rfl dX3_init_1 (Nat.le_of_ble_eq_true rfl) (Nat.le_of_ble_eq_true rfl) ?_
  refine W.eq (g2 := F0 m 4 ls []) rfl ?_
  refine lv_aload_n hx hb dX3_init_4 rfl (lv_at hl 0 rfl) ?_
  refine lv_bipush (v := nI 8) hx hb dX3_init_5 rfl ?_
  refine ic_newa (N := 8) hx hb hw hK hP hD hS hA (by decide +kernel) (by decide +kernel) (by decide) (Nat.le_of_ble_eq_true rfl) (Nat.le_of_ble_eq_true rfl) dX3_init_7 (fun q0 H hP hD hS => ?_)
  have hP : va_P D vwCl [(h0, .inr (3, [.null, .null, .null, .null, .null, .null, .null, .int 0, .int 0, .int 0, .null, .null, .null])), (q0, ic_i cI 8)] H := hP
  have hD : va_D A [(h0, .inr (3, [.null, .null, .null, .null, .null, .null, .null, .int 0, .int 0, .int 0, .null, .null, .null])), (q0, ic_i cI 8)] := hD
  refine W.widen (k := 1) (n := 8) (by omega) (by omega) ?_
  refine va_putF (D := D) (ci := 3) (v := .ref q0) (ty := tyX3 0) (C := RX3) (T := TX3) (N := 13) hx hb hw ic_u3 tyX3 tyX3_ok nmX3 hown hK hP hD hS 0 rfl rfl 0 (by decide) (am_word hw icw_33) (fun _ h9 => h9) rfl hin rfl (by decide +kernel) rfl rfl (Nat.le_of_ble_eq_true rfl) dX3_init_9 (fun H locs hP hD hS => ?_)
  have hP : va_P D vwCl [(h0, .inr (3, [.ref q0, .null, .null, .null, .null, .null, .null, .int 0, .int 0, .int 0, .null, .null, .null])), (q0, ic_i cI 8)] H := hP
  have hD : va_D A [(h0, .inr (3, [.ref q0, .null, .null, .null, .null, .null, .null, .int 0, .int 0, .int 0, .null, .null, .null])), (q0, ic_i cI 8)] := hD
  refine lv_aload_n hx hb dX3_init_12 rfl (lv_at hl 0 rfl) ?_
  refine lv_bipush (v := nI 8) hx hb dX3_init_13 rfl ?_
  refine ic_newa (N := 8) hx hb hw hK hP hD hS hA (by decide +kernel) (by decide +kernel) (by decide) (Nat.le_of_ble_eq_true rfl) (Nat.le_of_ble_eq_true rfl) dX3_init_15 (fun q1 H hP hD hS => ?_)
  have hP : va_P D vwCl [(h0, .inr (3, [.ref q0, .null, .null, .null, .null, .null, .null, .int 0, .int 0, .int 0, .null, .null, .null])), (q0, ic_i cI 8), (q1, ic_i cI 8)] H := hP
  have hD : va_D A [(h0, .inr (3, [.ref q0, .null, .null, .null, .null, .null, .null, .int 0, .int 0, .int 0, .null, .null, .null])), (q0, ic_i cI 8), (q1, ic_i cI 8)] := hD
  refine W.widen (k := 2) (n := 16) (by omega) (by omega) ?_
  refine va_putF (D := D) (ci := 3) (v := .ref q1) (ty := tyX3 1) (C := RX3) (T := TX3) (N := 13) hx hb hw ic_u3 tyX3 tyX3_ok nmX3 hown hK hP hD hS 0 rfl rfl 1 (by decide) (am_word hw icw_34) (fun _ h9 => h9) rfl hin rfl (by decide +kernel) rfl rfl (Nat.le_of_ble_eq_true rfl) dX3_init_17 (fun H locs hP hD hS => ?_)
  have hP : va_P D vwCl [(h0, .inr (3, [.ref q0, .ref q1, .null, .null, .null, .null, .null, .int 0, .int 0, .int 0, .null, .null, .null])), (q0, ic_i cI 8), (q1, ic_i cI 8)] H := hP
  have hD : va_D A [(h0, .inr (3, [.ref q0, .ref q1, .null, .null, .null, .null, .null, .int 0, .int 0, .int 0, .null, .null, .null])), (q0, ic_i cI 8), (q1, ic_i cI 8)] := hD
  refine lv_aload_n hx hb dX3_init_20 rfl (lv_at hl 0 rfl) ?_
  refine lv_bipush (v := nI 8) hx hb dX3_init_21 rfl ?_
  refine ic_newa (N := 8) hx hb hw hK hP hD hS hA (by decide +kernel) (by decide +kernel) (by decide) (Nat.le_of_ble_eq_true rfl) (Nat.le_of_ble_eq_true rfl) dX3_init_23 (fun q2 H hP hD hS => ?_)
  have hP : va_P D vwCl [(h0, .inr (3, [.ref q0, .ref q1, .null, .null, .null, .null, .null, .int 0, .int 0, .int 0, .null, .null, .null])), (q0, ic_i cI 8), (q1, ic_i cI 8), (q2, ic_i cI 8)] H := hP
  have hD : va_D A [(h0, .inr (3, [.ref q0, .ref q1, .null, .null, .null, .null, .null, .int 0, .int 0, .int 0, .null, .null, .null])), (q0, ic_i cI 8), (q1, ic_i cI 8), (q2, ic_i cI 8)] := hD
  refine W.widen (k := 3) (n := 24) (by omega) (by omega) ?_
  refine va_putF (D := D) (ci := 3) (v := .ref q2) (ty := tyX3 2) (C := RX3) (T := TX3) (N := 13) hx hb hw ic_u3 tyX3 tyX3_ok nmX3 hown hK hP hD hS 0 rfl rfl 2 (by decide) (am_word hw icw_35) (fun _ h9 => h9) rfl hin rfl (by decide +kernel) rfl rfl (Nat.le_of_ble_eq_true rfl) dX3_init_25 (fun H locs hP hD hS => ?_)
  have hP : va_P D vwCl [(h0, .inr (3, [.ref q0, .ref q1, .ref q2, .null, .null, .null, .null, .int 0, .int 0, .int 0, .null, .null, .null])), (q0, ic_i cI 8), (q1, ic_i cI 8), (q2, ic_i cI 8)] H := hP
  have hD : va_D A [(h0, .inr (3, [.ref q0, .ref q1, .ref q2, .null, .null, .null, .null, .int 0, .int 0, .int 0, .null, .null, .null])), (q0, ic_i cI 8), (q1, ic_i cI 8), (q2, ic_i cI 8)] := hD
  refine lv_aload_n hx hb dX3_init_28 rfl (lv_at hl 0 rfl) ?_
  refine lv_bipush (v := nI 8) hx hb dX3_init_29 rfl ?_
  refine ic_newa (N := 8) hx hb hw hK hP hD hS hA (by decide +kernel) (by decide +kernel) (by decide) (Nat.le_of_ble_eq_true rfl) (Nat.le_of_ble_eq_true rfl) dX3_init_31 (fun q3 H hP hD hS => ?_)
  have hP : va_P D vwCl [(h0, .inr (3, [.ref q0, .ref q1, .ref q2, .null, .null, .null, .null, .int 0, .int 0, .int 0, .null, .null, .null])), (q0, ic_i cI 8), (q1, ic_i cI 8), (q2, ic_i cI 8), (q3, ic_i cI 8)] H := hP
  have hD : va_D A [(h0, .inr (3, [.ref q0, .ref q1, .ref q2, .null, .null, .null, .null, .int 0, .int 0, .int 0, .null, .null, .null])), (q0, ic_i cI 8), (q1, ic_i cI 8), (q2, ic_i cI 8), (q3, ic_i cI 8)] := hD
  refine W.widen (k := 4) (n := 32) (by omega) (by omega) ?_
  refine va_putF (D := D) (ci := 3) (v := .ref q3) (ty := tyX3 3) (C := RX3) (T := TX3) (N := 13) hx hb hw ic_u3 tyX3 tyX3_ok nmX3 hown hK hP hD hS 0 rfl rfl 3 (by decide) (am_word hw icw_36) (fun _ h9 => h9) rfl hin rfl (by decide +kernel) rfl rfl (Nat.le_of_ble_eq_true rfl) dX3_init_33 (fun H locs hP hD hS => ?_)
  have hP : va_P D vwCl [(h0, .inr (3, [.ref q0, .ref q1, .ref q2, .ref q3, .null, .null, .null, .int 0, .int 0, .int 0, .null, .null, .null])), (q0, ic_i cI 8), (q1, ic_i cI 8), (q2, ic_i cI 8), (q3, ic_i cI 8)] H := hP
  have hD : va_D A [(h0, .inr (3, [.ref q0, .ref q1, .ref q2, .ref q3, .null, .null, .null, .int 0, .int 0, .int 0, .null, .null, .null])), (q0, ic_i cI 8), (q1, ic_i cI 8), (q2, ic_i cI 8), (q3, ic_i cI 8)] := hD
  refine lv_aload_n hx hb dX3_init_36 rfl (lv_at hl 0 rfl) ?_
  refine lv_bipush (v := nI 8) hx hb dX3_init_37 rfl ?_
  refine ic_newa (N := 8) hx hb hw hK hP hD hS hA (by decide +kernel) (by decide +kernel) (by decide) (Nat.le_of_ble_eq_true rfl) (Nat.le_of_ble_eq_true rfl) dX3_init_39 (fun q4 H hP hD hS => ?_)
  have hP : va_P D vwCl [(h0, .inr (3, [.ref q0, .ref q1, .ref q2, .ref q3, .null, .null, .null, .int 0, .int 0, .int 0, .null, .null, .null])), (q0, ic_i cI 8), (q1, ic_i cI 8), (q2, ic_i cI 8), (q3, ic_i cI 8), (q4, ic_i cI 8)] H := hP
  have hD : va_D A [(h0, .inr (3, [.ref q0, .ref q1, .ref q2, .ref q3, .null, .null, .null, .int 0, .int 0, .int 0, .null, .null, .null])), (q0, ic_i cI 8), (q1, ic_i cI 8), (q2, ic_i cI 8), (q3, ic_i cI 8), (q4, ic_i cI 8)] := hD
  refine W.widen (k := 5) (n := 40) (by omega) (by omega) ?_
  refine va_putF (D := D) (ci := 3) (v := .ref q4) (ty := tyX3 4) (C := RX3) (T := TX3) (N := 13) hx hb hw ic_u3 tyX3 tyX3_ok nmX3 hown hK hP hD hS 0 rfl rfl 4 (by decide) (am_word hw icw_37) (fun _ h9 => h9) rfl hin rfl (by decide +kernel) rfl rfl (Nat.le_of_ble_eq_true rfl) dX3_init_41 (fun H locs hP hD hS => ?_)
  have hP : va_P D vwCl [(h0, .inr (3, [.ref q0, .ref q1, .ref q2, .ref q3, .ref q4, .null, .null, .int 0, .int 0, .int 0, .null, .null, .null])), (q0, ic_i cI 8), (q1, ic_i cI 8), (q2, ic_i cI 8), (q3, ic_i cI 8), (q4, ic_i cI 8)] H := hP
  have hD : va_D A [(h0, .inr (3, [.ref q0, .ref q1, .ref q2, .ref q3, .ref q4, .null, .null, .int 0, .int 0, .int 0, .null, .null, .null])), (q0, ic_i cI 8), (q1, ic_i cI 8), (q2, ic_i cI 8), (q3, ic_i cI 8), (q4, ic_i cI 8)] := hD
  refine lv_aload_n hx hb dX3_init_44 rfl (lv_at hl 0 rfl) ?_
  refine lv_bipush (v := nI 8) hx hb dX3_init_45 rfl ?_
  refine ic_newa (N := 8) hx hb hw hK hP hD hS hA (by decide +kernel) (by decide +kernel) (by decide) (Nat.le_of_ble_eq_true rfl) (Nat.le_of_ble_eq_true rfl) dX3_init_47 (fun q5 H hP hD hS => ?_)
  have hP : va_P D vwCl [(h0, .inr (3, [.ref q0, .ref q1, .ref q2, .ref q3, .ref q4, .null, .null, .int 0, .int 0, .int 0, .null, .null, .null])), (q0, ic_i cI 8), (q1, ic_i cI 8), (q2, ic_i cI 8), (q3, ic_i cI 8), (q4, ic_i cI 8), (q5, ic_i cI 8)] H := hP
  have hD : va_D A [(h0, .inr (3, [.ref q0, .ref q1, .ref q2, .ref q3, .ref q4, .null, .null, .int 0, .int 0, .int 0, .null, .null, .null])), (q0, ic_i cI 8), (q1, ic_i cI 8), (q2, ic_i cI 8), (q3, ic_i cI 8), (q4, ic_i cI 8), (q5, ic_i cI 8)] := hD
  refine W.widen (k := 6) (n := 48) (by omega) (by omega) ?_
  refine va_putF (D := D) (ci := 3) (v := .ref q5) (ty := tyX3 5) (C := RX3) (T := TX3) (N := 13) hx hb hw ic_u3 tyX3 tyX3_ok nmX3 hown hK hP hD hS 0 rfl rfl 5 (by decide) (am_word hw icw_38) (fun _ h9 => h9) rfl hin rfl (by decide +kernel) rfl rfl (Nat.le_of_ble_eq_true rfl) dX3_init_49 (fun H locs hP hD hS => ?_)
  have hP : va_P D vwCl [(h0, .inr (3, [.ref q0, .ref q1, .ref q2, .ref q3, .ref q4, .ref q5, .null, .int 0, .int 0, .int 0, .null, .null, .null])), (q0, ic_i cI 8), (q1, ic_i cI 8), (q2, ic_i cI 8), (q3, ic_i cI 8), (q4, ic_i cI 8), (q5, ic_i cI 8)] H := hP
  have hD : va_D A [(h0, .inr (3, [.ref q0, .ref q1, .ref q2, .ref q3, .ref q4, .ref q5, .null, .int 0, .int 0, .int 0, .null, .null, .null])), (q0, ic_i cI 8), (q1, ic_i cI 8), (q2, ic_i cI 8), (q3, ic_i cI 8), (q4, ic_i cI 8), (q5, ic_i cI 8)] := hD
  refine lv_aload_n hx hb dX3_init_52 rfl (lv_at hl 0 rfl) ?_
  refine lv_bipush (v := nI 10) hx hb dX3_init_53 rfl ?_
  refine ic_newa (N := 10) hx hb hw hK hP hD hS hA (by decide +kernel) (by decide +kernel) (by decide) (Nat.le_of_ble_eq_true rfl) (Nat.le_of_ble_eq_true rfl) dX3_init_55 (fun q6 H hP hD hS => ?_)
  have hP : va_P D vwCl [(h0, .inr (3, [.ref q0, .ref q1, .ref q2, .ref q3, .ref q4, .ref q5, .null, .int 0, .int 0, .int 0, .null, .null, .null])), (q0, ic_i cI 8), (q1, ic_i cI 8), (q2, ic_i cI 8), (q3, ic_i cI 8), (q4, ic_i cI 8), (q5, ic_i cI 8), (q6, ic_i cI 10)] H := hP
  have hD : va_D A [(h0, .inr (3, [.ref q0, .ref q1, .ref q2, .ref q3, .ref q4, .ref q5, .null, .int 0, .int 0, .int 0, .null, .null, .null])), (q0, ic_i cI 8), (q1, ic_i cI 8), (q2, ic_i cI 8), (q3, ic_i cI 8), (q4, ic_i cI 8), (q5, ic_i cI 8), (q6, ic_i cI 10)] := hD
  refine W.widen (k := 7) (n := 58) (by omega) (by omega) ?_
  refine va_putF (D := D) (ci := 3) (v := .ref q6) (ty := tyX3 6) (C := RX3) (T := TX3) (N := 13) hx hb hw ic_u3 tyX3 tyX3_ok nmX3 hown hK hP hD hS 0 rfl rfl 6 (by decide) (am_word hw icw_39) (fun _ h9 => h9) rfl hin rfl (by decide +kernel) rfl rfl (Nat.le_of_ble_eq_true rfl) dX3_init_57 (fun H locs hP hD hS => ?_)
  have hP : va_P D vwCl [(h0, .inr (3, [.ref q0, .ref q1, .ref q2, .ref q3, .ref q4, .ref q5, .ref q6, .int 0, .int 0, .int 0, .null, .null, .null])), (q0, ic_i cI 8), (q1, ic_i cI 8), (q2, ic_i cI 8), (q3, ic_i cI 8), (q4, ic_i cI 8), (q5, ic_i cI 8), (q6, ic_i cI 10)] H := hP
  have hD : va_D A [(h0, .inr (3, [.ref q0, .ref q1, .ref q2, .ref q3, .ref q4, .ref q5, .ref q6, .int 0, .int 0, .int 0, .null, .null, .null])), (q0, ic_i cI 8), (q1, ic_i cI 8), (q2, ic_i cI 8), (q3, ic_i cI 8), (q4, ic_i cI 8), (q5, ic_i cI 8), (q6, ic_i cI 10)] := hD
  refine lv_aload_n hx hb dX3_init_60 rfl (lv_at hl 0 rfl) ?_
  refine lv_bipush (v := nI 8) hx hb dX3_init_61 rfl ?_
  refine ic_newa (N := 8) hx hb hw hK hP hD hS hA (by decide +kernel) (by decide +kernel) (by decide) (Nat.le_of_ble_eq_true rfl) (Nat.le_of_ble_eq_true rfl) dX3_init_63 (fun q7 H hP hD hS => ?_)
  have hP : va_P D vwCl [(h0, .inr (3, [.ref q0, .ref q1, .ref q2, .ref q3, .ref q4, .ref q5, .ref q6, .int 0, .int 0, .int 0, .null, .null, .null])), (q0, ic_i cI 8), (q1, ic_i cI 8), (q2, ic_i cI 8), (q3, ic_i cI 8), (q4, ic_i cI 8), (q5, ic_i cI 8), (q6, ic_i cI 10), (q7, ic_i cI 8)] H := hP
  have hD : va_D A [(h0, .inr (3, [.ref q0, .ref q1, .ref q2, .ref q3, .ref q4, .ref q5, .ref q6, .int 0, .int 0, .int 0, .null, .null, .null])), (q0, ic_i cI 8), (q1, ic_i cI 8), (q2, ic_i cI 8), (q3, ic_i cI 8), (q4, ic_i cI 8), (q5, ic_i cI 8), (q6, ic_i cI 10), (q7, ic_i cI 8)] := hD
  refine W.widen (k := 8) (n := 66) (by omega) (by omega) ?_
  refine va_putF (D := D) (ci := 3) (v := .ref q7) (ty := tyX3 10) (C := RX3) (T := TX3) (N := 13) hx hb hw ic_u3 tyX3 tyX3_ok nmX3 hown hK hP hD hS 0 rfl rfl 10 (by decide) (am_word hw icw_40) (fun _ h9 => h9) rfl hin rfl (by decide +kernel) rfl rfl (Nat.le_of_ble_eq_true rfl) dX3_init_65 (fun H locs hP hD hS => ?_)
  have hP : va_P D vwCl [(h0, .inr (3, [.ref q0, .ref q1, .ref q2, .ref q3, .ref q4, .ref q5, .ref q6, .int 0, .int 0, .int 0, .ref q7, .null, .null])), (q0, ic_i cI 8), (q1, ic_i cI 8), (q2, ic_i cI 8), (q3, ic_i cI 8), (q4, ic_i cI 8), (q5, ic_i cI 8), (q6, ic_i cI 10), (q7, ic_i cI 8)] H := hP
  have hD : va_D A [(h0, .inr (3, [.ref q0, .ref q1, .ref q2, .ref q3, .ref q4, .ref q5, .ref q6, .int 0, .int 0, .int 0, .ref q7, .null, .null])), (q0, ic_i cI 8), (q1, ic_i cI 8), (q2, ic_i cI 8), (q3, ic_i cI 8), (q4, ic_i cI 8), (q5, ic_i cI 8), (q6, ic_i cI 10), (q7, ic_i cI 8)] := hD
  refine lv_aload_n hx hb dX3_init_68 rfl (lv_at hl 0 rfl) ?_
  refine lv_bipush (v := nI 8) hx hb dX3_init_69 rfl ?_
  refine ic_newa (N := 8) hx hb hw hK hP hD hS hA (by decide +kernel) (by decide +kernel) (by decide) (Nat.le_of_ble_eq_true rfl) (Nat.le_of_ble_eq_true rfl) dX3_init_71 (fun q8 H hP hD hS => ?_)
  have hP : va_P D vwCl [(h0, .inr (3, [.ref q0, .ref q1, .ref q2, .ref q3, .ref q4, .ref q5, .ref q6, .int 0, .int 0, .int 0, .ref q7, .null, .null])), (q0, ic_i cI 8), (q1, ic_i cI 8), (q2, ic_i cI 8), (q3, ic_i cI 8), (q4, ic_i cI 8), (q5, ic_i cI 8), (q6, ic_i cI 10), (q7, ic_i cI 8), (q8, ic_i cI 8)] H := hP
  have hD : va_D A [(h0, .inr (3, [.ref q0, .ref q1, .ref q2, .ref q3, .ref q4, .ref q5, .ref q6, .int 0, .int 0, .int 0, .ref q7, .null, .null])), (q0, ic_i cI 8), (q1, ic_i cI 8), (q2, ic_i cI 8), (q3, ic_i cI 8), (q4, ic_i cI 8), (q5, ic_i cI 8), (q6, ic_i cI 10), (q7, ic_i cI 8), (q8, ic_i cI 8)] := hD
  refine W.widen (k := 9) (n := 74) (by omega) (by omega) ?_
  refine va_putF (D := D) (ci := 3) (v := .ref q8) (ty := tyX3 11) (C := RX3) (T := TX3) (N := 13) hx hb hw ic_u3 tyX3 tyX3_ok nmX3 hown hK hP hD hS 0 rfl rfl 11 (by decide) (am_word hw icw_41) (fun _ h9 => h9) rfl hin rfl (by decide +kernel) rfl rfl (Nat.le_of_ble_eq_true rfl) dX3_init_73 (fun H locs hP hD hS => ?_)
  have hP : va_P D vwCl [(h0, .inr (3, [.ref q0, .ref q1, .ref q2, .ref q3, .ref q4, .ref q5, .ref q6, .int 0, .int 0, .int 0, .ref q7, .ref q8, .null])), (q0, ic_i cI 8), (q1, ic_i cI 8), (q2, ic_i cI 8), (q3, ic_i cI 8), (q4, ic_i cI 8), (q5, ic_i cI 8), (q6, ic_i cI 10), (q7, ic_i cI 8), (q8, ic_i cI 8)] H := hP
  have hD : va_D A [(h0, .inr (3, [.ref q0, .ref q1, .ref q2, .ref q3, .ref q4, .ref q5, .ref q6, .int 0, .int 0, .int 0, .ref q7, .ref q8, .null])), (q0, ic_i cI 8), (q1, ic_i cI 8), (q2, ic_i cI 8), (q3, ic_i cI 8), (q4, ic_i cI 8), (q5, ic_i cI 8), (q6, ic_i cI 10), (q7, ic_i cI 8), (q8, ic_i cI 8)] := hD
  refine lv_aload_n hx hb dX3_init_76 rfl (lv_at hl 0 rfl) ?_
  refine lv_bipush (v := nI 8) hx hb dX3_init_77 rfl ?_
  refine ic_newa (N := 8) hx hb hw hK hP hD hS hA (by decide +kernel) (by decide +kernel) (by decide) (Nat.le_of_ble_eq_true rfl) (Nat.le_of_ble_eq_true rfl) dX3_init_79 (fun q9 H hP hD hS => ?_)
  have hP : va_P D vwCl [(h0, .inr (3, [.ref q0, .ref q1, .ref q2, .ref q3, .ref q4, .ref q5, .ref q6, .int 0, .int 0, .int 0, .ref q7, .ref q8, .null])), (q0, ic_i cI 8), (q1, ic_i cI 8), (q2, ic_i cI 8), (q3, ic_i cI 8), (q4, ic_i cI 8), (q5, ic_i cI 8), (q6, ic_i cI 10), (q7, ic_i cI 8), (q8, ic_i cI 8), (q9, ic_i cI 8)] H := hP
  have hD : va_D A [(h0, .inr (3, [.ref q0, .ref q1, .ref q2, .ref q3, .ref q4, .ref q5, .ref q6, .int 0, .int 0, .int 0, .ref q7, .ref q8, .null])), (q0, ic_i cI 8), (q1, ic_i cI 8), (q2, ic_i cI 8), (q3, ic_i cI 8), (q4, ic_i cI 8), (q5, ic_i cI 8), (q6, ic_i cI 10), (q7, ic_i cI 8), (q8, ic_i cI 8), (q9, ic_i cI 8)] := hD
  refine W.widen (k := 10) (n := 82) (by omega) (by omega) ?_
  refine va_putF (D := D) (ci := 3) (v := .ref q9) (ty := tyX3 12) (C := RX3) (T := TX3) (N := 13) hx hb hw ic_u3 tyX3 tyX3_ok nmX3 hown hK hP hD hS 0 rfl rfl 12 (by decide) (am_word hw icw_42) (fun _ h9 => h9) rfl hin rfl (by decide +kernel) rfl rfl (Nat.le_of_ble_eq_true rfl) dX3_init_81 (fun H locs hP hD hS => ?_)
  have hP : va_P D vwCl [(h0, .inr (3, [.ref q0, .ref q1, .ref q2, .ref q3, .ref q4, .ref q5, .ref q6, .int 0, .int 0, .int 0, .ref q7, .ref q8, .ref q9])), (q0, ic_i cI 8), (q1, ic_i cI 8), (q2, ic_i cI 8), (q3, ic_i cI 8), (q4, ic_i cI 8), (q5, ic_i cI 8), (q6, ic_i cI 10), (q7, ic_i cI 8), (q8, ic_i cI 8), (q9, ic_i cI 8)] H := hP
  have hD : va_D A [(h0, .inr (3, [.ref q0, .ref q1, .ref q2, .ref q3, .ref q4, .ref q5, .ref q6, .int 0, .int 0, .int 0, .ref q7, .ref q8, .ref q9])), (q0, ic_i cI 8), (q1, ic_i cI 8), (q2, ic_i cI 8), (q3, ic_i cI 8), (q4, ic_i cI 8), (q5, ic_i cI 8), (q6, ic_i cI 10), (q7, ic_i cI 8), (q8, ic_i cI 8), (q9, ic_i cI 8)] := hD
  refine lv_aload_n hx hb dX3_init_84 rfl (lv_at hl 0 rfl) ?_
  refine va_get (D := D) (ci := 3) (v := .ref q0) (C := RX3) (T := TX3) (N := 13) hx hb hw ic_u3 hown hK hP 0 rfl rfl 0 (by decide) (am_word hw icw_33) (fun _ h9 => h9) rfl dX3_init_85 ?_
  refine lv_bipush (v := nI 10) hx hb dX3_init_88 rfl ?_
  have hPc := hP.sub (ws' := [(q0, ic_i cI 8)]) [1] rfl
  have hDc := hD.sub (ws' := [(q0, ic_i cI 8)]) [1] (by decide) rfl
  have hFc := va_free (wc := [(q0, ic_i cI 8)]) hD hS hA [1] rfl
  refine va_callv (va_runS (As := [.ref q0, .int (nI 10)]) (rest := []) ⟨hx, hb, hml, hown, hw⟩ (ic_fill l D cI cR cS q0 H.size 8 (by decide) (nI 10)) (va_cwS 2 hw (am_goodin ic_inS) rfl rfl rfl ⟨by decide +kernel, by decide +kernel, by decide +kernel⟩ ⟨Nat.le_of_ble_eq_true rfl, Nat.le_of_ble_eq_true rfl⟩) ⟨ic_blind, fun U hU hW => ⟨rfl, by rw [hU], by rw [hU]; exact hPc, va_K.moved hW.alike hK, hDc.weaken (fun _ _ _ _ => trivial), hE.warm hW⟩⟩ rfl rfl hl.1 rfl (lv_room (Nat.le_of_ble_eq_true rfl)) dX3_init_90 ⟨Nat.le_of_ble_eq_true rfl, Nat.le_of_ble_eq_true rfl⟩) hS (fun q _ h => hFc q h) hFc (fun u10 t H1 locs ht hvm h5 hB hz1 hk1 hS => ?_)
  obtain ⟨hP1, hD1⟩ := hB
  rw [ht] at hP1
  obtain ⟨hP, hD⟩ := va_join (wr := [(h0, .inr (3, [.ref q0, .ref q1, .ref q2, .ref q3, .ref q4, .ref q5, .ref q6, .int 0, .int 0, .int 0, .ref q7, .ref q8, .ref q9])), (q1, ic_i cI 8), (q2, ic_i cI 8), (q3, ic_i cI 8), (q4, ic_i cI 8), (q5, ic_i cI 8), (q6, ic_i cI 10), (q7, ic_i cI 8), (q8, ic_i cI 8), (q9, ic_i cI 8)]) (w1 := [(q0, ic_f cI 8 (nI 10))]) hP hD [1] [0, 2, 3, 4, 5, 6, 7, 8, 9, 10] rfl rfl (by decide) (by decide) hk1 hFc hP1 hD1
  generalize H1 = H at hP hS ⊢
  have hP : va_P D vwCl [(h0, .inr (3, [.ref q0, .ref q1, .ref q2, .ref q3, .ref q4, .ref q5, .ref q6, .int 0, .int 0, .int 0, .ref q7, .ref q8, .ref q9])), (q1, ic_i cI 8), (q2, ic_i cI 8), (q3, ic_i cI 8), (q4, ic_i cI 8), (q5, ic_i cI 8), (q6, ic_i cI 10), (q7, ic_i cI 8), (q8, ic_i cI 8), (q9, ic_i cI 8), (q0, ic_f cI 8 (nI 10))] H := hP
  have hD : va_D A [(h0, .inr (3, [.ref q0, .ref q1, .ref q2, .ref q3, .ref q4, .ref q5, .ref q6, .int 0, .int 0, .int 0, .ref q7, .ref q8, .ref q9])), (q1, ic_i cI 8), (q2, ic_i cI 8), (q3, ic_i cI 8), (q4, ic_i cI 8), (q5, ic_i cI 8), (q6, ic_i cI 10), (q7, ic_i cI 8), (q8, ic_i cI 8), (q9, ic_i cI 8), (q0, ic_f cI 8 (nI 10))] := hD
  refine W.widen (k := 10) (n := 82) (by omega) (by omega) ?_
  refine lv_aload_n hx hb dX3_init_93 rfl (lv_at hl 0 rfl) ?_
  refine va_get (D := D) (ci := 3) (v := .ref q6) (C := RX3) (T := TX3) (N := 13) hx hb hw ic_u3 hown hK hP 0 rfl rfl 6 (by decide) (am_word hw icw_39) (fun _ h9 => h9) rfl dX3_init_94 ?_
  refine lv_iconst (v := (-1)) hx hb dX3_init_97 rfl ?_
  have hPc := hP.sub (ws' := [(q6, ic_i cI 10)]) [6] rfl
  have hDc := hD.sub (ws' := [(q6, ic_i cI 10)]) [6] (by decide) rfl
  have hFc := va_free (wc := [(q6, ic_i cI 10)]) hD hS hA [6] rfl
  refine va_callv (va_runS (As := [.ref q6, .int ((-1))]) (rest := []) ⟨hx, hb, hml, hown, hw⟩ (ic_fill l D cI cR cS q6 H.size 10 (by decide) ((-1))) (va_cwS 2 hw (am_goodin ic_inS) rfl rfl rfl ⟨by decide +kernel, by decide +kernel, by decide +kernel⟩ ⟨Nat.le_of_ble_eq_true rfl, Nat.le_of_ble_eq_true rfl⟩) ⟨ic_blind, fun U hU hW => ⟨rfl, by rw [hU], by rw [hU]; exact hPc, va_K.moved hW.alike hK, hDc.weaken (fun _ _ _ _ => trivial), hE.warm hW⟩⟩ rfl rfl hl.1 rfl (lv_room (Nat.le_of_ble_eq_true rfl)) dX3_init_98 ⟨Nat.le_of_ble_eq_true rfl, Nat.le_of_ble_eq_true rfl⟩) hS (fun q _ h => hFc q h) hFc (fun u11 t H1 locs ht hvm h5 hB hz1 hk1 hS => ?_)
  obtain ⟨hP1, hD1⟩ := hB
  rw [ht] at hP1
  obtain ⟨hP, hD⟩ := va_join (wr := [(h0, .inr (3, [.ref q0, .ref q1, .ref q2, .ref q3, .ref q4, .ref q5, .ref q6, .int 0, .int 0, .int 0, .ref q7, .ref q8, .ref q9])), (q1, ic_i cI 8), (q2, ic_i cI 8), (q3, ic_i cI 8), (q4, ic_i cI 8), (q5, ic_i cI 8), (q7, ic_i cI 8), (q8, ic_i cI 8), (q9, ic_i cI 8), (q0, ic_f cI 8 (nI 10))]) (w1 := [(q6, ic_f cI 10 ((-1)))]) hP hD [6] [0, 1, 2, 3, 4, 5, 7, 8, 9, 10] rfl rfl (by decide) (by decide) hk1 hFc hP1 hD1
  generalize H1 = H at hP hS ⊢
  have hP : va_P D vwCl [(h0, .inr (3, [.ref q0, .ref q1, .ref q2, .ref q3, .ref q4, .ref q5, .ref q6, .int 0, .int 0, .int 0, .ref q7, .ref q8, .ref q9])), (q1, ic_i cI 8), (q2, ic_i cI 8), (q3, ic_i cI 8), (q4, ic_i cI 8), (q5, ic_i cI 8), (q7, ic_i cI 8), (q8, ic_i cI 8), (q9, ic_i cI 8), (q0, ic_f cI 8 (nI 10)), (q6, ic_f cI 10 ((-1)))] H := hP
  have hD : va_D A [(h0, .inr (3, [.ref q0, .ref q1, .ref q2, .ref q3, .ref q4, .ref q5, .ref q6, .int 0, .int 0, .int 0, .ref q7, .ref q8, .ref q9])), (q1, ic_i cI 8), (q2, ic_i cI 8), (q3, ic_i cI 8), (q4, ic_i cI 8), (q5, ic_i cI 8), (q7, ic_i cI 8), (q8, ic_i cI 8), (q9, ic_i cI 8), (q0, ic_f cI 8 (nI 10)), (q6, ic_f cI 10 ((-1)))] := hD
  refine W.widen (k := 10) (n := 82) (by omega) (by omega) ?_
  refine lv_aload_n hx hb dX3_init_101 rfl (lv_at hl 0 rfl) ?_
  refine lv_iconst (v := nI 0) hx hb dX3_init_102 rfl ?_
  refine va_put (D := D) (ci := 3) (v := .int (nI 0)) (ty := tyX3 7) (C := RX3) (T := TX3) (N := 13) hx hb hw ic_u3 tyX3 tyX3_ok nmX3 hown hK hP hD hS 0 rfl rfl 7 (by decide) (am_word hw icw_43) (fun _ h9 => h9) rfl (by decide +kernel) rfl rfl (Nat.le_of_ble_eq_true rfl) dX3_init_103 (fun H locs hP hD hS => ?_)
  have hP : va_P D vwCl [(h0, .inr (3, [.ref q0, .ref q1, .ref q2, .ref q3, .ref q4, .ref q5, .ref q6, .int (nI 0), .int 0, .int 0, .ref q7, .ref q8, .ref q9])), (q1, ic_i cI 8), (q2, ic_i cI 8), (q3, ic_i cI 8), (q4, ic_i cI 8), (q5, ic_i cI 8), (q7, ic_i cI 8), (q8, ic_i cI 8), (q9, ic_i cI 8), (q0, ic_f cI 8 (nI 10)), (q6, ic_f cI 10 ((-1)))] H := hP
  have hD : va_D A [(h0, .inr (3, [.ref q0, .ref q1, .ref q2, .ref q3, .ref q4, .ref q5, .ref q6, .int (nI 0), .int 0, .int 0, .ref q7, .ref q8, .ref q9])), (q1, ic_i cI 8), (q2, ic_i cI 8), (q3, ic_i cI 8), (q4, ic_i cI 8), (q5, ic_i cI 8), (q7, ic_i cI 8), (q8, ic_i cI 8), (q9, ic_i cI 8), (q0, ic_f cI 8 (nI 10)), (q6, ic_f cI 10 ((-1)))] := hD
  refine lv_aload_n hx hb dX3_init_106 rfl (lv_at hl 0 rfl) ?_
  refine lv_iconst (v := nI 0) hx hb dX3_init_107 rfl ?_
  refine va_put (D := D) (ci := 3) (v := .int (nI 0)) (ty := tyX3 8) (C := RX3) (T := TX3) (N := 13) hx hb hw ic_u3 tyX3 tyX3_ok nmX3 hown hK hP hD hS 0 rfl rfl 8 (by decide) (am_word hw icw_44) (fun _ h9 => h9) rfl (by decide +kernel) rfl rfl (Nat.le_of_ble_eq_true rfl) dX3_init_108 (fun H locs hP hD hS => ?_)
  have hP : va_P D vwCl [(h0, .inr (3, [.ref q0, .ref q1, .ref q2, .ref q3, .ref q4, .ref q5, .ref q6, .int (nI 0), .int (nI 0), .int 0, .ref q7, .ref q8, .ref q9])), (q1, ic_i cI 8), (q2, ic_i cI 8), (q3, ic_i cI 8), (q4, ic_i cI 8), (q5, ic_i cI 8), (q7, ic_i cI 8), (q8, ic_i cI 8), (q9, ic_i cI 8), (q0, ic_f cI 8 (nI 10)), (q6, ic_f cI 10 ((-1)))] H := hP
  have hD : va_D A [(h0, .inr (3, [.ref q0, .ref q1, .ref q2, .ref q3, .ref q4, .ref q5, .ref q6, .int (nI 0), .int (nI 0), .int 0, .ref q7, .ref q8, .ref q9])), (q1, ic_i cI 8), (q2, ic_i cI 8), (q3, ic_i cI 8), (q4, ic_i cI 8), (q5, ic_i cI 8), (q7, ic_i cI 8), (q8, ic_i cI 8), (q9, ic_i cI 8), (q0, ic_f cI 8 (nI 10)), (q6, ic_f cI 10 ((-1)))] := hD
  refine lv_aload_n hx hb dX3_init_111 rfl (lv_at hl 0 rfl) ?_
  refine lv_iconst (v := nI 1) hx hb dX3_init_112 rfl ?_
  refine va_put (D := D) (ci := 3) (v := .int (nI 1)) (ty := tyX3 9) (C := RX3) (T := TX3) (N := 13) hx hb hw ic_u3 tyX3 tyX3_ok nmX3 hown hK hP hD hS 0 rfl rfl 9 (by decide) (am_word hw icw_45) (fun _ h9 => h9) rfl (by decide +kernel) rfl rfl (Nat.le_of_ble_eq_true rfl) dX3_init_113 (fun H locs hP hD hS => ?_)
  have hP : va_P D vwCl [(h0, .inr (3, [.ref q0, .ref q1, .ref q2, .ref q3, .ref q4, .ref q5, .ref q6, .int (nI 0), .int (nI 0), .int (nI 1), .ref q7, .ref q8, .ref q9])), (q1, ic_i cI 8), (q2, ic_i cI 8), (q3, ic_i cI 8), (q4, ic_i cI 8), (q5, ic_i cI 8), (q7, ic_i cI 8), (q8, ic_i cI 8), (q9, ic_i cI 8), (q0, ic_f cI 8 (nI 10)), (q6, ic_f cI 10 ((-1)))] H := hP
  have hD : va_D A [(h0, .inr (3, [.ref q0, .ref q1, .ref q2, .ref q3, .ref q4, .ref q5, .ref q6, .int (nI 0), .int (nI 0), .int (nI 1), .ref q7, .ref q8, .ref q9])), (q1, ic_i cI 8), (q2, ic_i cI 8), (q3, ic_i cI 8), (q4, ic_i cI 8), (q5, ic_i cI 8), (q7, ic_i cI 8), (q8, ic_i cI 8), (q9, ic_i cI 8), (q0, ic_f cI 8 (nI 10)), (q6, ic_f cI 10 ((-1)))] := hD
  have hP := hP.sub (ws' := [(h0, .inr (3, [.ref q0, .ref q1, .ref q2, .ref q3, .ref q4, .ref q5, .ref q6, .int (nI 0), .int (nI 0), .int (nI 1), .ref q7, .ref q8, .ref q9])), (q0, ic_f cI 8 (nI 10)), (q1, ic_i cI 8), (q2, ic_i cI 8), (q3, ic_i cI 8), (q4, ic_i cI 8), (q5, ic_i cI 8), (q6, ic_f cI 10 ((-1))), (q7, ic_i cI 8), (q8, ic_i cI 8), (q9, ic_i cI 8)]) [0, 9, 1, 2, 3, 4, 5, 10, 6, 7, 8] rfl
  have hD := hD.sub (ws' := [(h0, .inr (3, [.ref q0, .ref q1, .ref q2, .ref q3, .ref q4, .ref q5, .ref q6, .int (nI 0), .int (nI 0), .int (nI 1), .ref q7, .ref q8, .ref q9])), (q0, ic_f cI 8 (nI 10)), (q1, ic_i cI 8), (q2, ic_i cI 8), (q3, ic_i cI 8), (q4, ic_i cI 8), (q5, ic_i cI 8), (q6, ic_f cI 10 ((-1))), (q7, ic_i cI 8), (q8, ic_i cI 8), (q9, ic_i cI 8)]) [0, 9, 1, 2, 3, 4, 5, 10, 6, 7, 8] (by decide) rfl
  exact W.vret hx hb hr (fun t ht hW => ⟨⟨fun i => [q0, q1, q2, q3, q4, q5, q6, q7, q8, q9].getD i 0, rfl, trivial, by rw [ht]; exact hP, hD⟩, hS.F ht⟩) hS.2.2 dX3_init_116
