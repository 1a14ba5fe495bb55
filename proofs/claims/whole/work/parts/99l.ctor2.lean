/-! ===== the constructors: reader ===== -/
set_option maxHeartbeats 8000000 in
set_option maxRecDepth 100000 in
theorem ic_X2 (l : Launch) (D : va_G) (cI cR cS : ClassId) (h0 sz : Nat) : Met l yX2_init (ic_ws yX2_init cX2_init 1) { frames := 2, cells := 13, slots := 221, locals := 43 } (va_Pc [.ref h0] (ic_pre D cI cR cS [(h0, .inr (2, [.null, .null, .int 0, .int 0]))] sz)) (ic_Q D (fun u => [(h0, .inr (2, [.ref (u 0), .ref (u 2), .int 0, .int 0])), (u 0, .inr (1, [.ref (u 1), .int 0, .int 0, .int 0, .int 0, .int 0])), (u 1, ic_i cI 120), (u 2, .inr (3, [.ref (u 3), .ref (u 4), .ref (u 5), .ref (u 6), .ref (u 7), .ref (u 8), .ref (u 9), .int (nI 0), .int (nI 0), .int (nI 1), .ref (u 10), .ref (u 11), .ref (u 12)])), (u 3, ic_f cI 8 (nI 10)), (u 4, ic_i cI 8), (u 5, ic_i cI 8), (u 6, ic_i cI 8), (u 7, ic_i cI 8), (u 8, ic_i cI 8), (u 9, ic_f cI 10 (-1)), (u 10, ic_i cI 8), (u 11, ic_i cI 8), (u 12, ic_i cI 8)]) (va_A [(h0, .inr (2, [.null, .null, .int 0, .int 0]))] sz)) 13 221 (va_A [(h0, .inr (2, [.null, .null, .int 0, .int 0]))] sz) := by
  refine Met.ofW (cc := cX2_init) (maxL := 1) (ret := none) (by decide) rfl ?_
  intro p e s m args below meth c s₁ B hml hv
  obtain ⟨rfl, hsz, hP, hK, hD0, hE⟩ := hv
  have hx := B.exec
  have hb := B.bytes
  have hr := B.returns
  have hts := atoms_spec (ws := ic_ws yX2_init cX2_init 1) B.pre
  have hw : ∀ w ∈ wsL_law, w.before ([.ref h0] : List Value).toArray s = true := fun w h => hts w (List.mem_cons_of_mem _ h)
  have hown : s.vm.findClass RX2 = some m.cls := findClass_of_methodNamed B.named
  have hlocks := B.notSynchronized
  have hin : meth.name = "<init>" := (name_of_methodNamed B.named B.method).1
  subst hsz
  have hD := hD0.self (sz := s.heap.size)
  generalize hAe : va_A [(h0, .inr (2, [.null, .null, .int 0, .int 0]))] s.heap.size = A at hD ⊢
  have hA : ∀ q : Nat, s.heap.size ≤ q → A q := fun q h => by rw [← hAe]; exact Or.inr h
  have hS : va_S A s.heap s.heap [] := va_S.rf
  have hP : va_P D vwCl [(h0, .inr (2, [.null, .null, .int 0, .int 0]))] s.heap := hP
  have hl := lv_entry ([.ref h0]) (n := 1) (Nat.le_of_ble_eq_true rfl)
  rw [lg_entry_eq]
  generalize (lg_sl ([.ref h0]) ++ List.replicate (1 - (lg_sl ([.ref h0])).length) Slot.unset).toArray = ls at hl ⊢
  have hl : lv_has ls 1 [(0, .ref h0)] := hl
  refine lv_aload_n hx hb dX2_init_0 rfl (lv_at hl 0 rfl) ?_
  refine W.objInit hx hb hown (am_word hw icw_52) (am_word hw icw_10) (am_word hw icw_11) rfl (by rw [hml]; exact hl.1) rfl dX2_init_1 (Nat.le_of_ble_eq_true rfl) (Nat.le_of_ble_eq_true rfl) ?_
  refine W.eq (g2 := F0 m 4 ls []) rfl ?_
  refine lv_aload_n hx hb dX2_init_4 rfl (lv_at hl 0 rfl) ?_
  refine va_new (D := D) (ci := 1) (fs := [.null, .int 0, .int 0, .int 0, .int 0, .int 0]) (C := RX1) (T := TX1) (N := 6) hx hb hw ic_u1 tyX1 tyX1_ok hown (am_word hw icw_53) (am_word hw icw_54) (am_word hw icw_55) hK hP hD hS hA rfl ic_fs1 (Nat.le_of_ble_eq_true rfl) (Nat.le_of_ble_eq_true rfl) dX2_init_5 (fun q0 H hP hD hS => ?_)
  have hP : va_P D vwCl [(h0, .inr (2, [.null, .null, .int 0, .int 0])), (q0, .inr (1, [.null, .int 0, .int 0, .int 0, .int 0, .int 0]))] H := hP
  have hD : va_D A [(h0, .inr (2, [.null, .null, .int 0, .int 0])), (q0, .inr (1, [.null, .int 0, .int 0, .int 0, .int 0, .int 0]))] := hD
  refine W.widen (k := 1) (n := 6) (by omega) (by omega) ?_
  refine lv_dup hx hb dX2_init_8 rfl ?_
  have hPc := hP.sub (ws' := [(q0, .inr (1, [.null, .int 0, .int 0, .int 0, .int 0, .int 0]))]) [1] rfl
  have hDc := hD.sub (ws' := [(q0, .inr (1, [.null, .int 0, .int 0, .int 0, .int 0, .int 0]))]) [1] (by decide) rfl
  have hFc := va_free (wc := [(q0, .inr (1, [.null, .int 0, .int 0, .int 0, .int 0, .int 0]))]) hD hS hA [1] rfl
  refine va_callv (va_runIN (As := []) (rest := [.ref q0, .ref h0]) ⟨hx, hb, hml, hown, hw⟩ (ic_X1 l D cI cR cS q0 H.size) ⟨va_cnB 0 hw (am_goodin ic_in1) rfl rfl rfl (hE.1 (RX2, 11, yX1_init) (List.mem_of_getElem? (i := 2) rfl)) (am_word hw icw_55) ⟨by decide +kernel, by decide +kernel, by decide +kernel⟩ ⟨Nat.le_of_ble_eq_true rfl, Nat.le_of_ble_eq_true rfl⟩, rfl, (am_word hw icw_59)⟩ ⟨ic_blind, fun U hU hW => ⟨rfl, by rw [hU], by rw [hU]; exact hPc, va_K.moved hW.alike hK, hDc.weaken (fun _ _ _ _ => trivial), hE.warm hW⟩⟩ rfl rfl hl.1 rfl (lv_room (Nat.le_of_ble_eq_true rfl)) dX2_init_9 ⟨Nat.le_of_ble_eq_true rfl, Nat.le_of_ble_eq_true rfl⟩) hS (fun q _ h => hFc q h) hFc (fun u1 t H1 locs ht hvm h5 hB hz1 hk1 hS => ?_)
  obtain ⟨hP1, hD1⟩ := hB
  rw [ht] at hP1
  obtain ⟨hP, hD⟩ := va_join (wr := [(h0, .inr (2, [.null, .null, .int 0, .int 0]))]) (w1 := [(q0, .inr (1, [.ref (u1 0), .int 0, .int 0, .int 0, .int 0, .int 0])), (u1 0, ic_i cI 120)]) hP hD [1] [0] rfl rfl (by decide) (by decide) hk1 hFc hP1 hD1
  generalize H1 = H at hP hS ⊢
  have hP : va_P D vwCl [(h0, .inr (2, [.null, .null, .int 0, .int 0])), (q0, .inr (1, [.ref (u1 0), .int 0, .int 0, .int 0, .int 0, .int 0])), (u1 0, ic_i cI 120)] H := hP
  have hD : va_D A [(h0, .inr (2, [.null, .null, .int 0, .int 0])), (q0, .inr (1, [.ref (u1 0), .int 0, .int 0, .int 0, .int 0, .int 0])), (u1 0, ic_i cI 120)] := hD
  refine W.widen (k := 2) (n := 126) (by omega) (by omega) ?_
  refine va_putF (D := D) (ci := 2) (v := .ref q0) (ty := tyX2 0) (C := RX2) (T := TX2) (N := 4) hx hb hw ic_u2 tyX2 tyX2_ok nmX2 hown hK hP hD hS 0 rfl rfl 0 (by decide) (am_word hw icw_56) (fun _ h9 => h9) rfl hin rfl (by decide +kernel) rfl rfl (Nat.le_of_ble_eq_true rfl) dX2_init_12 (fun H locs hP hD hS => ?_)
  have hP : va_P D vwCl [(h0, .inr (2, [.ref q0, .null, .int 0, .int 0])), (q0, .inr (1, [.ref (u1 0), .int 0, .int 0, .int 0, .int 0, .int 0])), (u1 0, ic_i cI 120)] H := hP
  have hD : va_D A [(h0, .inr (2, [.ref q0, .null, .int 0, .int 0])), (q0, .inr (1, [.ref (u1 0), .int 0, .int 0, .int 0, .int 0, .int 0])), (u1 0, ic_i cI 120)] := hD
  refine lv_aload_n hx hb dX2_init_15 rfl (lv_at hl 0 rfl) ?_
  refine va_new (D := D) (ci := 3) (fs := [.null, .null, .null, .null, .null, .null, .null, .int 0, .int 0, .int 0, .null, .null, .null]) (C := RX3) (T := TX3) (N := 13) hx hb hw ic_u3 tyX3 tyX3_ok hown (am_word hw icw_57) (am_word hw icw_13) (am_word hw icw_14) hK hP hD hS hA rfl ic_fs3 (Nat.le_of_ble_eq_true rfl) (Nat.le_of_ble_eq_true rfl) dX2_init_16 (fun q2 H hP hD hS => ?_)
  have hP : va_P D vwCl [(h0, .inr (2, [.ref q0, .null, .int 0, .int 0])), (q0, .inr (1, [.ref (u1 0), .int 0, .int 0, .int 0, .int 0, .int 0])), (u1 0, ic_i cI 120), (q2, .inr (3, [.null, .null, .null, .null, .null, .null, .null, .int 0, .int 0, .int 0, .null, .null, .null]))] H := hP
  have hD : va_D A [(h0, .inr (2, [.ref q0, .null, .int 0, .int 0])), (q0, .inr (1, [.ref (u1 0), .int 0, .int 0, .int 0, .int 0, .int 0])), (u1 0, ic_i cI 120), (q2, .inr (3, [.null, .null, .null, .null, .null, .null, .null, .int 0, .int 0, .int 0, .null, .null, .null]))] := hD
  refine W.widen (k := 3) (n := 139) (by omega) (by omega) ?_
  refine lv_dup hx hb dX2_init_19 rfl ?_
  have hPc := hP.sub (ws' := [(q2, .inr (3, [.null, .null, .null, .null, .null, .null, .null, .int 0, .int 0, .int 0, .null, .null, .null]))]) [3] rfl
  have hDc := hD.sub (ws' := [(q2, .inr (3, [.null, .null, .null, .null, .null, .null, .null, .int 0, .int 0, .int 0, .null, .null, .null]))]) [3] (by decide) rfl
  have hFc := va_free (wc := [(q2, .inr (3, [.null, .null, .null, .null, .null, .null, .null, .int 0, .int 0, .int 0, .null, .null, .null]))]) hD hS hA [3] rfl
  refine va_callv (va_runI (As := []) (rest := [.ref q2, .ref h0]) ⟨hx, hb, hml, hown, hw⟩ (ic_X3 l D cI cR cS q2 H.size) (cwI 0 hw (am_goodin ic_in3) rfl rfl rfl (am_word hw icw_14) (am_word hw icw_63) (am_word hw icw_30) rfl (by decide +kernel) ⟨Nat.le_of_ble_eq_true rfl, Nat.le_of_ble_eq_true rfl⟩) ⟨ic_blind, fun U hU hW => ⟨rfl, by rw [hU], by rw [hU]; exact hPc, va_K.moved hW.alike hK, hDc.weaken (fun _ _ _ _ => trivial), hE.warm hW⟩⟩ rfl rfl hl.1 rfl (lv_room (Nat.le_of_ble_eq_true rfl)) dX2_init_20 ⟨Nat.le_of_ble_eq_true rfl, Nat.le_of_ble_eq_true rfl⟩) hS (fun q _ h => hFc q h) hFc (fun u3 t H1 locs ht hvm h5 hB hz1 hk1 hS => ?_)
  obtain ⟨hP1, hD1⟩ := hB
  rw [ht] at hP1
  obtain ⟨hP, hD⟩ := va_join (wr := [(h0, .inr (2, [.ref q0, .null, .int 0, .int 0])), (q0, .inr (1, [.ref (u1 0), .int 0, .int 0, .int 0, .int 0, .int 0])), (u1 0, ic_i cI 120)]) (w1 := [(q2, .inr (3, [.ref (u3 0), .ref (u3 1), .ref (u3 2), .ref (u3 3), .ref (u3 4), .ref (u3 5), .ref (u3 6), .int (nI 0), .int (nI 0), .int (nI 1), .ref (u3 7), .ref (u3 8), .ref (u3 9)])), (u3 0, ic_f cI 8 (nI 10)), (u3 1, ic_i cI 8), (u3 2, ic_i cI 8), (u3 3, ic_i cI 8), (u3 4, ic_i cI 8), (u3 5, ic_i cI 8), (u3 6, ic_f cI 10 (-1)), (u3 7, ic_i cI 8), (u3 8, ic_i cI 8), (u3 9, ic_i cI 8)]) hP hD [3] [0, 1, 2] rfl rfl (by decide) (by decide) hk1 hFc hP1 hD1
  generalize H1 = H at hP hS ⊢
  have hP : va_P D vwCl [(h0, .inr (2, [.ref q0, .null, .int 0, .int 0])), (q0, .inr (1, [.ref (u1 0), .int 0, .int 0, .int 0, .int 0, .int 0])), (u1 0, ic_i cI 120), (q2, .inr (3, [.ref (u3 0), .ref (u3 1), .ref (u3 2), .ref (u3 3), .ref (u3 4), .ref (u3 5), .ref (u3 6), .int (nI 0), .int (nI 0), .int (nI 1), .ref (u3 7), .ref (u3 8), .ref (u3 9)])), (u3 0, ic_f cI 8 (nI 10)), (u3 1, ic_i cI 8), (u3 2, ic_i cI 8), (u3 3, ic_i cI 8), (u3 4, ic_i cI 8), (u3 5, ic_i cI 8), (u3 6, ic_f cI 10 (-1)), (u3 7, ic_i cI 8), (u3 8, ic_i cI 8), (u3 9, ic_i cI 8)] H := hP
  have hD : va_D A [(h0, .inr (2, [.ref q0, .null, .int 0, .int 0])), (q0, .inr (1, [.ref (u1 0), .int 0, .int 0, .int 0, .int 0, .int 0])), (u1 0, ic_i cI 120), (q2, .inr (3, [.ref (u3 0), .ref (u3 1), .ref (u3 2), .ref (u3 3), .ref (u3 4), .ref (u3 5), .ref (u3 6), .int (nI 0), .int (nI 0), .int (nI 1), .ref (u3 7), .ref (u3 8), .ref (u3 9)])), (u3 0, ic_f cI 8 (nI 10)), (u3 1, ic_i cI 8), (u3 2, ic_i cI 8), (u3 3, ic_i cI 8), (u3 4, ic_i cI 8), (u3 5, ic_i cI 8), (u3 6, ic_f cI 10 (-1)), (u3 7, ic_i cI 8), (u3 8, ic_i cI 8), (u3 9, ic_i cI 8)] := hD
  refine W.widen (k := 13) (n := 221) (by omega) (by omega) ?_
  refine va_putF (D := D) (ci := 2) (v := .ref q2) (ty := tyX2 1) (C := RX2) (T := TX2) (N := 4) hx hb hw ic_u2 tyX2 tyX2_ok nmX2 hown hK hP hD hS 0 rfl rfl 1 (by decide) (am_word hw icw_58) (fun _ h9 => h9) rfl hin rfl (by decide +kernel) rfl rfl (Nat.le_of_ble_eq_true rfl) dX2_init_23 (fun H locs hP hD hS => ?_)
  have hP : va_P D vwCl [(h0, .inr (2, [.ref q0, .ref q2, .int 0, .int 0])), (q0, .inr (1, [.ref (u1 0), .int 0, .int 0, .int 0, .int 0, .int 0])), (u1 0, ic_i cI 120), (q2, .inr (3, [.ref (u3 0), .ref (u3 1), .ref (u3 2), .ref (u3 3), .ref (u3 4), .ref (u3 5), .ref (u3 6), .int (nI 0), .int (nI 0), .int (nI 1), .ref (u3 7), .ref (u3 8), .ref (u3 9)])), (u3 0, ic_f cI 8 (nI 10)), (u3 1, ic_i cI 8), (u3 2, ic_i cI 8), (u3 3, ic_i cI 8), (u3 4, ic_i cI 8), (u3 5, ic_i cI 8), (u3 6, ic_f cI 10 (-1)), (u3 7, ic_i cI 8), (u3 8, ic_i cI 8), (u3 9, ic_i cI 8)] H := hP
  have hD : va_D A [(h0, .inr (2, [.ref q0, .ref q2, .int 0, .int 0])), (q0, .inr (1, [.ref (u1 0), .int 0, .int 0, .int 0, .int 0, .int 0])), (u1 0, ic_i cI 120), (q2, .inr (3, [.ref (u3 0), .ref (u3 1), .ref (u3 2), .ref (u3 3), .ref (u3 4), .ref (u3 5), .ref (u3 6), .int (nI 0), .int (nI 0), .int (nI 1), .ref (u3 7), .ref (u3 8), .ref (u3 9)])), (u3 0, ic_f cI 8 (nI 10)), (u3 1, ic_i cI 8), (u3 2, ic_i cI 8), (u3 3, ic_i cI 8), (u3 4, ic_i cI 8), (u3 5, ic_i cI 8), (u3 6, ic_f cI 10 (-1)), (u3 7, ic_i cI 8), (u3 8, ic_i cI 8), (u3 9, ic_i cI 8)] := hD
  have hP := hP.sub (ws' := [(h0, .inr (2, [.ref q0, .ref q2, .int 0, .int 0])), (q0, .inr (1, [.ref (u1 0), .int 0, .int 0, .int 0, .int 0, .int 0])), (u1 0, ic_i cI 120), (q2, .inr (3, [.ref (u3 0), .ref (u3 1), .ref (u3 2), .ref (u3 3), .ref (u3 4), .ref (u3 5), .ref (u3 6), .int (nI 0), .int (nI 0), .int (nI 1), .ref (u3 7), .ref (u3 8), .ref (u3 9)])), (u3 0, ic_f cI 8 (nI 10)), (u3 1, ic_i cI 8), (u3 2, ic_i cI 8), (u3 3, ic_i cI 8), (u3 4, ic_i cI 8), (u3 5, ic_i cI 8), (u3 6, ic_f cI 10 (-1)), (u3 7, ic_i cI 8), (u3 8, ic_i cI 8), (u3 9, ic_i cI 8)]) [0, 1, 2, 3, 4, 5, 6, 7, 8, 9, 10, 11, 12, 13] rfl
  have hD := hD.sub (ws' := [(h0, .inr (2, [.ref q0, .ref q2, .int 0, .int 0])), (q0, .inr (1, [.ref (u1 0), .int 0, .int 0, .int 0, .int 0, .int 0])), (u1 0, ic_i cI 120), (q2, .inr (3, [.ref (u3 0), .ref (u3 1), .ref (u3 2), .ref (u3 3), .ref (u3 4), .ref (u3 5), .ref (u3 6), .int (nI 0), .int (nI 0), .int (nI 1), .ref (u3 7), .ref (u3 8), .ref (u3 9)])), (u3 0, ic_f cI 8 (nI 10)), (u3 1, ic_i cI 8), (u3 2, ic_i cI 8), (u3 3, ic_i cI 8), (u3 4, ic_i cI 8), (u3 5, ic_i cI 8), (u3 6, ic_f cI 10 (-1)), (u3 7, ic_i cI 8), (u3 8, ic_i cI 8), (u3 9, ic_i cI 8)]) [0, 1, 2, 3, 4, 5, 6, 7, 8, 9, 10, 11, 12, 13] (by decide) rfl
  exact W.vret hx hb hr (fun t ht hW => ⟨⟨fun i => [q0, u1 0, q2, u3 0, u3 1, u3 2, u3 3, u3 4, u3 5, u3 6, u3 7, u3 8, u3 9].getD i 0, rfl, trivial, by rw [ht]; exact hP, hD⟩, hS.F ht⟩) hS.2.2 dX2_init_26
