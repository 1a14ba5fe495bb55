def tt_pop (m : Nat) : Nat := m % 2 + m / 2 % 2 + m / 4 % 2 + m / 8 % 2 + m / 16 % 2 + m / 32 % 2 + m / 64 % 2 + m / 128 % 2
theorem tt_popstep0 : ∀ x, x < 256 → ¬ nI x = 0 → nI x &&& (nI x - nI 1) = nI (x &&& (x - 1)) ∧ (x &&& (x - 1)) < x ∧ tt_pop (x &&& (x - 1)) + 1 = tt_pop x := by decide +kernel
theorem tt_inb {x : Int32} {k : Nat} (hk : k < 2 ^ 31) (h : ¬ x < nI 0 ∧ ¬ nI k < x) : ∃ q : Nat, q ≤ k ∧ x = nI q := by
  obtain ⟨j, hj, e⟩ := nI_of (x := x) h.1
  refine ⟨j, ?_, e⟩
  have h2 := h.2
  rw [e] at h2
  exact Nat.not_lt.mp fun q => h2 ((nI_ltI hk hj).mpr q)
/-- a finding is told and counted -/
def tt_fnd (M : TS) (f : Nat) : TS := tt_set M 3 (upd (upd (M 3) (f + 1) (M 3 (f + 1) + 1)) 0 (M 3 0 + 1))
set_option maxRecDepth 100000 in
set_option maxHeartbeats 4000000 in
theorem c_X5_within (l : Launch) (ad : Nat → Nat) (D : va_G) (cI cR cS : ClassId) (v lo hi : Int32)  : tt_CI l yX5_within wsX5_within 0 0 ad D vwCl (tt_tys cI cR cS) [.int v, .int lo, .int hi] ([]) ([]) (if ¬ v < lo ∧ ¬ hi < v then 1 else 0) := by
  intro sz
  refine tt_of (cc := cX5_within) (maxL := 3) (ret := some .boolean) (Qc := fun A => tt_QI D vwCl ([]) A (if ¬ v < lo ∧ ¬ hi < v then 1 else 0)) (by decide +kernel) rfl (Nat.le_of_ble_eq_true rfl) ?_ sz
  clear sz
  intro p e s m below meth c A ls hx hb hr hlocks hml hown hts hK hP hD hS hA hE hl
  have hown : s.vm.findClass RX5 = some m.cls := hown
  have hl : lv_has ls 3 [(0, .int v), (1, .int lo), (2, .int hi)] := hl
  refine lv_iload_n hx hb dX5_within_0 rfl (lv_at hl 0 rfl) ?_
  refine lv_iload_n hx hb dX5_within_1 rfl (lv_at hl 1 rfl) ?_
  refine lv_icmp_lt (tgt := 14) hx hb dX5_within_2 (by decide) (fun c1 => ?_) (fun c1 => ?_)
  · refine lv_iconst (v := nI 0) hx hb dX5_within_14 (by decide) ?_
    exact tt_zret hx hb hr rfl (by simp [c1]) hP hS hlocks dX5_within_15
  · refine lv_iload_n hx hb dX5_within_5 rfl (lv_at hl 0 rfl) ?_
    refine lv_iload_n hx hb dX5_within_6 rfl (lv_at hl 2 rfl) ?_
    refine lv_icmp_gt (tgt := 14) hx hb dX5_within_7 (by decide) (fun c2 => ?_) (fun c2 => ?_)
    · refine lv_iconst (v := nI 0) hx hb dX5_within_14 (by decide) ?_
      exact tt_zret hx hb hr rfl (by simp [c1, c2]) hP hS hlocks dX5_within_15
    · refine lv_iconst (v := nI 1) hx hb dX5_within_10 (by decide) ?_
      refine lv_goto (tgt := 15) hx hb dX5_within_11 (by decide) ?_
      exact tt_zret hx hb hr rfl (by simp [c1, c2]) hP hS hlocks dX5_within_15

set_option maxRecDepth 100000 in
set_option maxHeartbeats 4000000 in
theorem c_X5_isPlace (l : Launch) (ad : Nat → Nat) (D : va_G) (cI cR cS : ClassId) (v : Int32)  : tt_CI l yX5_isPlace wsX5_isPlace 1 22 ad D vwCl (tt_tys cI cR cS) [.int v] ([]) ([]) (if ¬ v < nI 0 ∧ ¬ nI 7 < v then 1 else 0) := by
  intro sz
  refine tt_of (cc := cX5_isPlace) (maxL := 1) (ret := some .boolean) (Qc := fun A => tt_QI D vwCl ([]) A (if ¬ v < nI 0 ∧ ¬ nI 7 < v then 1 else 0)) (by decide +kernel) rfl (Nat.le_of_ble_eq_true rfl) ?_ sz
  clear sz
  intro p e s m below meth c A ls hx hb hr hlocks hml hown hts hK hP hD hS hA hE hl
  have hown : s.vm.findClass RX5 = some m.cls := hown
  have hl : lv_has ls 1 [(0, .int v)] := hl
  refine lv_iload_n hx hb dX5_isPlace_0 rfl (lv_at hl 0 rfl) ?_
  refine lv_iconst (v := nI 0) hx hb dX5_isPlace_1 (by decide) ?_
  refine lv_bipush (v := nI 7) hx hb dX5_isPlace_2 (by decide) ?_
  refine tt_callSi (As := [.int v, .int (nI 0), .int (nI 7)]) (rest := []) ⟨hx, hb, hml, hown, hts⟩ (c_X5_within l ad D cI cR cS v (nI 0) (nI 7)) (va_cwS 3 hts gX5_isPlace_X5_within rfl rfl rfl (by decide +kernel) ⟨Nat.le_of_ble_eq_true rfl, Nat.le_of_ble_eq_true rfl⟩) hK hP hD hS hA hE (tt_cut0 _) rfl hl.1 rfl (Nat.le_of_ble_eq_true rfl) dX5_isPlace_4 ⟨Nat.le_of_ble_eq_true rfl, Nat.le_of_ble_eq_true rfl⟩ (fun H locs hP hD hS => ?_)
  exact tt_zret hx hb hr (by split <;> rfl) (by simp []) hP hS hlocks dX5_isPlace_7

set_option maxRecDepth 100000 in
set_option maxHeartbeats 4000000 in
theorem c_X5_isPrize (l : Launch) (ad : Nat → Nat) (D : va_G) (cI cR cS : ClassId) (v : Int32)  : tt_CI l yX5_isPrize wsX5_isPrize 1 22 ad D vwCl (tt_tys cI cR cS) [.int v] ([]) ([]) (if ¬ v < nI 0 ∧ ¬ nI 9999 < v then 1 else 0) := by
  intro sz
  refine tt_of (cc := cX5_isPrize) (maxL := 1) (ret := some .boolean) (Qc := fun A => tt_QI D vwCl ([]) A (if ¬ v < nI 0 ∧ ¬ nI 9999 < v then 1 else 0)) (by decide +kernel) rfl (Nat.le_of_ble_eq_true rfl) ?_ sz
  clear sz
  intro p e s m below meth c A ls hx hb hr hlocks hml hown hts hK hP hD hS hA hE hl
  have hown : s.vm.findClass RX5 = some m.cls := hown
  have hl : lv_has ls 1 [(0, .int v)] := hl
  refine lv_iload_n hx hb dX5_isPrize_0 rfl (lv_at hl 0 rfl) ?_
  refine lv_iconst (v := nI 0) hx hb dX5_isPrize_1 (by decide) ?_
  refine lv_sipush (v := nI 9999) hx hb dX5_isPrize_2 (by decide) ?_
  refine tt_callSi (As := [.int v, .int (nI 0), .int (nI 9999)]) (rest := []) ⟨hx, hb, hml, hown, hts⟩ (c_X5_within l ad D cI cR cS v (nI 0) (nI 9999)) (va_cwS 3 hts gX5_isPrize_X5_within rfl rfl rfl (by decide +kernel) ⟨Nat.le_of_ble_eq_true rfl, Nat.le_of_ble_eq_true rfl⟩) hK hP hD hS hA hE (tt_cut0 _) rfl hl.1 rfl (Nat.le_of_ble_eq_true rfl) dX5_isPrize_5 ⟨Nat.le_of_ble_eq_true rfl, Nat.le_of_ble_eq_true rfl⟩ (fun H locs hP hD hS => ?_)
  exact tt_zret hx hb hr (by split <;> rfl) (by simp []) hP hS hlocks dX5_isPrize_8

set_option maxRecDepth 100000 in
set_option maxHeartbeats 4000000 in
theorem c_X5_isKind (l : Launch) (ad : Nat → Nat) (D : va_G) (cI cR cS : ClassId) (v : Int32)  : tt_CI l yX5_isKind wsX5_isKind 1 22 ad D vwCl (tt_tys cI cR cS) [.int v] ([]) ([]) (if ¬ v < nI 0 ∧ ¬ nI 6 < v then 1 else 0) := by
  intro sz
  refine tt_of (cc := cX5_isKind) (maxL := 1) (ret := some .boolean) (Qc := fun A => tt_QI D vwCl ([]) A (if ¬ v < nI 0 ∧ ¬ nI 6 < v then 1 else 0)) (by decide +kernel) rfl (Nat.le_of_ble_eq_true rfl) ?_ sz
  clear sz
  intro p e s m below meth c A ls hx hb hr hlocks hml hown hts hK hP hD hS hA hE hl
  have hown : s.vm.findClass RX5 = some m.cls := hown
  have hl : lv_has ls 1 [(0, .int v)] := hl
  refine lv_iload_n hx hb dX5_isKind_0 rfl (lv_at hl 0 rfl) ?_
  refine lv_iconst (v := nI 0) hx hb dX5_isKind_1 (by decide) ?_
  refine lv_bipush (v := nI 6) hx hb dX5_isKind_2 (by decide) ?_
  refine tt_callSi (As := [.int v, .int (nI 0), .int (nI 6)]) (rest := []) ⟨hx, hb, hml, hown, hts⟩ (c_X5_within l ad D cI cR cS v (nI 0) (nI 6)) (va_cwS 3 hts gX5_isKind_X5_within rfl rfl rfl (by decide +kernel) ⟨Nat.le_of_ble_eq_true rfl, Nat.le_of_ble_eq_true rfl⟩) hK hP hD hS hA hE (tt_cut0 _) rfl hl.1 rfl (Nat.le_of_ble_eq_true rfl) dX5_isKind_4 ⟨Nat.le_of_ble_eq_true rfl, Nat.le_of_ble_eq_true rfl⟩ (fun H locs hP hD hS => ?_)
  exact tt_zret hx hb hr (by split <;> rfl) (by simp []) hP hS hlocks dX5_isKind_7

set_option maxRecDepth 100000 in
set_option maxHeartbeats 4000000 in
theorem c_X5_isAhead (l : Launch) (ad : Nat → Nat) (D : va_G) (cI cR cS : ClassId) (v : Int32)  : tt_CI l yX5_isAhead wsX5_isAhead 1 22 ad D vwCl (tt_tys cI cR cS) [.int v] ([]) ([]) (if ¬ v < nI 0 ∧ ¬ nI 100 < v then 1 else 0) := by
  intro sz
  refine tt_of (cc := cX5_isAhead) (maxL := 1) (ret := some .boolean) (Qc := fun A => tt_QI D vwCl ([]) A (if ¬ v < nI 0 ∧ ¬ nI 100 < v then 1 else 0)) (by decide +kernel) rfl (Nat.le_of_ble_eq_true rfl) ?_ sz
  clear sz
  intro p e s m below meth c A ls hx hb hr hlocks hml hown hts hK hP hD hS hA hE hl
  have hown : s.vm.findClass RX5 = some m.cls := hown
  have hl : lv_has ls 1 [(0, .int v)] := hl
  refine lv_iload_n hx hb dX5_isAhead_0 rfl (lv_at hl 0 rfl) ?_
  refine lv_iconst (v := nI 0) hx hb dX5_isAhead_1 (by decide) ?_
  refine lv_bipush (v := nI 100) hx hb dX5_isAhead_2 (by decide) ?_
  refine tt_callSi (As := [.int v, .int (nI 0), .int (nI 100)]) (rest := []) ⟨hx, hb, hml, hown, hts⟩ (c_X5_within l ad D cI cR cS v (nI 0) (nI 100)) (va_cwS 3 hts gX5_isAhead_X5_within rfl rfl rfl (by decide +kernel) ⟨Nat.le_of_ble_eq_true rfl, Nat.le_of_ble_eq_true rfl⟩) hK hP hD hS hA hE (tt_cut0 _) rfl hl.1 rfl (Nat.le_of_ble_eq_true rfl) dX5_isAhead_4 ⟨Nat.le_of_ble_eq_true rfl, Nat.le_of_ble_eq_true rfl⟩ (fun H locs hP hD hS => ?_)
  exact tt_zret hx hb hr (by split <;> rfl) (by simp []) hP hS hlocks dX5_isAhead_7

set_option maxRecDepth 100000 in
set_option maxHeartbeats 4000000 in
theorem c_X5_isSpot (l : Launch) (ad : Nat → Nat) (D : va_G) (cI cR cS : ClassId) (v : Int32)  : tt_CI l yX5_isSpot wsX5_isSpot 1 22 ad D vwCl (tt_tys cI cR cS) [.int v] ([]) ([]) (if ¬ v < nI 0 ∧ ¬ nI 9 < v then 1 else 0) := by
  intro sz
  refine tt_of (cc := cX5_isSpot) (maxL := 1) (ret := some .boolean) (Qc := fun A => tt_QI D vwCl ([]) A (if ¬ v < nI 0 ∧ ¬ nI 9 < v then 1 else 0)) (by decide +kernel) rfl (Nat.le_of_ble_eq_true rfl) ?_ sz
  clear sz
  intro p e s m below meth c A ls hx hb hr hlocks hml hown hts hK hP hD hS hA hE hl
  have hown : s.vm.findClass RX5 = some m.cls := hown
  have hl : lv_has ls 1 [(0, .int v)] := hl
  refine lv_iload_n hx hb dX5_isSpot_0 rfl (lv_at hl 0 rfl) ?_
  refine lv_iconst (v := nI 0) hx hb dX5_isSpot_1 (by decide) ?_
  refine lv_bipush (v := nI 9) hx hb dX5_isSpot_2 (by decide) ?_
  refine tt_callSi (As := [.int v, .int (nI 0), .int (nI 9)]) (rest := []) ⟨hx, hb, hml, hown, hts⟩ (c_X5_within l ad D cI cR cS v (nI 0) (nI 9)) (va_cwS 3 hts gX5_isSpot_X5_within rfl rfl rfl (by decide +kernel) ⟨Nat.le_of_ble_eq_true rfl, Nat.le_of_ble_eq_true rfl⟩) hK hP hD hS hA hE (tt_cut0 _) rfl hl.1 rfl (Nat.le_of_ble_eq_true rfl) dX5_isSpot_4 ⟨Nat.le_of_ble_eq_true rfl, Nat.le_of_ble_eq_true rfl⟩ (fun H locs hP hD hS => ?_)
  exact tt_zret hx hb hr (by split <;> rfl) (by simp []) hP hS hlocks dX5_isSpot_7

set_option maxRecDepth 100000 in
set_option maxHeartbeats 4000000 in
theorem c_X5_isSheet (l : Launch) (ad : Nat → Nat) (D : va_G) (cI cR cS : ClassId) (v : Int32)  : tt_CI l yX5_isSheet wsX5_isSheet 1 22 ad D vwCl (tt_tys cI cR cS) [.int v] ([]) ([]) (if ¬ v < nI 0 ∧ ¬ nI 3 < v then 1 else 0) := by
  intro sz
  refine tt_of (cc := cX5_isSheet) (maxL := 1) (ret := some .boolean) (Qc := fun A => tt_QI D vwCl ([]) A (if ¬ v < nI 0 ∧ ¬ nI 3 < v then 1 else 0)) (by decide +kernel) rfl (Nat.le_of_ble_eq_true rfl) ?_ sz
  clear sz
  intro p e s m below meth c A ls hx hb hr hlocks hml hown hts hK hP hD hS hA hE hl
  have hown : s.vm.findClass RX5 = some m.cls := hown
  have hl : lv_has ls 1 [(0, .int v)] := hl
  refine lv_iload_n hx hb dX5_isSheet_0 rfl (lv_at hl 0 rfl) ?_
  refine lv_iconst (v := nI 0) hx hb dX5_isSheet_1 (by decide) ?_
  refine lv_iconst (v := nI 3) hx hb dX5_isSheet_2 (by decide) ?_
  refine tt_callSi (As := [.int v, .int (nI 0), .int (nI 3)]) (rest := []) ⟨hx, hb, hml, hown, hts⟩ (c_X5_within l ad D cI cR cS v (nI 0) (nI 3)) (va_cwS 3 hts gX5_isSheet_X5_within rfl rfl rfl (by decide +kernel) ⟨Nat.le_of_ble_eq_true rfl, Nat.le_of_ble_eq_true rfl⟩) hK hP hD hS hA hE (tt_cut0 _) rfl hl.1 rfl (Nat.le_of_ble_eq_true rfl) dX5_isSheet_3 ⟨Nat.le_of_ble_eq_true rfl, Nat.le_of_ble_eq_true rfl⟩ (fun H locs hP hD hS => ?_)
  exact tt_zret hx hb hr (by split <;> rfl) (by simp []) hP hS hlocks dX5_isSheet_6

set_option maxRecDepth 100000 in
set_option maxHeartbeats 4000000 in
theorem c_X5_at (l : Launch) (ad : Nat → Nat) (D : va_G) (cI cR cS : ClassId) (i f : Nat)  : tt_CI l yX5_at wsX5_at 0 0 ad D vwCl (tt_tys cI cR cS) [.int (nI i), .int (nI f)] ([]) ([]) (nI (21 + 5 * i + f)) := by
  intro sz
  refine tt_of (cc := cX5_at) (maxL := 2) (ret := some .int) (Qc := fun A => tt_QI D vwCl ([]) A (nI (21 + 5 * i + f))) (by decide +kernel) rfl (Nat.le_of_ble_eq_true rfl) ?_ sz
  clear sz
  intro p e s m below meth c A ls hx hb hr hlocks hml hown hts hK hP hD hS hA hE hl
  have hown : s.vm.findClass RX5 = some m.cls := hown
  have hl : lv_has ls 2 [(0, .int (nI i)), (1, .int (nI f))] := hl
  refine lv_bipush (v := nI 21) hx hb dX5_at_0 (by decide) ?_
  refine lv_iconst (v := nI 5) hx hb dX5_at_2 (by decide) ?_
  refine lv_iload_n hx hb dX5_at_3 rfl (lv_at hl 0 rfl) ?_
  refine lv_imul hx hb dX5_at_4 ?_
  refine tt_topi (y := nI (5 * i)) (pk_mul _ _) ?_
  refine lv_iadd hx hb dX5_at_5 ?_
  refine tt_topi (y := nI (21 + (5 * i))) (nI_add _ _) ?_
  refine lv_iload_n hx hb dX5_at_6 rfl (lv_at hl 1 rfl) ?_
  refine lv_iadd hx hb dX5_at_7 ?_
  refine tt_topi (y := nI (21 + (5 * i) + f)) (nI_add _ _) ?_
  exact tt_iret hx hb hr (by simp []) hP hS hlocks dX5_at_8

set_option maxRecDepth 100000 in
set_option maxHeartbeats 4000000 in
theorem c_X5_personIs (l : Launch) (ad : Nat → Nat) (D : va_G) (cI cR cS : ClassId) (a : Nat → Nat) (M : TS) (i f : Nat) (h1 : i < 8) (h2 : f < 5) : tt_CI l yX5_personIs wsX5_personIs 1 21 ad D vwCl (tt_tys cI cR cS) [.ref (a 0), .int (nI i), .int (nI f)] (tt_M a ad cI cS M) (tt_M a ad cI cS M) (M 0 (21 + 5 * i + f)) := by
  intro sz
  refine tt_of (cc := cX5_personIs) (maxL := 3) (ret := some .int) (Qc := fun A => tt_QI D vwCl (tt_M a ad cI cS M) A (M 0 (21 + 5 * i + f))) (by decide +kernel) rfl (Nat.le_of_ble_eq_true rfl) ?_ sz
  clear sz
  intro p e s m below meth c A ls hx hb hr hlocks hml hown hts hK hP hD hS hA hE hl
  have hown : s.vm.findClass RX5 = some m.cls := hown
  have hl : lv_has ls 3 [(0, .ref (a 0)), (1, .int (nI i)), (2, .int (nI f))] := hl
  have hinX5 : ∀ w ∈ wsX50, w ∈ wsX5_personIs := by decide +kernel
  have k9 := hts (.fieldLink RX5 9 "TwoTuesdaysModel" "now" "[I") (by decide +kernel)
  refine lv_aload_n hx hb dX5_personIs_0 rfl (lv_at hl 0 rfl) ?_
  refine va_get (D := D) (ci := 5) (v := .ref (a 1)) (C := RX5) (T := TX5) (N := 23) hx hb hts hinX5 hown hK hP 0 rfl rfl 0 (by decide) k9 (fun _ h9 => h9) rfl dX5_personIs_1 ?_
  refine lv_iload_n hx hb dX5_personIs_4 rfl (lv_at hl 1 rfl) ?_
  refine lv_iload_n hx hb dX5_personIs_5 rfl (lv_at hl 2 rfl) ?_
  refine tt_callSi (As := [.int (nI i), .int (nI f)]) (rest := [.ref (a 1)]) ⟨hx, hb, hml, hown, hts⟩ (c_X5_at l ad D cI cR cS i f) (va_cwS 2 hts gX5_personIs_X5_at rfl rfl rfl (by decide +kernel) ⟨Nat.le_of_ble_eq_true rfl, Nat.le_of_ble_eq_true rfl⟩) hK hP hD hS hA hE (tt_cut0 _) rfl hl.1 rfl (Nat.le_of_ble_eq_true rfl) dX5_personIs_6 ⟨Nat.le_of_ble_eq_true rfl, Nat.le_of_ble_eq_true rfl⟩ (fun H locs hP hD hS => ?_)
  refine tt_iald (f := M 0) 1 0 hx hb hK hP rfl rfl (by omega) (by decide) dX5_personIs_9 ?_
  exact tt_iret hx hb hr (by simp []) hP hS hlocks dX5_personIs_10

set_option maxRecDepth 100000 in
set_option maxHeartbeats 4000000 in
theorem c_X5_become (l : Launch) (ad : Nat → Nat) (D : va_G) (cI cR cS : ClassId) (a : Nat → Nat) (M : TS) (i : Nat) (v : Int32) (h1 : i < 61) : tt_CI l yX5_become wsX5_become 0 0 ad D vwCl (tt_tys cI cR cS) [.ref (a 0), .int (nI i), .int v] (tt_M a ad cI cS M) (tt_M a ad cI cS (tt_set M 0 (upd (M 0) i v))) (M 0 i) := by
  intro sz
  refine tt_of (cc := cX5_become) (maxL := 4) (ret := some .int) (Qc := fun A => tt_QI D vwCl (tt_M a ad cI cS (tt_set M 0 (upd (M 0) i v))) A (M 0 i)) (by decide +kernel) rfl (Nat.le_of_ble_eq_true rfl) ?_ sz
  clear sz
  intro p e s m below meth c A ls hx hb hr hlocks hml hown hts hK hP hD hS hA hE hl
  have hown : s.vm.findClass RX5 = some m.cls := hown
  have hl : lv_has ls 4 [(0, .ref (a 0)), (1, .int (nI i)), (2, .int v)] := hl
  have hinX5 : ∀ w ∈ wsX50, w ∈ wsX5_become := by decide +kernel
  have k9 := hts (.fieldLink RX5 9 "TwoTuesdaysModel" "now" "[I") (by decide +kernel)
  refine lv_aload_n hx hb dX5_become_0 rfl (lv_at hl 0 rfl) ?_
  refine va_get (D := D) (ci := 5) (v := .ref (a 1)) (C := RX5) (T := TX5) (N := 23) hx hb hts hinX5 hown hK hP 0 rfl rfl 0 (by decide) k9 (fun _ h9 => h9) rfl dX5_become_1 ?_
  refine lv_iload_n hx hb dX5_become_4 rfl (lv_at hl 1 rfl) ?_
  refine tt_iald (f := M 0) 1 0 hx hb hK hP rfl rfl (by omega) (by decide) dX5_become_5 ?_
  refine lv_istore_n (lv' := [(3, .int ((M 0) i)), (0, .ref (a 0)), (1, .int (nI i)), (2, .int v)]) hx hb dX5_become_6 rfl hl (by decide) rfl (fun ls hl => ?_)
  refine lv_aload_n hx hb dX5_become_7 rfl (lv_at hl 1 rfl) ?_
  refine va_get (D := D) (ci := 5) (v := .ref (a 1)) (C := RX5) (T := TX5) (N := 23) hx hb hts hinX5 hown hK hP 0 rfl rfl 0 (by decide) k9 (fun _ h9 => h9) rfl dX5_become_8 ?_
  refine lv_iload_n hx hb dX5_become_11 rfl (lv_at hl 2 rfl) ?_
  refine lv_iload_n hx hb dX5_become_12 rfl (lv_at hl 3 rfl) ?_
  refine tt_iast (f := M 0) 1 0 (tt_M a ad cI cS (tt_set M 0 (upd (M 0) i v))) hx hb hK hP hD hS rfl rfl (by omega) (by decide) rfl dX5_become_13 (fun H locs hP hD hS => ?_)
  refine lv_iload_n hx hb dX5_become_14 rfl (lv_at hl 0 rfl) ?_
  exact tt_iret hx hb hr (by simp []) hP hS hlocks dX5_become_15

set_option maxRecDepth 100000 in
set_option maxHeartbeats 4000000 in
theorem c_X5_finding (l : Launch) (ad : Nat → Nat) (D : va_G) (cI cR cS : ClassId) (a : Nat → Nat) (M : TS) (w : Int32) (f : Nat) (h1 : (-1000001) - w = nI f) (h2 : f < 7) : tt_CI l yX5_finding wsX5_finding 0 0 ad D vwCl (tt_tys cI cR cS) [.ref (a 0), .int w] (tt_M a ad cI cS M) (tt_M a ad cI cS (tt_fnd M f)) w := by
  intro sz
  refine tt_of (cc := cX5_finding) (maxL := 2) (ret := some .int) (Qc := fun A => tt_QI D vwCl (tt_M a ad cI cS (tt_fnd M f)) A w) (by decide +kernel) rfl (Nat.le_of_ble_eq_true rfl) ?_ sz
  clear sz
  intro p e s m below meth c A ls hx hb hr hlocks hml hown hts hK hP hD hS hA hE hl
  have hown : s.vm.findClass RX5 = some m.cls := hown
  have hl : lv_has ls 2 [(0, .ref (a 0)), (1, .int w)] := hl
  have hinX5 : ∀ w ∈ wsX50, w ∈ wsX5_finding := by decide +kernel
  have k19 := hts (.fieldLink RX5 19 "TwoTuesdaysModel" "found" "[I") (by decide +kernel)
  have k70 := hts (.constant RX5 70 (-1000001)) (by decide +kernel)
  refine lv_aload_n hx hb dX5_finding_0 rfl (lv_at hl 0 rfl) ?_
  refine va_get (D := D) (ci := 5) (v := .ref (a 4)) (C := RX5) (T := TX5) (N := 23) hx hb hts hinX5 hown hK hP 0 rfl rfl 4 (by decide) k19 (fun _ h9 => h9) rfl dX5_finding_1 ?_
  refine lv_ldc (v := (-1000001)) hx hb hown k70 dX5_finding_4 ?_
  refine lv_iload_n hx hb dX5_finding_6 rfl (lv_at hl 1 rfl) ?_
  refine lv_isub hx hb dX5_finding_7 ?_
  refine tt_topi (y := nI f) (h1) ?_
  refine lv_iconst (v := nI 1) hx hb dX5_finding_8 (by decide) ?_
  refine lv_iadd hx hb dX5_finding_9 ?_
  refine tt_topi (y := nI (f + 1)) (nI_add _ _) ?_
  refine lv_dup2_11 hx hb dX5_finding_10 rfl rfl ?_
  refine tt_iald (f := M 3) 4 0 hx hb hK hP rfl rfl (by omega) (by decide) dX5_finding_11 ?_
  refine lv_iconst (v := nI 1) hx hb dX5_finding_12 (by decide) ?_
  refine lv_iadd hx hb dX5_finding_13 ?_
  refine tt_iast (f := M 3) 4 0 (tt_M a ad cI cS (tt_set M 3 (upd (M 3) (f + 1) (((M 3) (f + 1)) + (nI 1))))) hx hb hK hP hD hS rfl rfl (by omega) (by decide) rfl dX5_finding_14 (fun H locs hP hD hS => ?_)
  refine lv_aload_n hx hb dX5_finding_15 rfl (lv_at hl 0 rfl) ?_
  refine va_get (D := D) (ci := 5) (v := .ref (a 4)) (C := RX5) (T := TX5) (N := 23) hx hb hts hinX5 hown hK hP 0 rfl rfl 4 (by decide) k19 (fun _ h9 => h9) rfl dX5_finding_16 ?_
  refine lv_iconst (v := nI 0) hx hb dX5_finding_19 (by decide) ?_
  refine lv_dup2_11 hx hb dX5_finding_20 rfl rfl ?_
  refine tt_iald (f := upd (M 3) (f + 1) (((M 3) (f + 1)) + (nI 1))) 4 0 hx hb hK hP rfl rfl (by omega) (by decide) dX5_finding_21 ?_
  refine lv_iconst (v := nI 1) hx hb dX5_finding_22 (by decide) ?_
  refine lv_iadd hx hb dX5_finding_23 ?_
  refine tt_iast (f := upd (M 3) (f + 1) (((M 3) (f + 1)) + (nI 1))) 4 0 (tt_M a ad cI cS (tt_set M 3 (upd (upd (M 3) (f + 1) (((M 3) (f + 1)) + (nI 1))) 0 (((upd (M 3) (f + 1) (((M 3) (f + 1)) + (nI 1))) 0) + (nI 1))))) hx hb hK hP hD hS rfl rfl (by omega) (by decide) rfl dX5_finding_24 (fun H locs hP hD hS => ?_)
  refine lv_iload_n hx hb dX5_finding_25 rfl (lv_at hl 1 rfl) ?_
  exact tt_iret hx hb hr rfl (by rw [show tt_fnd M f = tt_set M 3 (upd (upd (M 3) (f + 1) (((M 3) (f + 1)) + (nI 1))) 0 (((upd (M 3) (f + 1) (((M 3) (f + 1)) + (nI 1))) 0) + (nI 1))) from by simp [tt_fnd, upd]]; exact hP) hS hlocks dX5_finding_26

set_option maxRecDepth 100000 in
set_option maxHeartbeats 4000000 in
theorem c_X5_bits (l : Launch) (ad : Nat → Nat) (D : va_G) (cI cR cS : ClassId) (m : Nat) (h1 : m < 256) : tt_CI l yX5_bits wsX5_bits 0 0 ad D vwCl (tt_tys cI cR cS) [.int (nI m)] ([]) ([]) (nI (tt_pop m)) := by
  intro sz
  refine tt_of (cc := cX5_bits) (maxL := 3) (ret := some .int) (Qc := fun A => tt_QI D vwCl ([]) A (nI (tt_pop m))) (by decide +kernel) rfl (Nat.le_of_ble_eq_true rfl) ?_ sz
  clear sz
  intro p e s m below meth c A ls hx hb hr hlocks hml hown hts hK hP hD hS hA hE hl
  have hown : s.vm.findClass RX5 = some m.cls := hown
  have hl : lv_has ls 3 [(0, .int (nI m))] := hl
  refine lv_iconst (v := nI 0) hx hb dX5_bits_0 (by decide) ?_
  refine lv_istore_n (lv' := [(1, .int (nI 0)), (0, .int (nI m))]) hx hb dX5_bits_1 rfl hl (by decide) rfl (fun ls hl => ?_)
  refine lv_iload_n hx hb dX5_bits_2 rfl (lv_at hl 1 rfl) ?_
  refine lv_istore_n (lv' := [(2, .int (nI m)), (1, .int (nI 0)), (0, .int (nI m))]) hx hb dX5_bits_3 rfl hl (by decide) rfl (fun ls hl => ?_)
  have lp4 : ∀ (fu : Nat) (x k : Nat), x < fu → (x < 256) → (k + tt_pop x = tt_pop m) → ∀ (H : Heap) (locs : List Loc) (ls : Array Slot), va_P D vwCl ([]) H → va_D A ([]) → va_S A s.heap H locs → lv_has ls 3 [(0, .int (nI m)), (1, .int (nI k)), (2, .int (nI x))] → W p l e (tt_rm 0 0) s m ([.int (nI m)] : List Value).toArray below meth c H locs 0 0 (MQ below (tt_QI D vwCl ([]) A (nI (tt_pop m))) ([.int (nI m)] : List Value).toArray s 0 0 A) (F0 m 4 ls []) := by
    intro fu
    induction fu with
    | zero => intro x k hmu; exact absurd hmu (Nat.not_lt_zero _)
    | succ fu ih4 =>
      intro x k hmu hx8 hk H locs ls hP hD hS hl
      refine lv_iload_n hx hb dX5_bits_4 rfl (lv_at hl 2 rfl) ?_
      refine lv_if_eq (tgt := 20) hx hb dX5_bits_5 (by decide) (fun cz => ?_) (fun cz => ?_)
      · refine lv_iload_n hx hb dX5_bits_20 rfl (lv_at hl 1 rfl) ?_
        exact tt_iret hx hb hr (by have hx0 : x = 0 := (nI_eq (by omega) (by decide)).mp cz; subst hx0; have : tt_pop 0 = 0 := rfl; rw [show k = tt_pop m by omega]) hP hS hlocks dX5_bits_21
      · refine lv_iinc (v := nI (k + 1)) (lv' := [(1, .int (nI (k + 1))), (0, .int (nI m)), (2, .int (nI x))]) hx hb dX5_bits_8 hl (k := 1) rfl (nI_1 _) (by decide) rfl (fun ls hl => ?_)
        refine lv_iload_n hx hb dX5_bits_11 rfl (lv_at hl 2 rfl) ?_
        refine lv_iload_n hx hb dX5_bits_12 rfl (lv_at hl 2 rfl) ?_
        refine lv_iconst (v := nI 1) hx hb dX5_bits_13 (by decide) ?_
        refine lv_isub hx hb dX5_bits_14 ?_
        refine lv_iand hx hb dX5_bits_15 ?_
        refine tt_topi (y := nI (x &&& (x - 1))) ((tt_popstep0 x hx8 cz).1) ?_
        refine lv_istore_n (lv' := [(2, .int (nI (x &&& (x - 1)))), (1, .int (nI (k + 1))), (0, .int (nI m))]) hx hb dX5_bits_16 rfl hl (by decide) rfl (fun ls hl => ?_)
        refine lv_goto (tgt := 4) hx hb dX5_bits_17 (by decide) ?_
        exact ih4 (x &&& (x - 1)) (k + 1) (by have := (tt_popstep0 x hx8 cz).2.1; omega) (by have := (tt_popstep0 x hx8 cz).2.1; omega) (by have := (tt_popstep0 x hx8 cz).2.2; omega) H locs ls hP hD hS (lv_sub hl [2, 1, 0] rfl)
  exact lp4 _ m 0 (Nat.lt_succ_self _) h1 (by omega) H locs ls hP hD hS (lv_sub hl [2, 1, 0] rfl)

set_option maxRecDepth 100000 in
set_option maxHeartbeats 4000000 in
theorem c_X5_isPerson (l : Launch) (ad : Nat → Nat) (D : va_G) (cI cR cS : ClassId) (a : Nat → Nat) (M : TS) (i : Int32)  : tt_CI l yX5_isPerson wsX5_isPerson 1 22 ad D vwCl (tt_tys cI cR cS) [.ref (a 0), .int i] (tt_M a ad cI cS M) (tt_M a ad cI cS M) (if ¬ i < nI 0 ∧ ¬ (M 0 1 - nI 1) < i then 1 else 0) := by
  intro sz
  refine tt_of (cc := cX5_isPerson) (maxL := 2) (ret := some .boolean) (Qc := fun A => tt_QI D vwCl (tt_M a ad cI cS M) A (if ¬ i < nI 0 ∧ ¬ (M 0 1 - nI 1) < i then 1 else 0)) (by decide +kernel) rfl (Nat.le_of_ble_eq_true rfl) ?_ sz
  clear sz
  intro p e s m below meth c A ls hx hb hr hlocks hml hown hts hK hP hD hS hA hE hl
  have hown : s.vm.findClass RX5 = some m.cls := hown
  have hl : lv_has ls 2 [(0, .ref (a 0)), (1, .int i)] := hl
  have hinX5 : ∀ w ∈ wsX50, w ∈ wsX5_isPerson := by decide +kernel
  have k9 := hts (.fieldLink RX5 9 "TwoTuesdaysModel" "now" "[I") (by decide +kernel)
  refine lv_iload_n hx hb dX5_isPerson_0 rfl (lv_at hl 1 rfl) ?_
  refine lv_iconst (v := nI 0) hx hb dX5_isPerson_1 (by decide) ?_
  refine lv_aload_n hx hb dX5_isPerson_2 rfl (lv_at hl 0 rfl) ?_
  refine va_get (D := D) (ci := 5) (v := .ref (a 1)) (C := RX5) (T := TX5) (N := 23) hx hb hts hinX5 hown hK hP 0 rfl rfl 0 (by decide) k9 (fun _ h9 => h9) rfl dX5_isPerson_3 ?_
  refine lv_iconst (v := nI 1) hx hb dX5_isPerson_6 (by decide) ?_
  refine tt_iald (f := M 0) 1 0 hx hb hK hP rfl rfl (by omega) (by decide) dX5_isPerson_7 ?_
  refine lv_iconst (v := nI 1) hx hb dX5_isPerson_8 (by decide) ?_
  refine lv_isub hx hb dX5_isPerson_9 ?_
  refine tt_callSi (As := [.int i, .int (nI 0), .int (((M 0) 1) - (nI 1))]) (rest := []) ⟨hx, hb, hml, hown, hts⟩ (c_X5_within l ad D cI cR cS i (nI 0) (((M 0) 1) - (nI 1))) (va_cwS 3 hts gX5_isPerson_X5_within rfl rfl rfl (by decide +kernel) ⟨Nat.le_of_ble_eq_true rfl, Nat.le_of_ble_eq_true rfl⟩) hK hP hD hS hA hE (tt_cut0 _) rfl hl.1 rfl (Nat.le_of_ble_eq_true rfl) dX5_isPerson_10 ⟨Nat.le_of_ble_eq_true rfl, Nat.le_of_ble_eq_true rfl⟩ (fun H locs hP hD hS => ?_)
  exact tt_zret hx hb hr (by split <;> rfl) (by simp []) hP hS hlocks dX5_isPerson_13
