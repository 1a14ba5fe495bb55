/-! ===== the class: weather ===== -/
def wthW (S : SS) (i : Nat) : TW := (S.1.1, (wthR S.1.1 i (S.1.2.1, S.1.2.2.2)).1, min 99999 (S.1.2.2.1 + i), (wthR S.1.1 i (S.1.2.1, S.1.2.2.2)).2)
theorem nzI_def (z : Int32) : nzI z = z * nI 1103515245 + nI 12345 := rfl
theorem TWV_prz {n t p x : Nat} {T : TT} {z z2 : Int32} (h : TWV (n, T, t, z)) (hx : x ≤ 9999) : TWV (n, updT T 0 p x, t, z2) := by
  obtain ⟨y1, y2, y3⟩ := TWV_prize (w := (n, T, t, z)) (p := p) (x := x) h hx
  exact ⟨y1, y2, y3⟩
theorem CS_wth {X : AmX} {S : SS} {G : GG} (h : CSt S G) : ∃ G4, (∀ (k : Nat) (r : List Instr) (lv : LV) (st : List Value) (Q : Option Value → GG → Prop), st.length ≤ 4 → (WP X k (.invokeinterface 64 2 :: r) lv (.int (nI 1) :: .ref 1 :: st) (gset (gset G 1 (upd (upd (G 1) 9 (nzI S.1.2.2.2)) 9 (nzI (nzI S.1.2.2.2)))) 2 (upd (G 2) (drN (nzI S.1.2.2.2) % 8) (nI (drN (nzI (nzI S.1.2.2.2)) % 100)))) Q ↔ WP X k r lv st G4 Q)) ∧ CSt (sTown S (S.1.1, stepN S.1.1 (wthT S.1.2.1 S.1.2.2.2), min 99999 (S.1.2.2.1 + 1), nzI (nzI S.1.2.2.2))) G4 ∧ ∀ o, 58 ≤ o → G4 o = G o := by
  obtain ⟨⟨n, T, t, z⟩, S2⟩ := S
  have hc1 : TE G 1 n T t z := h.1
  have hw0 : TWV (n, T, t, z) := h.2.1
  have hp8 : drN (nzI z) % 8 < 8 := Nat.mod_lt _ (by decide)
  have hx : drN (nzI (nzI z)) % 100 ≤ 9999 := by
    have := Nat.mod_lt (drN (nzI (nzI z))) (show 100 > 0 by decide)
    omega
  have hTW : wthT T z = updT T 0 (drN (nzI z) % 8) (drN (nzI (nzI z)) % 100) := rfl
  have hT1 := TE_z (v := nzI (nzI z)) (TE_z (v := nzI z) hc1)
  rw [gset_gset, gset_eq] at hT1
  show ∃ G4, (∀ (k : Nat) (r : List Instr) (lv : LV) (st : List Value) (Q : Option Value → GG → Prop), st.length ≤ 4 → (WP X k (.invokeinterface 64 2 :: r) lv (.int (nI 1) :: .ref 1 :: st) (gset (gset G 1 (upd (upd (G 1) 9 (nzI z)) 9 (nzI (nzI z)))) 2 (upd (G 2) (drN (nzI z) % 8) (nI (drN (nzI (nzI z)) % 100)))) Q ↔ WP X k r lv st G4 Q)) ∧ CSt (sTown ((n, T, t, z), S2) (n, stepN n (wthT T z), min 99999 (t + 1), nzI (nzI z))) G4 ∧ ∀ o, 58 ≤ o → G4 o = G o
  rw [hTW]
  generalize drN (nzI z) % 8 = p at *
  generalize drN (nzI (nzI z)) % 100 = pr at *
  generalize nzI (nzI z) = z2 at *
  generalize nzI z = z1 at *
  have hT2 := TE_prize (p := p) (x := pr) hT1
  have e11 : (1 + 1 : Nat) = 2 := rfl
  have g2 : ∀ f, gset G 1 f 2 = G 2 := fun f => gset_ne (by omega)
  rw [e11, g2] at hT2
  have hv2 : TWV (n, updT T 0 p pr, t, z2) := TWV_prz hw0 hx
  have hcc := CSt_town (w := (n, updT T 0 p pr, t, z2)) h hT2 hv2 (fun o ho => by rw [gset_ne (by omega), gset_ne (by omega)])
  obtain ⟨G4, hD, hc4, hf4⟩ := CS_pass (X := X) hcc 1 (by omega)
  exact ⟨G4, hD, hc4, fun o ho => by rw [hf4 o ho, gset_ne (by omega), gset_ne (by omega)]⟩
theorem wthW_s (S : SS) (i : Nat) : wthW S (i + 1) = (S.1.1, stepN S.1.1 (wthT (wthW S i).2.1 (wthW S i).2.2.2), min 99999 ((wthW S i).2.2.1 + 1), nzI (nzI (wthW S i).2.2.2)) := by
  have h1 : (wthW S i).2.2.1 = min 99999 (S.1.2.2.1 + i) := rfl
  have h2 : min 99999 (S.1.2.2.1 + (i + 1)) = min 99999 (min 99999 (S.1.2.2.1 + i) + 1) := by omega
  rw [h1, ← h2]
  rfl
def sp_weather (S : SS) (a1 : Int32) : Int32 × SS := if inR a1 (nI 1) (nI 20) = true then (if 99999 - aN a1 < S.1.2.2.1 then sFnd S 4 else (nI (sumN ((wthW S (aN a1)).2.1 5) S.1.1), sTown S (wthW S (aN a1)))) else sFnd S 0
theorem CT_weather {X : AmX} {S : SS} {G : GG} (h : CSt S G) (a1 : Int32) : CW X 139 [.ref 0, .int a1] G (sp_weather S a1) := by
  have hE := h.1
  unfold TWE at hE
  have f0 := hE.1
  have hv8 := h.2.1.1.1
  unfold CW sp_weather
  have hb := tb1
  have hb12 := tb12
  have hb23 := tb23
  have e2 : (nI 1 = nI 0) = False := eq_false (by decide)
  show WP X 139 (am_blk 139 0) [some (.ref 0), some (.int a1), none, none, none] [] G _
  have f8 := hE.2.1
  have ht := h.2.1.2.2
  by_cases h1 : inR a1 (nI 1) (nI 20) = true
  rotate_left
  · rw [if_neg (fun z => h1 z)]
    rw [Bool.not_eq_true] at h1
    simp (config := { maxSteps := 1000000 }) (disch := first | exact am_nl_i | exact am_nl_r | exact am_nl_n | exact am_l0 | exact am_l1 | exact am_l2 | exact am_l3 | assumption | omega) only [wp_ldc, wp_sipush, wp_ldc_w, wp_lconst, wp_iadd, wp_isub, wp_imul, wp_iand, wp_ior, wp_ixor, wp_ishl, wp_ishr, wp_iushr, wp_idiv, wp_irem, wp_ineg, wp_i2b, wp_i2s, wp_i2c, wp_i2l, wp_ladd, wp_lmul, wp_lcmp, wp_dup_i, wp_dup_r, wp_dup2, wp_pop, wp_getfield, wp_putfield, wp_getstatic, wp_iaload, wp_baload, wp_aaload, wp_iastore, wp_arraylength, wp_goto, wp_fall, wp_ieq, wp_ine, wp_ilt, wp_ige, wp_igt, wp_ile, wp_ceq, wp_cne, wp_clt, wp_cge, wp_cgt, wp_cle, wp_sw, wp_ret0, wp_ret1z, wp_ret1o, wp_ret1, wp_ret2, wp_ret3, wp_ret4, wp_ret5, wp_return, wp_min, wp_max, wp_abs, am_ex, gset_eq, gset_ne, upd_eq, upd_ne, gset_gset, am_ci_1, am_ci_6, am_toList_some, am_toList_none, true_implies, false_implies, and_self, and_true, true_and, not_true_eq_false, not_false_eq_true, imp_self, implies_true, Classical.not_not, if_true, if_false, false_and, and_false, or_false, false_or, true_or, or_true, Nat.reduceAdd, Nat.reduceMul, Nat.reduceSub, Nat.reduceLT, Nat.reduceLeDiff, Nat.reduceEqDiff, Nat.reduceBneDiff, Nat.add_zero, Nat.zero_add, reduceCtorEq, wil0, wal0, wis0, wic0, wil1, wal1, wis1, wic1, wil2, wll2, wal2, wis2, was2, wls2, wic2, wil3, wis3, wic3, wic3m, wic3s, wil4, wis4, wic4, wil5, wis5, wic5, wic5m, wil6, wll6, wal6, wis6, was6, wls6, wic6, wil7, wal7, wis7, was7, wic7, wil8, wis8, wic8, wil9, wis9, wic9, wil10, wis10, wic10, am_nI_inj, am_nI_lt, am_nI_le, nI_add, pk_mul, am_nI_sub, am_add_m1, am_gfs, am_pfs, am_alds, am_asts, am_lens, tgf0, tgf1, tgf2, tgf3, tgf4, tgf5, tgf6, tgf7, tgf8, tgf9, tgf10, tgf11, tgf12, tpf7, tpf8, tpf9, tal0, tas0, tln0, tal1, tas1, tln1, tal2, tas2, tln2, tal3, tas3, tln3, tal4, tas4, tln4, tal5, tas5, tln5, tal6, tas6, tln6, tal7, tas7, tln7, tal8, tas8, tln8, tal9, tas9, tln9, bs139, am_B139_0, am_B139_17, am_B139_38, am_B139_40, am_B139_86, am_B139_100, C_X4_isThere, C_X4_isPlace, C_X4_isWithin, C_X4_isKind, C_X4_isSpot, C_X4_isSheet, h1, bI_t, bI_f, e2, f0, fcs, C_X4_found]
    first | exact ⟨rfl, CSt_fnd h (by omega), fnd_frame⟩ | exact ⟨CSt_fnd h (by omega), fnd_frame⟩
  rw [if_pos h1]
  obtain ⟨x, hx1, hx, rfl, h1'⟩ := rng1_of (by omega) h1
  rw [aN_nI (show x < 2 ^ 31 by omega)]
  by_cases hs : 99999 - x < S.1.2.2.1
  · rw [if_pos hs]
    have q1 : (S.1.2.2.1 ≤ 99999 - x) = False := eq_false (by omega)
    simp (config := { maxSteps := 1000000 }) (disch := first | exact am_nl_i | exact am_nl_r | exact am_nl_n | exact am_l0 | exact am_l1 | exact am_l2 | exact am_l3 | assumption | omega) only [wp_ldc, wp_sipush, wp_ldc_w, wp_lconst, wp_iadd, wp_isub, wp_imul, wp_iand, wp_ior, wp_ixor, wp_ishl, wp_ishr, wp_iushr, wp_idiv, wp_irem, wp_ineg, wp_i2b, wp_i2s, wp_i2c, wp_i2l, wp_ladd, wp_lmul, wp_lcmp, wp_dup_i, wp_dup_r, wp_dup2, wp_pop, wp_getfield, wp_putfield, wp_getstatic, wp_iaload, wp_baload, wp_aaload, wp_iastore, wp_arraylength, wp_goto, wp_fall, wp_ieq, wp_ine, wp_ilt, wp_ige, wp_igt, wp_ile, wp_ceq, wp_cne, wp_clt, wp_cge, wp_cgt, wp_cle, wp_sw, wp_ret0, wp_ret1z, wp_ret1o, wp_ret1, wp_ret2, wp_ret3, wp_ret4, wp_ret5, wp_return, wp_min, wp_max, wp_abs, am_ex, gset_eq, gset_ne, upd_eq, upd_ne, gset_gset, am_ci_1, am_ci_6, am_toList_some, am_toList_none, true_implies, false_implies, and_self, and_true, true_and, not_true_eq_false, not_false_eq_true, imp_self, implies_true, Classical.not_not, if_true, if_false, false_and, and_false, or_false, false_or, true_or, or_true, Nat.reduceAdd, Nat.reduceMul, Nat.reduceSub, Nat.reduceLT, Nat.reduceLeDiff, Nat.reduceEqDiff, Nat.reduceBneDiff, Nat.add_zero, Nat.zero_add, reduceCtorEq, wil0, wal0, wis0, wic0, wil1, wal1, wis1, wic1, wil2, wll2, wal2, wis2, was2, wls2, wic2, wil3, wis3, wic3, wic3m, wic3s, wil4, wis4, wic4, wil5, wis5, wic5, wic5m, wil6, wll6, wal6, wis6, was6, wls6, wic6, wil7, wal7, wis7, was7, wic7, wil8, wis8, wic8, wil9, wis9, wic9, wil10, wis10, wic10, am_nI_inj, am_nI_lt, am_nI_le, nI_add, pk_mul, am_nI_sub, am_add_m1, am_gfs, am_pfs, am_alds, am_asts, am_lens, tgf0, tgf1, tgf2, tgf3, tgf4, tgf5, tgf6, tgf7, tgf8, tgf9, tgf10, tgf11, tgf12, tpf7, tpf8, tpf9, tal0, tas0, tln0, tal1, tas1, tln1, tal2, tas2, tln2, tal3, tas3, tln3, tal4, tas4, tln4, tal5, tas5, tln5, tal6, tas6, tln6, tal7, tas7, tln7, tal8, tas8, tln8, tal9, tas9, tln9, bk139_0, bk139_17, am_B139_0, am_B139_17, C_X4_isWithin, h1', bI_t, e2, f8, q1, fcs, C_X4_found]
    first | exact ⟨rfl, CSt_fnd h (by omega), fnd_frame⟩ | exact ⟨CSt_fnd h (by omega), fnd_frame⟩
  rw [if_neg hs]
  have q1 : (S.1.2.2.1 ≤ 99999 - x) = True := eq_true (by omega)
  generalize hQ : (fun (w : Option Value) (G1 : GG) => w = some (.int (nI (sumN ((wthW S x).2.1 5) S.1.1), sTown S (wthW S x)).1) ∧ CSt (nI (sumN ((wthW S x).2.1 5) S.1.1), sTown S (wthW S x)).2 G1 ∧ ∀ o, 58 ≤ o → G1 o = G o) = Q
  have key : ∀ d i : Nat, i + d = x → ∀ (G' : GG) (v3 v4 : Option Value), CSt (sTown S (wthW S i)) G' → (∀ o, 58 ≤ o → G' o = G o) → WP X 139 (am_blk 139 40) [some (.ref 0), some (.int (nI x)), some (.int (nI i)), v3, v4] [] G' Q := by
    intro d
    induction d with
    | zero =>
      intro i hi G' v3 v4 hc hf
      obtain rfl : i = x := by omega
      have hP := fun (k : Nat) (r : List Instr) (lv : LV) (st : List Value) (Q : Option Value → GG → Prop) (hl : st.length ≤ 4) => C_X3_goodsOfAll (X := X) (k := k) (st := st) (r := r) (lv := lv) (Q := Q) tb1 hc.1 hc.2.1.1 hl
      have e7 : (sTown S (wthW S i)).1.1 = S.1.1 := rfl
      have e8 : (sTown S (wthW S i)).1.2.1 = (wthW S i).2.1 := rfl
      rw [e7, e8] at hP
      rw [bh139_40]
      simp (config := { maxSteps := 1000000 }) (disch := first | exact am_nl_i | exact am_nl_r | exact am_nl_n | exact am_l0 | exact am_l1 | exact am_l2 | exact am_l3 | assumption | omega) only [wp_ldc, wp_sipush, wp_ldc_w, wp_lconst, wp_iadd, wp_isub, wp_imul, wp_iand, wp_ior, wp_ixor, wp_ishl, wp_ishr, wp_iushr, wp_idiv, wp_irem, wp_ineg, wp_i2b, wp_i2s, wp_i2c, wp_i2l, wp_ladd, wp_lmul, wp_lcmp, wp_dup_i, wp_dup_r, wp_dup2, wp_pop, wp_getfield, wp_putfield, wp_getstatic, wp_iaload, wp_baload, wp_aaload, wp_iastore, wp_arraylength, wp_goto, wp_fall, wp_ieq, wp_ine, wp_ilt, wp_ige, wp_igt, wp_ile, wp_ceq, wp_cne, wp_clt, wp_cge, wp_cgt, wp_cle, wp_sw, wp_ret0, wp_ret1z, wp_ret1o, wp_ret1, wp_ret2, wp_ret3, wp_ret4, wp_ret5, wp_return, wp_min, wp_max, wp_abs, am_ex, gset_eq, gset_ne, upd_eq, upd_ne, gset_gset, am_ci_1, am_ci_6, am_toList_some, am_toList_none, true_implies, false_implies, and_self, and_true, true_and, not_true_eq_false, not_false_eq_true, imp_self, implies_true, Classical.not_not, if_true, if_false, false_and, and_false, or_false, false_or, true_or, or_true, Nat.reduceAdd, Nat.reduceMul, Nat.reduceSub, Nat.reduceLT, Nat.reduceLeDiff, Nat.reduceEqDiff, Nat.reduceBneDiff, Nat.add_zero, Nat.zero_add, reduceCtorEq, wil0, wal0, wis0, wic0, wil1, wal1, wis1, wic1, wil2, wll2, wal2, wis2, was2, wls2, wic2, wil3, wis3, wic3, wic3m, wic3s, wil4, wis4, wic4, wil5, wis5, wic5, wic5m, wil6, wll6, wal6, wis6, was6, wls6, wic6, wil7, wal7, wis7, was7, wic7, wil8, wis8, wic8, wil9, wis9, wic9, wil10, wis10, wic10, am_nI_inj, am_nI_lt, am_nI_le, nI_add, pk_mul, am_nI_sub, am_add_m1, am_gfs, am_pfs, am_alds, am_asts, am_lens, tgf0, tgf1, tgf2, tgf3, tgf4, tgf5, tgf6, tgf7, tgf8, tgf9, tgf10, tgf11, tgf12, tpf7, tpf8, tpf9, tal0, tas0, tln0, tal1, tas1, tln1, tal2, tas2, tln2, tal3, tas3, tln3, tal4, tas4, tln4, tal5, tas5, tln5, tal6, tas6, tln6, tal7, tas7, tln7, tal8, tas8, tln8, tal9, tas9, tln9, bk139_100, am_B139_40, am_B139_100, Nat.le_refl, hP]
      rw [← hQ]
      exact ⟨rfl, hc, hf⟩
    | succ d ih =>
      intro i hi G' v3 v4 hc hf
      have q3 : (x ≤ i) = False := eq_false (by omega)
      have hc1 : TE G' 1 S.1.1 (wthW S i).2.1 (wthW S i).2.2.1 (wthW S i).2.2.2 := hc.1
      have g9 : G' 1 9 = (wthW S i).2.2.2 := hc1.2.2.1
      obtain ⟨G4, hD, hc4, hf4⟩ := CS_wth (X := X) hc
      have hc5 : CSt (sTown S (wthW S (i + 1))) G4 := by rw [wthW_s]; exact hc4
      have hD : ∀ (k : Nat) (r : List Instr) (lv : LV) (st : List Value) (Q : Option Value → GG → Prop), st.length ≤ 4 → (WP X k (.invokeinterface 64 2 :: r) lv (.int (nI 1) :: .ref 1 :: st) (gset (gset G' 1 (upd (upd (G' 1) 9 (nzI (wthW S i).2.2.2)) 9 (nzI (nzI (wthW S i).2.2.2)))) 2 (upd (G' 2) (drN (nzI (wthW S i).2.2.2) % 8) (nI (drN (nzI (nzI (wthW S i).2.2.2)) % 100)))) Q ↔ WP X k r lv st G4 Q) := hD
      have ihk := fun v3 v4 => ih (i + 1) (by omega) G4 v3 v4 hc5 (fun o ho => (hf4 o ho).trans (hf o ho))
      generalize (wthW S i).2.2.2 = z at *
      have hz0 := nzI_def z
      have hz1 := nzI_def (nzI z)
      have d1 := drI_N (nzI z)
      have d2 := drI_N (nzI (nzI z))
      have l1 := drN_lt (nzI z)
      have l2 := drN_lt (nzI (nzI z))
      have r1 := pk_rem (a := drN (nzI z)) (d := 8) (by omega) (by omega) (by omega)
      have r2 := pk_rem (a := drN (nzI (nzI z))) (d := 100) (by omega) (by omega) (by omega)
      have hp8 : drN (nzI z) % 8 < 8 := Nat.mod_lt _ (by decide)
      have hpl : inR (nI (drN (nzI z) % 8)) (nI 0) (nI 7) = true := by rw [inR_nI (by omega) (by omega) (by omega)]; exact decide_eq_true (by omega)
      have g91 : ∀ f, gset G' 1 f 1 = f := fun f => gset_eq
      have u9 : ∀ (f : Nat → Int32) y, upd f 9 y 9 = y := fun f y => upd_eq
      generalize drN (nzI z) = D1 at *
      generalize drN (nzI (nzI z)) = D2 at *
      generalize nzI (nzI z) = z2 at *
      generalize nzI z = z1 at *
      rw [bh139_40]
      simp (config := { maxSteps := 1000000 }) (disch := first | exact am_nl_i | exact am_nl_r | exact am_nl_n | exact am_l0 | exact am_l1 | exact am_l2 | exact am_l3 | assumption | omega) only [wp_ldc, wp_sipush, wp_ldc_w, wp_lconst, wp_iadd, wp_isub, wp_imul, wp_iand, wp_ior, wp_ixor, wp_ishl, wp_ishr, wp_iushr, wp_idiv, wp_irem, wp_ineg, wp_i2b, wp_i2s, wp_i2c, wp_i2l, wp_ladd, wp_lmul, wp_lcmp, wp_dup_i, wp_dup_r, wp_dup2, wp_pop, wp_getfield, wp_putfield, wp_getstatic, wp_iaload, wp_baload, wp_aaload, wp_iastore, wp_arraylength, wp_goto, wp_fall, wp_ieq, wp_ine, wp_ilt, wp_ige, wp_igt, wp_ile, wp_ceq, wp_cne, wp_clt, wp_cge, wp_cgt, wp_cle, wp_sw, wp_ret0, wp_ret1z, wp_ret1o, wp_ret1, wp_ret2, wp_ret3, wp_ret4, wp_ret5, wp_return, wp_min, wp_max, wp_abs, am_ex, gset_eq, gset_ne, upd_eq, upd_ne, gset_gset, am_ci_1, am_ci_6, am_toList_some, am_toList_none, true_implies, false_implies, and_self, and_true, true_and, not_true_eq_false, not_false_eq_true, imp_self, implies_true, Classical.not_not, if_true, if_false, false_and, and_false, or_false, false_or, true_or, or_true, Nat.reduceAdd, Nat.reduceMul, Nat.reduceSub, Nat.reduceLT, Nat.reduceLeDiff, Nat.reduceEqDiff, Nat.reduceBneDiff, Nat.add_zero, Nat.zero_add, reduceCtorEq, wil0, wal0, wis0, wic0, wil1, wal1, wis1, wic1, wil2, wll2, wal2, wis2, was2, wls2, wic2, wil3, wis3, wic3, wic3m, wic3s, wil4, wis4, wic4, wil5, wis5, wic5, wic5m, wil6, wll6, wal6, wis6, was6, wls6, wic6, wil7, wal7, wis7, was7, wic7, wil8, wis8, wic8, wil9, wis9, wic9, wil10, wis10, wic10, am_nI_inj, am_nI_lt, am_nI_le, nI_add, pk_mul, am_nI_sub, am_add_m1, am_gfs, am_pfs, am_alds, am_asts, am_lens, tgf0, tgf1, tgf2, tgf3, tgf4, tgf5, tgf6, tgf7, tgf8, tgf9, tgf10, tgf11, tgf12, tpf7, tpf8, tpf9, tal0, tas0, tln0, tal1, tas1, tln1, tal2, tas2, tln2, tal3, tas3, tln3, tal4, tas4, tln4, tal5, tas5, tln5, tal6, tas6, tln6, tal7, tas7, tln7, tal8, tas8, tln8, tal9, tas9, tln9, bk139_86, am_B139_40, am_B139_86, bn139_40, q3, C_X3_nextDraw, g9, ← hz0, g91, u9, ← hz1, d1, d2, r1, r2, C_X4_isPlace, hpl, bI_t, e2, hD]
      exact ihk _ _
  have w0 : wthW S 0 = S.1 := by
    unfold wthW
    rw [show min 99999 (S.1.2.2.1 + 0) = S.1.2.2.1 by omega]
    rfl
  have key := key x 0 (by omega) G none none (by rw [w0]; exact h) (fun _ _ => rfl)
  simp (config := { maxSteps := 1000000 }) (disch := first | exact am_nl_i | exact am_nl_r | exact am_nl_n | exact am_l0 | exact am_l1 | exact am_l2 | exact am_l3 | assumption | omega) only [wp_ldc, wp_sipush, wp_ldc_w, wp_lconst, wp_iadd, wp_isub, wp_imul, wp_iand, wp_ior, wp_ixor, wp_ishl, wp_ishr, wp_iushr, wp_idiv, wp_irem, wp_ineg, wp_i2b, wp_i2s, wp_i2c, wp_i2l, wp_ladd, wp_lmul, wp_lcmp, wp_dup_i, wp_dup_r, wp_dup2, wp_pop, wp_getfield, wp_putfield, wp_getstatic, wp_iaload, wp_baload, wp_aaload, wp_iastore, wp_arraylength, wp_goto, wp_fall, wp_ieq, wp_ine, wp_ilt, wp_ige, wp_igt, wp_ile, wp_ceq, wp_cne, wp_clt, wp_cge, wp_cgt, wp_cle, wp_sw, wp_ret0, wp_ret1z, wp_ret1o, wp_ret1, wp_ret2, wp_ret3, wp_ret4, wp_ret5, wp_return, wp_min, wp_max, wp_abs, am_ex, gset_eq, gset_ne, upd_eq, upd_ne, gset_gset, am_ci_1, am_ci_6, am_toList_some, am_toList_none, true_implies, false_implies, and_self, and_true, true_and, not_true_eq_false, not_false_eq_true, imp_self, implies_true, Classical.not_not, if_true, if_false, false_and, and_false, or_false, false_or, true_or, or_true, Nat.reduceAdd, Nat.reduceMul, Nat.reduceSub, Nat.reduceLT, Nat.reduceLeDiff, Nat.reduceEqDiff, Nat.reduceBneDiff, Nat.add_zero, Nat.zero_add, reduceCtorEq, wil0, wal0, wis0, wic0, wil1, wal1, wis1, wic1, wil2, wll2, wal2, wis2, was2, wls2, wic2, wil3, wis3, wic3, wic3m, wic3s, wil4, wis4, wic4, wil5, wis5, wic5, wic5m, wil6, wll6, wal6, wis6, was6, wls6, wic6, wil7, wal7, wis7, was7, wic7, wil8, wis8, wic8, wil9, wis9, wic9, wil10, wis10, wic10, am_nI_inj, am_nI_lt, am_nI_le, nI_add, pk_mul, am_nI_sub, am_add_m1, am_gfs, am_pfs, am_alds, am_asts, am_lens, tgf0, tgf1, tgf2, tgf3, tgf4, tgf5, tgf6, tgf7, tgf8, tgf9, tgf10, tgf11, tgf12, tpf7, tpf8, tpf9, tal0, tas0, tln0, tal1, tas1, tln1, tal2, tas2, tln2, tal3, tas3, tln3, tal4, tas4, tln4, tal5, tas5, tln5, tal6, tas6, tln6, tal7, tas7, tln7, tal8, tas8, tln8, tal9, tas9, tln9, bk139_0, bk139_17, bk139_38, am_B139_0, am_B139_17, am_B139_38, bn139_40, C_X4_isWithin, h1', bI_t, e2, f8, q1]
  exact key
