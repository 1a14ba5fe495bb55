/-! ===== the model's calls: prizeFor, tell, away, swapFor ===== -/
theorem mI_dec2 {d : Nat} (hd : d < 2 ^ 30) : nI d + nM = mI d := by
  unfold mI
  by_cases h : d = 0
  · subst h; decide
  · rw [if_neg h]
    have e := am_add_m1 (a := d) (by omega)
    rw [show am_ci (-1) = nM from rfl] at e
    exact e
theorem MSt_prize {S : SS} {G : GG} {p y0 y : Nat} (h : MSt (sTown S (S.1.1, updT S.1.2.1 0 p y0, S.1.2.2)) G) (hn : S.1.1 ≤ 8) (hp : p < 8) : MSt (sTown S (S.1.1, updT S.1.2.1 0 p y, S.1.2.2)) (gset G 59 (upd (G 59) (13 + p) (nI y))) := by
  have h2 := MSt_town (S := sTown S (S.1.1, updT S.1.2.1 0 p y0, S.1.2.2)) (w := (S.1.1, updT (updT S.1.2.1 0 p y0) 0 p y, S.1.2.2)) h (ME_prize (x := y) h.1 hn hp) (fun o h1 h2 h3 h4 => gset_ne h1)
  have e : updT (updT S.1.2.1 0 p y0) 0 p y = updT S.1.2.1 0 p y := updT_updT _ _ _ _ _
  rw [e] at h2
  exact h2
theorem MT_prizeFor {X : AmX} {S : SS} {G : GG} (h : MSt S G) (hv : SV S) (a1 a2 : Int32) : MW X 113 [.ref 58, .int a1, .int a2] G (sp_prizeFor S a1 a2) := by
  have hE := h.1
  have f0 := hE.2.1
  have hv8 := hv.1.1.1
  have hm := MS_MR h hv
  unfold MW sp_prizeFor
  have e2 : (nI 1 = nI 0) = False := eq_false (by decide)
  show WP X 113 (am_blk 113 0) [some (.ref 58), some (.int a1), some (.int a2), none, none, none] [] G _
  by_cases h1 : inR a1 (nI 0) (nI 7) = true
  rotate_left
  · rw [if_neg (fun z => h1 z.1)]
    rw [Bool.not_eq_true] at h1
    simp (config := { maxSteps := 1000000 }) (disch := first | exact am_nl_i | exact am_nl_r | exact am_nl_n | exact am_l0 | exact am_l1 | exact am_l2 | exact am_l3 | assumption | omega) only [wp_ldc, wp_sipush, wp_ldc_w, wp_lconst, wp_iadd, wp_isub, wp_imul, wp_iand, wp_ior, wp_ixor, wp_ishl, wp_ishr, wp_iushr, wp_idiv, wp_irem, wp_ineg, wp_i2b, wp_i2s, wp_i2c, wp_i2l, wp_ladd, wp_lmul, wp_lcmp, wp_dup_i, wp_dup_r, wp_dup2, wp_pop, wp_getfield, wp_putfield, wp_getstatic, wp_iaload, wp_baload, wp_aaload, wp_iastore, wp_arraylength, wp_goto, wp_fall, wp_ieq, wp_ine, wp_ilt, wp_ige, wp_igt, wp_ile, wp_ceq, wp_cne, wp_clt, wp_cge, wp_cgt, wp_cle, wp_sw, wp_ret0, wp_ret1z, wp_ret1o, wp_ret1, wp_ret2, wp_ret3, wp_ret4, wp_ret5, wp_return, wp_min, wp_max, wp_abs, am_ex, gset_eq, gset_ne, upd_eq, upd_ne, gset_gset, am_ci_1, am_ci_6, am_toList_some, am_toList_none, true_implies, false_implies, and_self, and_true, true_and, not_true_eq_false, not_false_eq_true, imp_self, implies_true, Classical.not_not, if_true, if_false, false_and, and_false, or_false, false_or, true_or, or_true, Nat.reduceAdd, Nat.reduceMul, Nat.reduceSub, Nat.reduceLT, Nat.reduceLeDiff, Nat.reduceEqDiff, Nat.reduceBneDiff, Nat.add_zero, Nat.zero_add, reduceCtorEq, wil0, wal0, wis0, wic0, wil1, wal1, wis1, wic1, wil2, wll2, wal2, wis2, was2, wls2, wic2, wil3, wis3, wic3, wic3m, wic3s, wil4, wis4, wic4, wil5, wis5, wic5, wic5m, wil6, wll6, wal6, wis6, was6, wls6, wic6, wil7, wal7, wis7, was7, wic7, wil8, wis8, wic8, wil9, wis9, wic9, wil10, wis10, wic10, am_nI_inj, am_nI_lt, am_nI_le, nI_add, pk_mul, am_nI_sub, am_add_m1, am_gfs, am_pfs, am_alds, am_asts, am_lens, bs113, am_B113_0, am_B113_17, am_B113_24, am_B113_42, am_B113_72, am_B113_74, am_B113_82, C_X5_isPerson, C_X5_isPlace, C_X5_within, C_X5_isKind, C_X5_isSpot, C_X5_isSheet, C_X5_isPrize, C_X5_isAhead, h1, bI_t, bI_f, e2, f0, fcs, C_X5_finding]
    first | exact ⟨rfl, MSt_fnd h (by omega), mfnd_frame⟩ | exact ⟨MSt_fnd h (by omega), mfnd_frame⟩
  by_cases h2 : inR a2 (nI 0) (nI 8) = true
  rotate_left
  · rw [if_neg (fun z => h2 z.2)]
    rw [Bool.not_eq_true] at h2
    simp (config := { maxSteps := 1000000 }) (disch := first | exact am_nl_i | exact am_nl_r | exact am_nl_n | exact am_l0 | exact am_l1 | exact am_l2 | exact am_l3 | assumption | omega) only [wp_ldc, wp_sipush, wp_ldc_w, wp_lconst, wp_iadd, wp_isub, wp_imul, wp_iand, wp_ior, wp_ixor, wp_ishl, wp_ishr, wp_iushr, wp_idiv, wp_irem, wp_ineg, wp_i2b, wp_i2s, wp_i2c, wp_i2l, wp_ladd, wp_lmul, wp_lcmp, wp_dup_i, wp_dup_r, wp_dup2, wp_pop, wp_getfield, wp_putfield, wp_getstatic, wp_iaload, wp_baload, wp_aaload, wp_iastore, wp_arraylength, wp_goto, wp_fall, wp_ieq, wp_ine, wp_ilt, wp_ige, wp_igt, wp_ile, wp_ceq, wp_cne, wp_clt, wp_cge, wp_cgt, wp_cle, wp_sw, wp_ret0, wp_ret1z, wp_ret1o, wp_ret1, wp_ret2, wp_ret3, wp_ret4, wp_ret5, wp_return, wp_min, wp_max, wp_abs, am_ex, gset_eq, gset_ne, upd_eq, upd_ne, gset_gset, am_ci_1, am_ci_6, am_toList_some, am_toList_none, true_implies, false_implies, and_self, and_true, true_and, not_true_eq_false, not_false_eq_true, imp_self, implies_true, Classical.not_not, if_true, if_false, false_and, and_false, or_false, false_or, true_or, or_true, Nat.reduceAdd, Nat.reduceMul, Nat.reduceSub, Nat.reduceLT, Nat.reduceLeDiff, Nat.reduceEqDiff, Nat.reduceBneDiff, Nat.add_zero, Nat.zero_add, reduceCtorEq, wil0, wal0, wis0, wic0, wil1, wal1, wis1, wic1, wil2, wll2, wal2, wis2, was2, wls2, wic2, wil3, wis3, wic3, wic3m, wic3s, wil4, wis4, wic4, wil5, wis5, wic5, wic5m, wil6, wll6, wal6, wis6, was6, wls6, wic6, wil7, wal7, wis7, was7, wic7, wil8, wis8, wic8, wil9, wis9, wic9, wil10, wis10, wic10, am_nI_inj, am_nI_lt, am_nI_le, nI_add, pk_mul, am_nI_sub, am_add_m1, am_gfs, am_pfs, am_alds, am_asts, am_lens, bs113, am_B113_0, am_B113_17, am_B113_24, am_B113_42, am_B113_72, am_B113_74, am_B113_82, C_X5_isPerson, C_X5_isPlace, C_X5_within, C_X5_isKind, C_X5_isSpot, C_X5_isSheet, C_X5_isPrize, C_X5_isAhead, h1, h2, bI_t, bI_f, e2, f0, fcs, C_X5_finding]
    first | exact ⟨rfl, MSt_fnd h (by omega), mfnd_frame⟩ | exact ⟨MSt_fnd h (by omega), mfnd_frame⟩
  rw [if_pos ⟨h1, h2⟩]
  obtain ⟨p, hp, rfl, h1'⟩ := rng_of (by omega) h1
  obtain ⟨x, hx, rfl, h2'⟩ := rng_of (by omega) h2
  rw [aN_nI (show p < 2 ^ 31 by omega), aN_nI (show x < 2 ^ 31 by omega)]
  have hp8 : p < 8 := by omega
  have c0 := hE.2.2.2.2.1 p hp8
  generalize hF : (fun v => decide (x ≤ ccN (updT S.1.2.1 0 p v) S.1.1 p)) = f
  have hFk : ∀ v, f v = decide (x ≤ ccN (updT S.1.2.1 0 p v) S.1.1 p) := fun v => by rw [← hF]
  generalize hQ : (fun (w : Option Value) (G1 : GG) => w = some (.int (orFnd S 3 (srchN f 201 0)).1) ∧ MSt (orFnd S 3 (srchN f 201 0)).2 G1 ∧ ∀ o, o < 58 → G1 o = G o) = Q
  have key : ∀ j d : Nat, j + d = 201 → ∀ (G' : GG) (y0 : Nat), MSt (sTown S (S.1.1, updT S.1.2.1 0 p y0, S.1.2.2)) G' → (∀ o, o < 58 → G' o = G o) → WP X 113 (am_blk 113 42) [some (.ref 58), some (.int (nI p)), some (.int (nI x)), some (.int (nI (S.1.2.1 0 p))), some (.int (eO (srchN f d j))), some (.int (mI j))] [] G' Q := by
    intro j
    induction j with
    | zero =>
      intro d hd G' y0 hc hf
      obtain rfl : d = 201 := by omega
      have em : mI 0 = nM := rfl
      have q0 : (nM < nI 0) = True := nM_lt (by omega)
      have hT := MSt_prize (y := S.1.2.1 0 p) hc hv8 hp8
      rw [sTown_self] at hT
      rw [bh113_42, ← hQ, em]
      cases hs : srchN f 201 0 with
      | none =>
        have eo : eO none = nM := rfl
        simp (config := { maxSteps := 1000000 }) (disch := first | exact am_nl_i | exact am_nl_r | exact am_nl_n | exact am_l0 | exact am_l1 | exact am_l2 | exact am_l3 | assumption | omega) only [wp_ldc, wp_sipush, wp_ldc_w, wp_lconst, wp_iadd, wp_isub, wp_imul, wp_iand, wp_ior, wp_ixor, wp_ishl, wp_ishr, wp_iushr, wp_idiv, wp_irem, wp_ineg, wp_i2b, wp_i2s, wp_i2c, wp_i2l, wp_ladd, wp_lmul, wp_lcmp, wp_dup_i, wp_dup_r, wp_dup2, wp_pop, wp_getfield, wp_putfield, wp_getstatic, wp_iaload, wp_baload, wp_aaload, wp_iastore, wp_arraylength, wp_goto, wp_fall, wp_ieq, wp_ine, wp_ilt, wp_ige, wp_igt, wp_ile, wp_ceq, wp_cne, wp_clt, wp_cge, wp_cgt, wp_cle, wp_sw, wp_ret0, wp_ret1z, wp_ret1o, wp_ret1, wp_ret2, wp_ret3, wp_ret4, wp_ret5, wp_return, wp_min, wp_max, wp_abs, am_ex, gset_eq, gset_ne, upd_eq, upd_ne, gset_gset, am_ci_1, am_ci_6, am_toList_some, am_toList_none, true_implies, false_implies, and_self, and_true, true_and, not_true_eq_false, not_false_eq_true, imp_self, implies_true, Classical.not_not, if_true, if_false, false_and, and_false, or_false, false_or, true_or, or_true, Nat.reduceAdd, Nat.reduceMul, Nat.reduceSub, Nat.reduceLT, Nat.reduceLeDiff, Nat.reduceEqDiff, Nat.reduceBneDiff, Nat.add_zero, Nat.zero_add, reduceCtorEq, wil0, wal0, wis0, wic0, wil1, wal1, wis1, wic1, wil2, wll2, wal2, wis2, was2, wls2, wic2, wil3, wis3, wic3, wic3m, wic3s, wil4, wis4, wic4, wil5, wis5, wic5, wic5m, wil6, wll6, wal6, wis6, was6, wls6, wic6, wil7, wal7, wis7, was7, wic7, wil8, wis8, wic8, wil9, wis9, wic9, wil10, wis10, wic10, am_nI_inj, am_nI_lt, am_nI_le, nI_add, pk_mul, am_nI_sub, am_add_m1, am_gfs, am_pfs, am_alds, am_asts, am_lens, bk113_82, am_B113_42, am_B113_82, q0, eo, C_orNoneM]
        first
          | exact ⟨rfl, MSt_fnd hT (f := 3) (by omega), fun o ho => (mfnd_frame o ho).trans (by rw [gset_ne (by omega)]; exact hf o ho)⟩
          | exact ⟨MSt_fnd hT (f := 3) (by omega), fun o ho => (mfnd_frame o ho).trans (by rw [gset_ne (by omega)]; exact hf o ho)⟩
      | some b =>
        have eo : eO (some b) = nI b := rfl
        have hb : b < 2 ^ 31 := by
          have hl : ∀ d i b, srchN f d i = some b → b < i + d := by
            intro d
            induction d with
            | zero => intro i b h; cases h
            | succ d ih =>
              intro i b h
              by_cases hi : f i = true
              · rw [srch_1 hi] at h
                have := Option.some.inj h
                omega
              · rw [srch_n hi] at h
                have := ih (i + 1) b h
                omega
          have := hl 201 0 b hs
          omega
        simp (config := { maxSteps := 1000000 }) (disch := first | exact am_nl_i | exact am_nl_r | exact am_nl_n | exact am_l0 | exact am_l1 | exact am_l2 | exact am_l3 | assumption | omega) only [wp_ldc, wp_sipush, wp_ldc_w, wp_lconst, wp_iadd, wp_isub, wp_imul, wp_iand, wp_ior, wp_ixor, wp_ishl, wp_ishr, wp_iushr, wp_idiv, wp_irem, wp_ineg, wp_i2b, wp_i2s, wp_i2c, wp_i2l, wp_ladd, wp_lmul, wp_lcmp, wp_dup_i, wp_dup_r, wp_dup2, wp_pop, wp_getfield, wp_putfield, wp_getstatic, wp_iaload, wp_baload, wp_aaload, wp_iastore, wp_arraylength, wp_goto, wp_fall, wp_ieq, wp_ine, wp_ilt, wp_ige, wp_igt, wp_ile, wp_ceq, wp_cne, wp_clt, wp_cge, wp_cgt, wp_cle, wp_sw, wp_ret0, wp_ret1z, wp_ret1o, wp_ret1, wp_ret2, wp_ret3, wp_ret4, wp_ret5, wp_return, wp_min, wp_max, wp_abs, am_ex, gset_eq, gset_ne, upd_eq, upd_ne, gset_gset, am_ci_1, am_ci_6, am_toList_some, am_toList_none, true_implies, false_implies, and_self, and_true, true_and, not_true_eq_false, not_false_eq_true, imp_self, implies_true, Classical.not_not, if_true, if_false, false_and, and_false, or_false, false_or, true_or, or_true, Nat.reduceAdd, Nat.reduceMul, Nat.reduceSub, Nat.reduceLT, Nat.reduceLeDiff, Nat.reduceEqDiff, Nat.reduceBneDiff, Nat.add_zero, Nat.zero_add, reduceCtorEq, wil0, wal0, wis0, wic0, wil1, wal1, wis1, wic1, wil2, wll2, wal2, wis2, was2, wls2, wic2, wil3, wis3, wic3, wic3m, wic3s, wil4, wis4, wic4, wil5, wis5, wic5, wic5m, wil6, wll6, wal6, wis6, was6, wls6, wic6, wil7, wal7, wis7, was7, wic7, wil8, wis8, wic8, wil9, wis9, wic9, wil10, wis10, wic10, am_nI_inj, am_nI_lt, am_nI_le, nI_add, pk_mul, am_nI_sub, am_add_m1, am_gfs, am_pfs, am_alds, am_asts, am_lens, bk113_82, am_B113_42, am_B113_82, q0, eo, C_X5_orNone]
        first | exact ⟨rfl, hT, fun o ho => by rw [gset_ne (by omega)]; exact hf o ho⟩ | exact ⟨hT, fun o ho => by rw [gset_ne (by omega)]; exact hf o ho⟩
    | succ j ih =>
      intro d hd G' y0 hc hf
      have em : mI (j + 1) = nI j := mI_s j
      have q0 : (nI j < nI 0) = False := by rw [am_nI_lt (by omega) (by omega)]; exact eq_false (by omega)
      have e1 := mI_dec2 (d := j) (by omega)
      have hT := MSt_prize (y := j) hc hv8 hp8
      have hvT := SV_fr (w := (S.1.1, updT S.1.2.1 0 p j, S.1.2.2)) hv (TWV_prize hv.1 (by omega))
      obtain ⟨G3, hev, hf3⟩ := X5_manyNow (X := X) (MS_MR hT hvT) hp8
      have hev : Ev X 114 [.ref 58, .int (nI p)] (gset G' 59 (upd (G' 59) (13 + p) (nI j))) (some (.int (nI (ccN (updT S.1.2.1 0 p j) S.1.1 p)))) G3 := hev
      have hD := fun (k : Nat) (r : List Instr) (lv : LV) (st : List Value) (Q : Option Value → GG → Prop) (hl : st.length ≤ 4) => WP_ev (k := k) (st := .int (nI p) :: .ref 58 :: st) (rest := st) (r := r) (lv := lv) (Q := Q) hev (by decide) (c := 2) rfl rfl hl rfl
      have hc3 := MSt_congr hT (fun o _ h2 h3 => hf3 o h2 h3)
      have hcc := ccN_le (updT S.1.2.1 0 p j) S.1.1 p
      have ihk := ih (d + 1) (by omega) G3 j hc3 (fun o ho => by rw [hf3 o (by omega) (by omega), gset_ne (by omega)]; exact hf o ho)
      rw [bh113_42, em]
      by_cases hs : f j = true
      · rw [srch_1 hs] at ihk
        have eo : eO (some j) = nI j := rfl
        rw [eo] at ihk
        rw [hFk] at hs
        have hs := of_decide_eq_true hs
        have q2 : (ccN (updT S.1.2.1 0 p j) S.1.1 p < x) = False := eq_false (by omega)
        simp (config := { maxSteps := 1000000 }) (disch := first | exact am_nl_i | exact am_nl_r | exact am_nl_n | exact am_l0 | exact am_l1 | exact am_l2 | exact am_l3 | assumption | omega) only [wp_ldc, wp_sipush, wp_ldc_w, wp_lconst, wp_iadd, wp_isub, wp_imul, wp_iand, wp_ior, wp_ixor, wp_ishl, wp_ishr, wp_iushr, wp_idiv, wp_irem, wp_ineg, wp_i2b, wp_i2s, wp_i2c, wp_i2l, wp_ladd, wp_lmul, wp_lcmp, wp_dup_i, wp_dup_r, wp_dup2, wp_pop, wp_getfield, wp_putfield, wp_getstatic, wp_iaload, wp_baload, wp_aaload, wp_iastore, wp_arraylength, wp_goto, wp_fall, wp_ieq, wp_ine, wp_ilt, wp_ige, wp_igt, wp_ile, wp_ceq, wp_cne, wp_clt, wp_cge, wp_cgt, wp_cle, wp_sw, wp_ret0, wp_ret1z, wp_ret1o, wp_ret1, wp_ret2, wp_ret3, wp_ret4, wp_ret5, wp_return, wp_min, wp_max, wp_abs, am_ex, gset_eq, gset_ne, upd_eq, upd_ne, gset_gset, am_ci_1, am_ci_6, am_toList_some, am_toList_none, true_implies, false_implies, and_self, and_true, true_and, not_true_eq_false, not_false_eq_true, imp_self, implies_true, Classical.not_not, if_true, if_false, false_and, and_false, or_false, false_or, true_or, or_true, Nat.reduceAdd, Nat.reduceMul, Nat.reduceSub, Nat.reduceLT, Nat.reduceLeDiff, Nat.reduceEqDiff, Nat.reduceBneDiff, Nat.add_zero, Nat.zero_add, reduceCtorEq, wil0, wal0, wis0, wic0, wil1, wal1, wis1, wic1, wil2, wll2, wal2, wis2, was2, wls2, wic2, wil3, wis3, wic3, wic3m, wic3s, wil4, wis4, wic4, wil5, wis5, wic5, wic5m, wil6, wll6, wal6, wis6, was6, wls6, wic6, wil7, wal7, wis7, was7, wic7, wil8, wis8, wic8, wil9, wis9, wic9, wil10, wis10, wic10, am_nI_inj, am_nI_lt, am_nI_le, nI_add, pk_mul, am_nI_sub, am_add_m1, am_gfs, am_pfs, am_alds, am_asts, am_lens, bk113_72, bk113_74, am_B113_42, am_B113_72, am_B113_74, bn113_42, q0, hD, q2, fcs, e1]
        exact ihk
      · rw [srch_n hs] at ihk
        rw [hFk] at hs
        have hs : ¬ x ≤ ccN (updT S.1.2.1 0 p j) S.1.1 p := fun z => hs (decide_eq_true z)
        have q2 : (ccN (updT S.1.2.1 0 p j) S.1.1 p < x) = True := eq_true (by omega)
        simp (config := { maxSteps := 1000000 }) (disch := first | exact am_nl_i | exact am_nl_r | exact am_nl_n | exact am_l0 | exact am_l1 | exact am_l2 | exact am_l3 | assumption | omega) only [wp_ldc, wp_sipush, wp_ldc_w, wp_lconst, wp_iadd, wp_isub, wp_imul, wp_iand, wp_ior, wp_ixor, wp_ishl, wp_ishr, wp_iushr, wp_idiv, wp_irem, wp_ineg, wp_i2b, wp_i2s, wp_i2c, wp_i2l, wp_ladd, wp_lmul, wp_lcmp, wp_dup_i, wp_dup_r, wp_dup2, wp_pop, wp_getfield, wp_putfield, wp_getstatic, wp_iaload, wp_baload, wp_aaload, wp_iastore, wp_arraylength, wp_goto, wp_fall, wp_ieq, wp_ine, wp_ilt, wp_ige, wp_igt, wp_ile, wp_ceq, wp_cne, wp_clt, wp_cge, wp_cgt, wp_cle, wp_sw, wp_ret0, wp_ret1z, wp_ret1o, wp_ret1, wp_ret2, wp_ret3, wp_ret4, wp_ret5, wp_return, wp_min, wp_max, wp_abs, am_ex, gset_eq, gset_ne, upd_eq, upd_ne, gset_gset, am_ci_1, am_ci_6, am_toList_some, am_toList_none, true_implies, false_implies, and_self, and_true, true_and, not_true_eq_false, not_false_eq_true, imp_self, implies_true, Classical.not_not, if_true, if_false, false_and, and_false, or_false, false_or, true_or, or_true, Nat.reduceAdd, Nat.reduceMul, Nat.reduceSub, Nat.reduceLT, Nat.reduceLeDiff, Nat.reduceEqDiff, Nat.reduceBneDiff, Nat.add_zero, Nat.zero_add, reduceCtorEq, wil0, wal0, wis0, wic0, wil1, wal1, wis1, wic1, wil2, wll2, wal2, wis2, was2, wls2, wic2, wil3, wis3, wic3, wic3m, wic3s, wil4, wis4, wic4, wil5, wis5, wic5, wic5m, wil6, wll6, wal6, wis6, was6, wls6, wic6, wil7, wal7, wis7, was7, wic7, wil8, wis8, wic8, wil9, wis9, wic9, wil10, wis10, wic10, am_nI_inj, am_nI_lt, am_nI_le, nI_add, pk_mul, am_nI_sub, am_add_m1, am_gfs, am_pfs, am_alds, am_asts, am_lens, bk113_72, bk113_74, am_B113_42, am_B113_72, am_B113_74, bn113_42, q0, hD, q2, fcs, e1]
        exact ihk
  have hs0 : MSt (sTown S (S.1.1, updT S.1.2.1 0 p (S.1.2.1 0 p), S.1.2.2)) G := by rw [sTown_self]; exact h
  have k0 := key 201 0 rfl G _ hs0 (fun _ _ => rfl)
  have e0 : eO (srchN f 0 201) = nM := rfl
  have e1 : mI 201 = nI 200 := rfl
  rw [e0, e1] at k0
  simp (config := { maxSteps := 1000000 }) (disch := first | exact am_nl_i | exact am_nl_r | exact am_nl_n | exact am_l0 | exact am_l1 | exact am_l2 | exact am_l3 | assumption | omega) only [wp_ldc, wp_sipush, wp_ldc_w, wp_lconst, wp_iadd, wp_isub, wp_imul, wp_iand, wp_ior, wp_ixor, wp_ishl, wp_ishr, wp_iushr, wp_idiv, wp_irem, wp_ineg, wp_i2b, wp_i2s, wp_i2c, wp_i2l, wp_ladd, wp_lmul, wp_lcmp, wp_dup_i, wp_dup_r, wp_dup2, wp_pop, wp_getfield, wp_putfield, wp_getstatic, wp_iaload, wp_baload, wp_aaload, wp_iastore, wp_arraylength, wp_goto, wp_fall, wp_ieq, wp_ine, wp_ilt, wp_ige, wp_igt, wp_ile, wp_ceq, wp_cne, wp_clt, wp_cge, wp_cgt, wp_cle, wp_sw, wp_ret0, wp_ret1z, wp_ret1o, wp_ret1, wp_ret2, wp_ret3, wp_ret4, wp_ret5, wp_return, wp_min, wp_max, wp_abs, am_ex, gset_eq, gset_ne, upd_eq, upd_ne, gset_gset, am_ci_1, am_ci_6, am_toList_some, am_toList_none, true_implies, false_implies, and_self, and_true, true_and, not_true_eq_false, not_false_eq_true, imp_self, implies_true, Classical.not_not, if_true, if_false, false_and, and_false, or_false, false_or, true_or, or_true, Nat.reduceAdd, Nat.reduceMul, Nat.reduceSub, Nat.reduceLT, Nat.reduceLeDiff, Nat.reduceEqDiff, Nat.reduceBneDiff, Nat.add_zero, Nat.zero_add, reduceCtorEq, wil0, wal0, wis0, wic0, wil1, wal1, wis1, wic1, wil2, wll2, wal2, wis2, was2, wls2, wic2, wil3, wis3, wic3, wic3m, wic3s, wil4, wis4, wic4, wil5, wis5, wic5, wic5m, wil6, wll6, wal6, wis6, was6, wls6, wic6, wil7, wal7, wis7, was7, wic7, wil8, wis8, wic8, wil9, wis9, wic9, wil10, wis10, wic10, am_nI_inj, am_nI_lt, am_nI_le, nI_add, pk_mul, am_nI_sub, am_add_m1, am_gfs, am_pfs, am_alds, am_asts, am_lens, bk113_0, bk113_24, am_B113_0, am_B113_24, bn113_42, C_X5_isPlace, C_X5_within, h1', h2', bI_t, e2, c0, fcs]
  exact k0
theorem MR_of {G : GG} {n : Nat} {T : TT} {t z : Int32} (h : ME G 59 n T t z) (h7 : G 58 7 = eP 8) (hV : TV n T) (hp : ∀ i, i < n → T 2 i < 8) : MR G n T t z 8 := by
  have := hV.1
  refine ⟨h, h7, Nat.le_refl 8, fun i hi => ?_, hV⟩
  have := hp i hi
  omega
theorem E_X5_has {X : AmX} {G : GG} (m i : Nat) (hm : m < 256) (hi : i < 8) : Ev X 119 [.int (nI m), .int (nI i)] G (some (.int (bI (Nat.testBit m i)))) (G) := by
  refine Ev_of ?_
  show WP X 119 (am_blk 119 0) [some (.int (nI m)), some (.int (nI i))] [] G _
  have hb := bit_of m hm i hi
  cases ht : Nat.testBit m i
  · rw [ht] at hb
    have hb : (nI m >>> (nI i &&& 31)) &&& nI 1 = nI 0 := hb
    have q : (nI 0 = nI 1) = False := eq_false (by decide)
    simp (config := { maxSteps := 1000000 }) (disch := first | exact am_nl_i | exact am_nl_r | exact am_nl_n | exact am_l0 | exact am_l1 | exact am_l2 | exact am_l3 | assumption | omega) only [wp_ldc, wp_sipush, wp_ldc_w, wp_lconst, wp_iadd, wp_isub, wp_imul, wp_iand, wp_ior, wp_ixor, wp_ishl, wp_ishr, wp_iushr, wp_idiv, wp_irem, wp_ineg, wp_i2b, wp_i2s, wp_i2c, wp_i2l, wp_ladd, wp_lmul, wp_lcmp, wp_dup_i, wp_dup_r, wp_dup2, wp_pop, wp_getfield, wp_putfield, wp_getstatic, wp_iaload, wp_baload, wp_aaload, wp_iastore, wp_arraylength, wp_goto, wp_fall, wp_ieq, wp_ine, wp_ilt, wp_ige, wp_igt, wp_ile, wp_ceq, wp_cne, wp_clt, wp_cge, wp_cgt, wp_cle, wp_sw, wp_ret0, wp_ret1z, wp_ret1o, wp_ret1, wp_ret2, wp_ret3, wp_ret4, wp_ret5, wp_return, wp_min, wp_max, wp_abs, am_ex, gset_eq, gset_ne, upd_eq, upd_ne, gset_gset, am_ci_1, am_ci_6, am_toList_some, am_toList_none, true_implies, false_implies, and_self, and_true, true_and, not_true_eq_false, not_false_eq_true, imp_self, implies_true, Classical.not_not, if_true, if_false, false_and, and_false, or_false, false_or, true_or, or_true, Nat.reduceAdd, Nat.reduceMul, Nat.reduceSub, Nat.reduceLT, Nat.reduceLeDiff, Nat.reduceEqDiff, Nat.reduceBneDiff, Nat.add_zero, Nat.zero_add, reduceCtorEq, wil0, wal0, wis0, wic0, wil1, wal1, wis1, wic1, wil2, wll2, wal2, wis2, was2, wls2, wic2, wil3, wis3, wic3, wic3m, wic3s, wil4, wis4, wic4, wil5, wis5, wic5, wic5m, wil6, wll6, wal6, wis6, was6, wls6, wic6, wil7, wal7, wis7, was7, wic7, wil8, wis8, wic8, wil9, wis9, wic9, wil10, wis10, wic10, am_nI_inj, am_nI_lt, am_nI_le, nI_add, pk_mul, am_nI_sub, am_add_m1, am_gfs, am_pfs, am_alds, am_asts, am_lens, bs119, am_B119_0, am_B119_13, am_B119_14, hb, bI_f, q]
  · rw [ht] at hb
    have hb : (nI m >>> (nI i &&& 31)) &&& nI 1 = nI 1 := hb
    simp (config := { maxSteps := 1000000 }) (disch := first | exact am_nl_i | exact am_nl_r | exact am_nl_n | exact am_l0 | exact am_l1 | exact am_l2 | exact am_l3 | assumption | omega) only [wp_ldc, wp_sipush, wp_ldc_w, wp_lconst, wp_iadd, wp_isub, wp_imul, wp_iand, wp_ior, wp_ixor, wp_ishl, wp_ishr, wp_iushr, wp_idiv, wp_irem, wp_ineg, wp_i2b, wp_i2s, wp_i2c, wp_i2l, wp_ladd, wp_lmul, wp_lcmp, wp_dup_i, wp_dup_r, wp_dup2, wp_pop, wp_getfield, wp_putfield, wp_getstatic, wp_iaload, wp_baload, wp_aaload, wp_iastore, wp_arraylength, wp_goto, wp_fall, wp_ieq, wp_ine, wp_ilt, wp_ige, wp_igt, wp_ile, wp_ceq, wp_cne, wp_clt, wp_cge, wp_cgt, wp_cle, wp_sw, wp_ret0, wp_ret1z, wp_ret1o, wp_ret1, wp_ret2, wp_ret3, wp_ret4, wp_ret5, wp_return, wp_min, wp_max, wp_abs, am_ex, gset_eq, gset_ne, upd_eq, upd_ne, gset_gset, am_ci_1, am_ci_6, am_toList_some, am_toList_none, true_implies, false_implies, and_self, and_true, true_and, not_true_eq_false, not_false_eq_true, imp_self, implies_true, Classical.not_not, if_true, if_false, false_and, and_false, or_false, false_or, true_or, or_true, Nat.reduceAdd, Nat.reduceMul, Nat.reduceSub, Nat.reduceLT, Nat.reduceLeDiff, Nat.reduceEqDiff, Nat.reduceBneDiff, Nat.add_zero, Nat.zero_add, reduceCtorEq, wil0, wal0, wis0, wic0, wil1, wal1, wis1, wic1, wil2, wll2, wal2, wis2, was2, wls2, wic2, wil3, wis3, wic3, wic3m, wic3s, wil4, wis4, wic4, wil5, wis5, wic5, wic5m, wil6, wll6, wal6, wis6, was6, wls6, wic6, wil7, wal7, wis7, was7, wic7, wil8, wis8, wic8, wil9, wis9, wic9, wil10, wis10, wic10, am_nI_inj, am_nI_lt, am_nI_le, nI_add, pk_mul, am_nI_sub, am_add_m1, am_gfs, am_pfs, am_alds, am_asts, am_lens, bs119, am_B119_0, am_B119_13, am_B119_14, hb, bI_t]
theorem C_X5_has {X : AmX} {G : GG} {k : Nat} {r : List Instr} {lv : LV} {st : List Value} {Q : Option Value → GG → Prop} {m i : Nat} (hm : m < 256) (hi : i < 8) (hl : st.length ≤ 4) : WP X k (.invokeinterface 119 2 :: r) lv ((.int (nI i)) :: (.int (nI m)) :: st) G Q ↔ WP X k r lv ((.int (bI (Nat.testBit m i))) :: st) (G) Q := WP_ev (E_X5_has m i hm hi) (by decide) rfl rfl hl (rfl)
theorem telT_lt {T : TT} {m p j n : Nat} (hp : p < 8) (h : ∀ i, i < n → T 2 i < 8) : ∀ i, i < n → telT T m p j 2 i < 8 := by
  intro i hi
  unfold telT
  split
  · exact hp
  · exact h i hi
theorem CM_told {X : AmX} {S : SS} {G : GG} (h : MSt S G) (hv : SV S) (m p : Nat) (hm : m < 256) (hp : p < 8) : ∃ G1, Ev X 118 [.ref 58, .int (nI m), .int (nI p)] G (some (.int (nI (ccN (telT S.1.2.1 m p S.1.1) S.1.1 p)))) G1 ∧ MSt S G1 ∧ ∀ o, o < 58 → G1 o = G o := by
  suffices hh : WPm X 118 [.ref 58, .int (nI m), .int (nI p)] G (fun v G1 => v = some (.int (nI (ccN (telT S.1.2.1 m p S.1.1) S.1.1 p))) ∧ MSt S G1 ∧ ∀ o, o < 58 → G1 o = G o) by
    obtain ⟨v, G1, h1, rfl, h2⟩ := WPm_ev hh
    exact ⟨G1, h1, h2⟩
  have hv8 := hv.1.1.1
  have e2 : (nI 1 = nI 0) = False := eq_false (by decide)
  show WP X 118 (am_blk 118 0) [some (.ref 58), some (.int (nI m)), some (.int (nI p)), none] [] G _
  generalize hQ : (fun (v : Option Value) (G1 : GG) => v = some (.int (nI (ccN (telT S.1.2.1 m p S.1.1) S.1.1 p))) ∧ MSt S G1 ∧ ∀ o, o < 58 → G1 o = G o) = Q
  have key : ∀ d i : Nat, i + d = S.1.1 → ∀ G', MTS S S.1.1 (telT S.1.2.1 m p i) (nI S.1.2.2.1) S.1.2.2.2 8 G' → (∀ o, o < 58 → G' o = G o) → WP X 118 (am_blk 118 13) [some (.ref 58), some (.int (nI m)), some (.int (nI p)), some (.int (nI i))] [] G' Q := by
    intro d
    induction d with
    | zero =>
      intro i hi G' hc hf
      have hi' : i = S.1.1 := by omega
      rw [hi'] at hc ⊢
      have a1 := hc.1.1.2.1
      obtain ⟨G3, hev, hf3⟩ := X5_manyNow (X := X) hc.1 hp
      have hD := fun (k : Nat) (r : List Instr) (lv : LV) (st : List Value) (Q : Option Value → GG → Prop) (hl : st.length ≤ 4) => WP_ev (k := k) (st := .int (nI p) :: .ref 58 :: st) (rest := st) (r := r) (lv := lv) (Q := Q) hev (by decide) (c := 2) rfl rfl hl rfl
      have hc3 := MTS_congr hc hf3
      obtain ⟨G4, hP, hc4, hf4⟩ := CM_put (X := X) hc3 hv
      rw [bh118_13]
      simp (config := { maxSteps := 1000000 }) (disch := first | exact am_nl_i | exact am_nl_r | exact am_nl_n | exact am_l0 | exact am_l1 | exact am_l2 | exact am_l3 | assumption | omega) only [wp_ldc, wp_sipush, wp_ldc_w, wp_lconst, wp_iadd, wp_isub, wp_imul, wp_iand, wp_ior, wp_ixor, wp_ishl, wp_ishr, wp_iushr, wp_idiv, wp_irem, wp_ineg, wp_i2b, wp_i2s, wp_i2c, wp_i2l, wp_ladd, wp_lmul, wp_lcmp, wp_dup_i, wp_dup_r, wp_dup2, wp_pop, wp_getfield, wp_putfield, wp_getstatic, wp_iaload, wp_baload, wp_aaload, wp_iastore, wp_arraylength, wp_goto, wp_fall, wp_ieq, wp_ine, wp_ilt, wp_ige, wp_igt, wp_ile, wp_ceq, wp_cne, wp_clt, wp_cge, wp_cgt, wp_cle, wp_sw, wp_ret0, wp_ret1z, wp_ret1o, wp_ret1, wp_ret2, wp_ret3, wp_ret4, wp_ret5, wp_return, wp_min, wp_max, wp_abs, am_ex, gset_eq, gset_ne, upd_eq, upd_ne, gset_gset, am_ci_1, am_ci_6, am_toList_some, am_toList_none, true_implies, false_implies, and_self, and_true, true_and, not_true_eq_false, not_false_eq_true, imp_self, implies_true, Classical.not_not, if_true, if_false, false_and, and_false, or_false, false_or, true_or, or_true, Nat.reduceAdd, Nat.reduceMul, Nat.reduceSub, Nat.reduceLT, Nat.reduceLeDiff, Nat.reduceEqDiff, Nat.reduceBneDiff, Nat.add_zero, Nat.zero_add, reduceCtorEq, wil0, wal0, wis0, wic0, wil1, wal1, wis1, wic1, wil2, wll2, wal2, wis2, was2, wls2, wic2, wil3, wis3, wic3, wic3m, wic3s, wil4, wis4, wic4, wil5, wis5, wic5, wic5m, wil6, wll6, wal6, wis6, was6, wls6, wic6, wil7, wal7, wis7, was7, wic7, wil8, wis8, wic8, wil9, wis9, wic9, wil10, wis10, wic10, am_nI_inj, am_nI_lt, am_nI_le, nI_add, pk_mul, am_nI_sub, am_add_m1, am_gfs, am_pfs, am_alds, am_asts, am_lens, bk118_57, am_B118_13, am_B118_57, a1, Nat.le_refl, hD, hP]
      rw [← hQ]
      exact ⟨rfl, hc4, fun o ho => (hf4 o ho).trans ((hf3 o (by omega) (by omega)).trans (hf o ho))⟩
    | succ d ih =>
      intro i hi G' hc hf
      have hin : i < S.1.1 := by omega
      have hi8 : i < 8 := by omega
      have q1 : (S.1.1 ≤ i) = False := eq_false (by omega)
      have a1 := hc.1.1.2.1
      have hVt := hc.1.2.2.2.2
      have hpl := telT_lt (m := m) (j := i) hp hv.1.2.1 i hin
      have c1 := hc.1.1.2.2.2.2.2.2.1 i hin hpl
      rw [bh118_13]
      by_cases ht : Nat.testBit m i = true
      · have hM := ME_set (i := i) (k := 1) (x := p) (v := nI p) hc.1.1 hv8 hin (by omega) (fun e => absurd rfl e) (fun _ _ => rfl)
        have e12 : (1 + 1 : Nat) = 2 := rfl
        rw [e12, ← telT_s ht] at hM
        have hV2 := TV_set (i := i) (k := 1) (x := p) hVt hin (fun e => absurd e (by omega)) (fun _ => by omega) (fun e => absurd e (by omega)) (fun e => absurd e (by omega)) (fun e => absurd e (by omega)) (by omega)
        rw [e12, ← telT_s ht] at hV2
        have hr : MR (gset G' 59 (upd (G' 59) (21 + 5 * i + 1) (nI p))) S.1.1 (telT S.1.2.1 m p (i + 1)) (nI S.1.2.2.1) S.1.2.2.2 8 := MR_of hM (by rw [gset_ne (by omega)]; exact hc.1.2.1) hV2 (telT_lt hp hv.1.2.1)
        have hc2 := MTS_row hc hr (fun o h1 h2 h3 => gset_ne h1)
        have ihk := ih (i + 1) (by omega) _ hc2 (fun o ho => by rw [gset_ne (by omega)]; exact hf o ho)
        simp (config := { maxSteps := 1000000 }) (disch := first | exact am_nl_i | exact am_nl_r | exact am_nl_n | exact am_l0 | exact am_l1 | exact am_l2 | exact am_l3 | assumption | omega) only [wp_ldc, wp_sipush, wp_ldc_w, wp_lconst, wp_iadd, wp_isub, wp_imul, wp_iand, wp_ior, wp_ixor, wp_ishl, wp_ishr, wp_iushr, wp_idiv, wp_irem, wp_ineg, wp_i2b, wp_i2s, wp_i2c, wp_i2l, wp_ladd, wp_lmul, wp_lcmp, wp_dup_i, wp_dup_r, wp_dup2, wp_pop, wp_getfield, wp_putfield, wp_getstatic, wp_iaload, wp_baload, wp_aaload, wp_iastore, wp_arraylength, wp_goto, wp_fall, wp_ieq, wp_ine, wp_ilt, wp_ige, wp_igt, wp_ile, wp_ceq, wp_cne, wp_clt, wp_cge, wp_cgt, wp_cle, wp_sw, wp_ret0, wp_ret1z, wp_ret1o, wp_ret1, wp_ret2, wp_ret3, wp_ret4, wp_ret5, wp_return, wp_min, wp_max, wp_abs, am_ex, gset_eq, gset_ne, upd_eq, upd_ne, gset_gset, am_ci_1, am_ci_6, am_toList_some, am_toList_none, true_implies, false_implies, and_self, and_true, true_and, not_true_eq_false, not_false_eq_true, imp_self, implies_true, Classical.not_not, if_true, if_false, false_and, and_false, or_false, false_or, true_or, or_true, Nat.reduceAdd, Nat.reduceMul, Nat.reduceSub, Nat.reduceLT, Nat.reduceLeDiff, Nat.reduceEqDiff, Nat.reduceBneDiff, Nat.add_zero, Nat.zero_add, reduceCtorEq, wil0, wal0, wis0, wic0, wil1, wal1, wis1, wic1, wil2, wll2, wal2, wis2, was2, wls2, wic2, wil3, wis3, wic3, wic3m, wic3s, wil4, wis4, wic4, wil5, wis5, wic5, wic5m, wil6, wll6, wal6, wis6, was6, wls6, wic6, wil7, wal7, wis7, was7, wic7, wil8, wis8, wic8, wil9, wis9, wic9, wil10, wis10, wic10, am_nI_inj, am_nI_lt, am_nI_le, nI_add, pk_mul, am_nI_sub, am_add_m1, am_gfs, am_pfs, am_alds, am_asts, am_lens, bk118_44, bk118_50, am_B118_13, am_B118_44, am_B118_50, bn118_13, a1, q1, C_X5_at, C_X5_has, ht, bI_t, e2]
        exact ihk
      · rw [Bool.not_eq_true] at ht
        have hM := ME_set (i := i) (k := 1) (x := telT S.1.2.1 m p i 2 i) (v := nI (telT S.1.2.1 m p i 2 i)) hc.1.1 hv8 hin (by omega) (fun e => absurd rfl e) (fun _ _ => rfl)
        have e12 : (1 + 1 : Nat) = 2 := rfl
        rw [e12, updT_id] at hM
        have hr : MR (gset G' 59 (upd (G' 59) (21 + 5 * i + 1) (nI (telT S.1.2.1 m p i 2 i)))) S.1.1 (telT S.1.2.1 m p i) (nI S.1.2.2.1) S.1.2.2.2 8 := MR_of hM (by rw [gset_ne (by omega)]; exact hc.1.2.1) hVt (telT_lt hp hv.1.2.1)
        have hc2 := MTS_row hc hr (fun o h1 h2 h3 => gset_ne h1)
        have ihk := ih (i + 1) (by omega) (gset G' 59 (upd (G' 59) (21 + 5 * i + 1) (nI (telT S.1.2.1 m p i 2 i)))) (by rw [telT_n ht]; exact hc2) (fun o ho => by rw [gset_ne (by omega)]; exact hf o ho)
        simp (config := { maxSteps := 1000000 }) (disch := first | exact am_nl_i | exact am_nl_r | exact am_nl_n | exact am_l0 | exact am_l1 | exact am_l2 | exact am_l3 | assumption | omega) only [wp_ldc, wp_sipush, wp_ldc_w, wp_lconst, wp_iadd, wp_isub, wp_imul, wp_iand, wp_ior, wp_ixor, wp_ishl, wp_ishr, wp_iushr, wp_idiv, wp_irem, wp_ineg, wp_i2b, wp_i2s, wp_i2c, wp_i2l, wp_ladd, wp_lmul, wp_lcmp, wp_dup_i, wp_dup_r, wp_dup2, wp_pop, wp_getfield, wp_putfield, wp_getstatic, wp_iaload, wp_baload, wp_aaload, wp_iastore, wp_arraylength, wp_goto, wp_fall, wp_ieq, wp_ine, wp_ilt, wp_ige, wp_igt, wp_ile, wp_ceq, wp_cne, wp_clt, wp_cge, wp_cgt, wp_cle, wp_sw, wp_ret0, wp_ret1z, wp_ret1o, wp_ret1, wp_ret2, wp_ret3, wp_ret4, wp_ret5, wp_return, wp_min, wp_max, wp_abs, am_ex, gset_eq, gset_ne, upd_eq, upd_ne, gset_gset, am_ci_1, am_ci_6, am_toList_some, am_toList_none, true_implies, false_implies, and_self, and_true, true_and, not_true_eq_false, not_false_eq_true, imp_self, implies_true, Classical.not_not, if_true, if_false, false_and, and_false, or_false, false_or, true_or, or_true, Nat.reduceAdd, Nat.reduceMul, Nat.reduceSub, Nat.reduceLT, Nat.reduceLeDiff, Nat.reduceEqDiff, Nat.reduceBneDiff, Nat.add_zero, Nat.zero_add, reduceCtorEq, wil0, wal0, wis0, wic0, wil1, wal1, wis1, wic1, wil2, wll2, wal2, wis2, was2, wls2, wic2, wil3, wis3, wic3, wic3m, wic3s, wil4, wis4, wic4, wil5, wis5, wic5, wic5m, wil6, wll6, wal6, wis6, was6, wls6, wic6, wil7, wal7, wis7, was7, wic7, wil8, wis8, wic8, wil9, wis9, wic9, wil10, wis10, wic10, am_nI_inj, am_nI_lt, am_nI_le, nI_add, pk_mul, am_nI_sub, am_add_m1, am_gfs, am_pfs, am_alds, am_asts, am_lens, bk118_44, bk118_50, am_B118_13, am_B118_44, am_B118_50, bn118_13, a1, q1, C_X5_at, C_X5_has, ht, bI_f, C_X5_personIs, c1]
        exact ihk
  obtain ⟨G1, hC, hc1, hf1⟩ := CM_copy (X := X) h hv
  have k0 := key S.1.1 0 (by omega) G1 (by rw [telT_0]; exact hc1) hf1
  simp (config := { maxSteps := 1000000 }) (disch := first | exact am_nl_i | exact am_nl_r | exact am_nl_n | exact am_l0 | exact am_l1 | exact am_l2 | exact am_l3 | assumption | omega) only [wp_ldc, wp_sipush, wp_ldc_w, wp_lconst, wp_iadd, wp_isub, wp_imul, wp_iand, wp_ior, wp_ixor, wp_ishl, wp_ishr, wp_iushr, wp_idiv, wp_irem, wp_ineg, wp_i2b, wp_i2s, wp_i2c, wp_i2l, wp_ladd, wp_lmul, wp_lcmp, wp_dup_i, wp_dup_r, wp_dup2, wp_pop, wp_getfield, wp_putfield, wp_getstatic, wp_iaload, wp_baload, wp_aaload, wp_iastore, wp_arraylength, wp_goto, wp_fall, wp_ieq, wp_ine, wp_ilt, wp_ige, wp_igt, wp_ile, wp_ceq, wp_cne, wp_clt, wp_cge, wp_cgt, wp_cle, wp_sw, wp_ret0, wp_ret1z, wp_ret1o, wp_ret1, wp_ret2, wp_ret3, wp_ret4, wp_ret5, wp_return, wp_min, wp_max, wp_abs, am_ex, gset_eq, gset_ne, upd_eq, upd_ne, gset_gset, am_ci_1, am_ci_6, am_toList_some, am_toList_none, true_implies, false_implies, and_self, and_true, true_and, not_true_eq_false, not_false_eq_true, imp_self, implies_true, Classical.not_not, if_true, if_false, false_and, and_false, or_false, false_or, true_or, or_true, Nat.reduceAdd, Nat.reduceMul, Nat.reduceSub, Nat.reduceLT, Nat.reduceLeDiff, Nat.reduceEqDiff, Nat.reduceBneDiff, Nat.add_zero, Nat.zero_add, reduceCtorEq, wil0, wal0, wis0, wic0, wil1, wal1, wis1, wic1, wil2, wll2, wal2, wis2, was2, wls2, wic2, wil3, wis3, wic3, wic3m, wic3s, wil4, wis4, wic4, wil5, wis5, wic5, wic5m, wil6, wll6, wal6, wis6, was6, wls6, wic6, wil7, wal7, wis7, was7, wic7, wil8, wis8, wic8, wil9, wis9, wic9, wil10, wis10, wic10, am_nI_inj, am_nI_lt, am_nI_le, nI_add, pk_mul, am_nI_sub, am_add_m1, am_gfs, am_pfs, am_alds, am_asts, am_lens, bk118_0, am_B118_0, bn118_13, hC]
  exact k0
theorem MT_tell {X : AmX} {S : SS} {G : GG} (h : MSt S G) (hv : SV S) (a1 a2 : Int32) : MW X 117 [.ref 58, .int a1, .int a2] G (sp_tell S a1 a2) := by
  have hE := h.1
  have f0 := hE.2.1
  have hv8 := hv.1.1.1
  have hm := MS_MR h hv
  unfold MW sp_tell
  have e2 : (nI 1 = nI 0) = False := eq_false (by decide)
  show WP X 117 (am_blk 117 0) [some (.ref 58), some (.int a1), some (.int a2), none, none, none] [] G _
  by_cases h1 : inR a1 (nI 0) (nI 7) = true
  rotate_left
  · rw [if_neg (fun z => h1 z.1)]
    rw [Bool.not_eq_true] at h1
    simp (config := { maxSteps := 1000000 }) (disch := first | exact am_nl_i | exact am_nl_r | exact am_nl_n | exact am_l0 | exact am_l1 | exact am_l2 | exact am_l3 | assumption | omega) only [wp_ldc, wp_sipush, wp_ldc_w, wp_lconst, wp_iadd, wp_isub, wp_imul, wp_iand, wp_ior, wp_ixor, wp_ishl, wp_ishr, wp_iushr, wp_idiv, wp_irem, wp_ineg, wp_i2b, wp_i2s, wp_i2c, wp_i2l, wp_ladd, wp_lmul, wp_lcmp, wp_dup_i, wp_dup_r, wp_dup2, wp_pop, wp_getfield, wp_putfield, wp_getstatic, wp_iaload, wp_baload, wp_aaload, wp_iastore, wp_arraylength, wp_goto, wp_fall, wp_ieq, wp_ine, wp_ilt, wp_ige, wp_igt, wp_ile, wp_ceq, wp_cne, wp_clt, wp_cge, wp_cgt, wp_cle, wp_sw, wp_ret0, wp_ret1z, wp_ret1o, wp_ret1, wp_ret2, wp_ret3, wp_ret4, wp_ret5, wp_return, wp_min, wp_max, wp_abs, am_ex, gset_eq, gset_ne, upd_eq, upd_ne, gset_gset, am_ci_1, am_ci_6, am_toList_some, am_toList_none, true_implies, false_implies, and_self, and_true, true_and, not_true_eq_false, not_false_eq_true, imp_self, implies_true, Classical.not_not, if_true, if_false, false_and, and_false, or_false, false_or, true_or, or_true, Nat.reduceAdd, Nat.reduceMul, Nat.reduceSub, Nat.reduceLT, Nat.reduceLeDiff, Nat.reduceEqDiff, Nat.reduceBneDiff, Nat.add_zero, Nat.zero_add, reduceCtorEq, wil0, wal0, wis0, wic0, wil1, wal1, wis1, wic1, wil2, wll2, wal2, wis2, was2, wls2, wic2, wil3, wis3, wic3, wic3m, wic3s, wil4, wis4, wic4, wil5, wis5, wic5, wic5m, wil6, wll6, wal6, wis6, was6, wls6, wic6, wil7, wal7, wis7, was7, wic7, wil8, wis8, wic8, wil9, wis9, wic9, wil10, wis10, wic10, am_nI_inj, am_nI_lt, am_nI_le, nI_add, pk_mul, am_nI_sub, am_add_m1, am_gfs, am_pfs, am_alds, am_asts, am_lens, bs117, am_B117_0, am_B117_17, am_B117_24, am_B117_29, am_B117_58, am_B117_62, am_B117_63, am_B117_86, am_B117_87, am_B117_94, C_X5_isPerson, C_X5_isPlace, C_X5_within, C_X5_isKind, C_X5_isSpot, C_X5_isSheet, C_X5_isPrize, C_X5_isAhead, h1, bI_t, bI_f, e2, f0, fcs, C_X5_finding]
    first | exact ⟨rfl, MSt_fnd h (by omega), mfnd_frame⟩ | exact ⟨MSt_fnd h (by omega), mfnd_frame⟩
  by_cases h2 : inR a2 (nI 0) (nI 8) = true
  rotate_left
  · rw [if_neg (fun z => h2 z.2)]
    rw [Bool.not_eq_true] at h2
    simp (config := { maxSteps := 1000000 }) (disch := first | exact am_nl_i | exact am_nl_r | exact am_nl_n | exact am_l0 | exact am_l1 | exact am_l2 | exact am_l3 | assumption | omega) only [wp_ldc, wp_sipush, wp_ldc_w, wp_lconst, wp_iadd, wp_isub, wp_imul, wp_iand, wp_ior, wp_ixor, wp_ishl, wp_ishr, wp_iushr, wp_idiv, wp_irem, wp_ineg, wp_i2b, wp_i2s, wp_i2c, wp_i2l, wp_ladd, wp_lmul, wp_lcmp, wp_dup_i, wp_dup_r, wp_dup2, wp_pop, wp_getfield, wp_putfield, wp_getstatic, wp_iaload, wp_baload, wp_aaload, wp_iastore, wp_arraylength, wp_goto, wp_fall, wp_ieq, wp_ine, wp_ilt, wp_ige, wp_igt, wp_ile, wp_ceq, wp_cne, wp_clt, wp_cge, wp_cgt, wp_cle, wp_sw, wp_ret0, wp_ret1z, wp_ret1o, wp_ret1, wp_ret2, wp_ret3, wp_ret4, wp_ret5, wp_return, wp_min, wp_max, wp_abs, am_ex, gset_eq, gset_ne, upd_eq, upd_ne, gset_gset, am_ci_1, am_ci_6, am_toList_some, am_toList_none, true_implies, false_implies, and_self, and_true, true_and, not_true_eq_false, not_false_eq_true, imp_self, implies_true, Classical.not_not, if_true, if_false, false_and, and_false, or_false, false_or, true_or, or_true, Nat.reduceAdd, Nat.reduceMul, Nat.reduceSub, Nat.reduceLT, Nat.reduceLeDiff, Nat.reduceEqDiff, Nat.reduceBneDiff, Nat.add_zero, Nat.zero_add, reduceCtorEq, wil0, wal0, wis0, wic0, wil1, wal1, wis1, wic1, wil2, wll2, wal2, wis2, was2, wls2, wic2, wil3, wis3, wic3, wic3m, wic3s, wil4, wis4, wic4, wil5, wis5, wic5, wic5m, wil6, wll6, wal6, wis6, was6, wls6, wic6, wil7, wal7, wis7, was7, wic7, wil8, wis8, wic8, wil9, wis9, wic9, wil10, wis10, wic10, am_nI_inj, am_nI_lt, am_nI_le, nI_add, pk_mul, am_nI_sub, am_add_m1, am_gfs, am_pfs, am_alds, am_asts, am_lens, bs117, am_B117_0, am_B117_17, am_B117_24, am_B117_29, am_B117_58, am_B117_62, am_B117_63, am_B117_86, am_B117_87, am_B117_94, C_X5_isPerson, C_X5_isPlace, C_X5_within, C_X5_isKind, C_X5_isSpot, C_X5_isSheet, C_X5_isPrize, C_X5_isAhead, h1, h2, bI_t, bI_f, e2, f0, fcs, C_X5_finding]
    first | exact ⟨rfl, MSt_fnd h (by omega), mfnd_frame⟩ | exact ⟨MSt_fnd h (by omega), mfnd_frame⟩
  rw [if_pos ⟨h1, h2⟩]
  obtain ⟨p, hp, rfl, h1'⟩ := rng_of (by omega) h1
  obtain ⟨x, hx, rfl, h2'⟩ := rng_of (by omega) h2
  rw [aN_nI (show p < 2 ^ 31 by omega), aN_nI (show x < 2 ^ 31 by omega)]
  have hp8 : p < 8 := by omega
  generalize hQ : (fun (w : Option Value) (G1 : GG) => w = some (.int (orFnd S 3 (telN S p x (2 ^ S.1.1))).1) ∧ MSt (orFnd S 3 (telN S p x (2 ^ S.1.1))).2 G1 ∧ ∀ o, o < 58 → G1 o = G o) = Q
  have hpw := pow_of S.1.1 (by omega)
  have hp256 : 2 ^ S.1.1 ≤ 2 ^ 8 := Nat.pow_le_pow_right (by decide) hv8
  have hp256 : 2 ^ S.1.1 ≤ 256 := hp256
  have n0 : (nM < nI 0) = True := eq_true (by decide)
  have key : ∀ d m : Nat, m + d = 2 ^ S.1.1 → ∀ (G' : GG) (v5 : Option Value), MSt S G' → (∀ o, o < 58 → G' o = G o) → WP X 117 (am_blk 117 29) [some (.ref 58), some (.int (nI p)), some (.int (nI x)), some (.int (eO (telN S p x m))), some (.int (nI m)), v5] [] G' Q := by
    intro d
    induction d with
    | zero =>
      intro m hm' G' v5 hc hf
      have g0 := hc.1.2.1
      obtain rfl : m = 2 ^ S.1.1 := by omega
      rw [bh117_29, ← hQ]
      cases ht : telN S p x (2 ^ S.1.1) with
      | none =>
        have eo : eO none = nM := rfl
        generalize 2 ^ S.1.1 = pw at *
        simp (config := { maxSteps := 1000000 }) (disch := first | exact am_nl_i | exact am_nl_r | exact am_nl_n | exact am_l0 | exact am_l1 | exact am_l2 | exact am_l3 | assumption | omega) only [wp_ldc, wp_sipush, wp_ldc_w, wp_lconst, wp_iadd, wp_isub, wp_imul, wp_iand, wp_ior, wp_ixor, wp_ishl, wp_ishr, wp_iushr, wp_idiv, wp_irem, wp_ineg, wp_i2b, wp_i2s, wp_i2c, wp_i2l, wp_ladd, wp_lmul, wp_lcmp, wp_dup_i, wp_dup_r, wp_dup2, wp_pop, wp_getfield, wp_putfield, wp_getstatic, wp_iaload, wp_baload, wp_aaload, wp_iastore, wp_arraylength, wp_goto, wp_fall, wp_ieq, wp_ine, wp_ilt, wp_ige, wp_igt, wp_ile, wp_ceq, wp_cne, wp_clt, wp_cge, wp_cgt, wp_cle, wp_sw, wp_ret0, wp_ret1z, wp_ret1o, wp_ret1, wp_ret2, wp_ret3, wp_ret4, wp_ret5, wp_return, wp_min, wp_max, wp_abs, am_ex, gset_eq, gset_ne, upd_eq, upd_ne, gset_gset, am_ci_1, am_ci_6, am_toList_some, am_toList_none, true_implies, false_implies, and_self, and_true, true_and, not_true_eq_false, not_false_eq_true, imp_self, implies_true, Classical.not_not, if_true, if_false, false_and, and_false, or_false, false_or, true_or, or_true, Nat.reduceAdd, Nat.reduceMul, Nat.reduceSub, Nat.reduceLT, Nat.reduceLeDiff, Nat.reduceEqDiff, Nat.reduceBneDiff, Nat.add_zero, Nat.zero_add, reduceCtorEq, wil0, wal0, wis0, wic0, wil1, wal1, wis1, wic1, wil2, wll2, wal2, wis2, was2, wls2, wic2, wil3, wis3, wic3, wic3m, wic3s, wil4, wis4, wic4, wil5, wis5, wic5, wic5m, wil6, wll6, wal6, wis6, was6, wls6, wic6, wil7, wal7, wis7, was7, wic7, wil8, wis8, wic8, wil9, wis9, wic9, wil10, wis10, wic10, am_nI_inj, am_nI_lt, am_nI_le, nI_add, pk_mul, am_nI_sub, am_add_m1, am_gfs, am_pfs, am_alds, am_asts, am_lens, bk117_94, am_B117_29, am_B117_94, g0, hpw, Nat.le_refl, eo, C_orNoneM]
        first
          | exact ⟨rfl, MSt_fnd hc (f := 3) (by omega), fun o ho => (mfnd_frame o ho).trans (hf o ho)⟩
          | exact ⟨MSt_fnd hc (f := 3) (by omega), fun o ho => (mfnd_frame o ho).trans (hf o ho)⟩
      | some b =>
        have eo : eO (some b) = nI b := rfl
        have hb := telN_lt _ b ht
        have hb31 : b < 2 ^ 31 := by omega
        generalize 2 ^ S.1.1 = pw at *
        simp (config := { maxSteps := 1000000 }) (disch := first | exact am_nl_i | exact am_nl_r | exact am_nl_n | exact am_l0 | exact am_l1 | exact am_l2 | exact am_l3 | assumption | omega) only [wp_ldc, wp_sipush, wp_ldc_w, wp_lconst, wp_iadd, wp_isub, wp_imul, wp_iand, wp_ior, wp_ixor, wp_ishl, wp_ishr, wp_iushr, wp_idiv, wp_irem, wp_ineg, wp_i2b, wp_i2s, wp_i2c, wp_i2l, wp_ladd, wp_lmul, wp_lcmp, wp_dup_i, wp_dup_r, wp_dup2, wp_pop, wp_getfield, wp_putfield, wp_getstatic, wp_iaload, wp_baload, wp_aaload, wp_iastore, wp_arraylength, wp_goto, wp_fall, wp_ieq, wp_ine, wp_ilt, wp_ige, wp_igt, wp_ile, wp_ceq, wp_cne, wp_clt, wp_cge, wp_cgt, wp_cle, wp_sw, wp_ret0, wp_ret1z, wp_ret1o, wp_ret1, wp_ret2, wp_ret3, wp_ret4, wp_ret5, wp_return, wp_min, wp_max, wp_abs, am_ex, gset_eq, gset_ne, upd_eq, upd_ne, gset_gset, am_ci_1, am_ci_6, am_toList_some, am_toList_none, true_implies, false_implies, and_self, and_true, true_and, not_true_eq_false, not_false_eq_true, imp_self, implies_true, Classical.not_not, if_true, if_false, false_and, and_false, or_false, false_or, true_or, or_true, Nat.reduceAdd, Nat.reduceMul, Nat.reduceSub, Nat.reduceLT, Nat.reduceLeDiff, Nat.reduceEqDiff, Nat.reduceBneDiff, Nat.add_zero, Nat.zero_add, reduceCtorEq, wil0, wal0, wis0, wic0, wil1, wal1, wis1, wic1, wil2, wll2, wal2, wis2, was2, wls2, wic2, wil3, wis3, wic3, wic3m, wic3s, wil4, wis4, wic4, wil5, wis5, wic5, wic5m, wil6, wll6, wal6, wis6, was6, wls6, wic6, wil7, wal7, wis7, was7, wic7, wil8, wis8, wic8, wil9, wis9, wic9, wil10, wis10, wic10, am_nI_inj, am_nI_lt, am_nI_le, nI_add, pk_mul, am_nI_sub, am_add_m1, am_gfs, am_pfs, am_alds, am_asts, am_lens, bk117_94, am_B117_29, am_B117_94, g0, hpw, Nat.le_refl, eo, C_X5_orNone]
        first | exact ⟨rfl, hc, hf⟩ | exact ⟨hc, hf⟩
    | succ d ih =>
      intro m hm' G' v5 hc hf
      have g0 := hc.1.2.1
      have q1 : (2 ^ S.1.1 ≤ m) = False := eq_false (by omega)
      have hm256 : m < 256 := by omega
      obtain ⟨G1, hev, hc1, hf1⟩ := CM_told (X := X) hc hv m p hm256 hp8
      have hC := fun (k : Nat) (r : List Instr) (lv : LV) (st : List Value) (Q : Option Value → GG → Prop) (hl : st.length ≤ 4) => WP_ev (k := k) (st := .int (nI p) :: .int (nI m) :: .ref 58 :: st) (rest := st) (r := r) (lv := lv) (Q := Q) hev (by decide) (c := 3) rfl rfl hl rfl
      have hff : ∀ o, o < 58 → G1 o = G o := fun o ho => (hf1 o ho).trans (hf o ho)
      have lcc := ccN_le (telT S.1.2.1 m p S.1.1) S.1.1 p
      have l1 := popN_le m hm256
      have ihs : ∀ (v : Option Nat), telN S p x (m + 1) = v → ∀ v5, WP X 117 (am_blk 117 29) [some (.ref 58), some (.int (nI p)), some (.int (nI x)), some (.int (eO v)), some (.int (nI (m + 1))), v5] [] G1 Q := fun v hv' v5 => by rw [← hv']; exact ih (m + 1) (by omega) G1 v5 hc1 hff
      have ihf : ∀ (v : Option Nat), telN S p x (m + 1) = v → ∀ v5, WP X 117 (am_blk 117 29) [some (.ref 58), some (.int (nI p)), some (.int (nI x)), some (.int (eO v)), some (.int (nI (m + 1))), v5] [] G' Q := fun v hv' v5 => by rw [← hv']; exact ih (m + 1) (by omega) G' v5 hc hf
      have hst : telN S p x (m + 1) = if (match telN S p x m with | none => true | some b => decide (popN m < popN b)) = true ∧ x ≤ ccN (telT S.1.2.1 m p S.1.1) S.1.1 p then some m else telN S p x m := rfl
      rw [bh117_29]
      generalize ccN (telT S.1.2.1 m p S.1.1) S.1.1 p = cc at *
      have em : eO (some m) = nI m := rfl
      have en : eO none = nM := rfl
      cases ht : telN S p x m with
      | none =>
        rw [ht] at hst
        by_cases hx2 : x ≤ cc
        · rw [if_pos ⟨rfl, hx2⟩] at hst
          have ihk := ihs _ hst
          rw [em] at ihk
          have q3 : (cc < x) = False := eq_false (by omega)
          generalize 2 ^ S.1.1 = pw at *
          simp (config := { maxSteps := 1000000 }) (disch := first | exact am_nl_i | exact am_nl_r | exact am_nl_n | exact am_l0 | exact am_l1 | exact am_l2 | exact am_l3 | assumption | omega) only [wp_ldc, wp_sipush, wp_ldc_w, wp_lconst, wp_iadd, wp_isub, wp_imul, wp_iand, wp_ior, wp_ixor, wp_ishl, wp_ishr, wp_iushr, wp_idiv, wp_irem, wp_ineg, wp_i2b, wp_i2s, wp_i2c, wp_i2l, wp_ladd, wp_lmul, wp_lcmp, wp_dup_i, wp_dup_r, wp_dup2, wp_pop, wp_getfield, wp_putfield, wp_getstatic, wp_iaload, wp_baload, wp_aaload, wp_iastore, wp_arraylength, wp_goto, wp_fall, wp_ieq, wp_ine, wp_ilt, wp_ige, wp_igt, wp_ile, wp_ceq, wp_cne, wp_clt, wp_cge, wp_cgt, wp_cle, wp_sw, wp_ret0, wp_ret1z, wp_ret1o, wp_ret1, wp_ret2, wp_ret3, wp_ret4, wp_ret5, wp_return, wp_min, wp_max, wp_abs, am_ex, gset_eq, gset_ne, upd_eq, upd_ne, gset_gset, am_ci_1, am_ci_6, am_toList_some, am_toList_none, true_implies, false_implies, and_self, and_true, true_and, not_true_eq_false, not_false_eq_true, imp_self, implies_true, Classical.not_not, if_true, if_false, false_and, and_false, or_false, false_or, true_or, or_true, Nat.reduceAdd, Nat.reduceMul, Nat.reduceSub, Nat.reduceLT, Nat.reduceLeDiff, Nat.reduceEqDiff, Nat.reduceBneDiff, Nat.add_zero, Nat.zero_add, reduceCtorEq, wil0, wal0, wis0, wic0, wil1, wal1, wis1, wic1, wil2, wll2, wal2, wis2, was2, wls2, wic2, wil3, wis3, wic3, wic3m, wic3s, wil4, wis4, wic4, wil5, wis5, wic5, wic5m, wil6, wll6, wal6, wis6, was6, wls6, wic6, wil7, wal7, wis7, was7, wic7, wil8, wis8, wic8, wil9, wis9, wic9, wil10, wis10, wic10, am_nI_inj, am_nI_lt, am_nI_le, nI_add, pk_mul, am_nI_sub, am_add_m1, am_gfs, am_pfs, am_alds, am_asts, am_lens, bk117_58, bk117_62, bk117_63, bk117_86, bk117_87, am_B117_29, am_B117_58, am_B117_62, am_B117_63, am_B117_86, am_B117_87, bn117_29, g0, hpw, q1, en, n0, e2, hC, q3]
          exact ihk _
        · rw [if_neg (fun z => hx2 z.2)] at hst
          have ihk := ihs _ hst
          rw [en] at ihk
          have q3 : (cc < x) = True := eq_true (by omega)
          generalize 2 ^ S.1.1 = pw at *
          simp (config := { maxSteps := 1000000 }) (disch := first | exact am_nl_i | exact am_nl_r | exact am_nl_n | exact am_l0 | exact am_l1 | exact am_l2 | exact am_l3 | assumption | omega) only [wp_ldc, wp_sipush, wp_ldc_w, wp_lconst, wp_iadd, wp_isub, wp_imul, wp_iand, wp_ior, wp_ixor, wp_ishl, wp_ishr, wp_iushr, wp_idiv, wp_irem, wp_ineg, wp_i2b, wp_i2s, wp_i2c, wp_i2l, wp_ladd, wp_lmul, wp_lcmp, wp_dup_i, wp_dup_r, wp_dup2, wp_pop, wp_getfield, wp_putfield, wp_getstatic, wp_iaload, wp_baload, wp_aaload, wp_iastore, wp_arraylength, wp_goto, wp_fall, wp_ieq, wp_ine, wp_ilt, wp_ige, wp_igt, wp_ile, wp_ceq, wp_cne, wp_clt, wp_cge, wp_cgt, wp_cle, wp_sw, wp_ret0, wp_ret1z, wp_ret1o, wp_ret1, wp_ret2, wp_ret3, wp_ret4, wp_ret5, wp_return, wp_min, wp_max, wp_abs, am_ex, gset_eq, gset_ne, upd_eq, upd_ne, gset_gset, am_ci_1, am_ci_6, am_toList_some, am_toList_none, true_implies, false_implies, and_self, and_true, true_and, not_true_eq_false, not_false_eq_true, imp_self, implies_true, Classical.not_not, if_true, if_false, false_and, and_false, or_false, false_or, true_or, or_true, Nat.reduceAdd, Nat.reduceMul, Nat.reduceSub, Nat.reduceLT, Nat.reduceLeDiff, Nat.reduceEqDiff, Nat.reduceBneDiff, Nat.add_zero, Nat.zero_add, reduceCtorEq, wil0, wal0, wis0, wic0, wil1, wal1, wis1, wic1, wil2, wll2, wal2, wis2, was2, wls2, wic2, wil3, wis3, wic3, wic3m, wic3s, wil4, wis4, wic4, wil5, wis5, wic5, wic5m, wil6, wll6, wal6, wis6, was6, wls6, wic6, wil7, wal7, wis7, was7, wic7, wil8, wis8, wic8, wil9, wis9, wic9, wil10, wis10, wic10, am_nI_inj, am_nI_lt, am_nI_le, nI_add, pk_mul, am_nI_sub, am_add_m1, am_gfs, am_pfs, am_alds, am_asts, am_lens, bk117_58, bk117_62, bk117_63, bk117_86, bk117_87, am_B117_29, am_B117_58, am_B117_62, am_B117_63, am_B117_86, am_B117_87, bn117_29, g0, hpw, q1, en, n0, e2, hC, q3]
          exact ihk _
      | some b =>
        rw [ht] at hst
        have eb : eO (some b) = nI b := rfl
        have hb := telN_lt _ b ht
        have hb256 : b < 256 := by omega
        have lb := popN_le b hb256
        have q0 : (b < 0) = False := eq_false (by omega)
        by_cases hfe : popN m < popN b
        · have q4 : (popN b ≤ popN m) = False := eq_false (by omega)
          by_cases hx2 : x ≤ cc
          · rw [if_pos ⟨decide_eq_true hfe, hx2⟩] at hst
            have ihk := ihs _ hst
            rw [em] at ihk
            have q3 : (cc < x) = False := eq_false (by omega)
            generalize 2 ^ S.1.1 = pw at *
            simp (config := { maxSteps := 1000000 }) (disch := first | exact am_nl_i | exact am_nl_r | exact am_nl_n | exact am_l0 | exact am_l1 | exact am_l2 | exact am_l3 | assumption | omega) only [wp_ldc, wp_sipush, wp_ldc_w, wp_lconst, wp_iadd, wp_isub, wp_imul, wp_iand, wp_ior, wp_ixor, wp_ishl, wp_ishr, wp_iushr, wp_idiv, wp_irem, wp_ineg, wp_i2b, wp_i2s, wp_i2c, wp_i2l, wp_ladd, wp_lmul, wp_lcmp, wp_dup_i, wp_dup_r, wp_dup2, wp_pop, wp_getfield, wp_putfield, wp_getstatic, wp_iaload, wp_baload, wp_aaload, wp_iastore, wp_arraylength, wp_goto, wp_fall, wp_ieq, wp_ine, wp_ilt, wp_ige, wp_igt, wp_ile, wp_ceq, wp_cne, wp_clt, wp_cge, wp_cgt, wp_cle, wp_sw, wp_ret0, wp_ret1z, wp_ret1o, wp_ret1, wp_ret2, wp_ret3, wp_ret4, wp_ret5, wp_return, wp_min, wp_max, wp_abs, am_ex, gset_eq, gset_ne, upd_eq, upd_ne, gset_gset, am_ci_1, am_ci_6, am_toList_some, am_toList_none, true_implies, false_implies, and_self, and_true, true_and, not_true_eq_false, not_false_eq_true, imp_self, implies_true, Classical.not_not, if_true, if_false, false_and, and_false, or_false, false_or, true_or, or_true, Nat.reduceAdd, Nat.reduceMul, Nat.reduceSub, Nat.reduceLT, Nat.reduceLeDiff, Nat.reduceEqDiff, Nat.reduceBneDiff, Nat.add_zero, Nat.zero_add, reduceCtorEq, wil0, wal0, wis0, wic0, wil1, wal1, wis1, wic1, wil2, wll2, wal2, wis2, was2, wls2, wic2, wil3, wis3, wic3, wic3m, wic3s, wil4, wis4, wic4, wil5, wis5, wic5, wic5m, wil6, wll6, wal6, wis6, was6, wls6, wic6, wil7, wal7, wis7, was7, wic7, wil8, wis8, wic8, wil9, wis9, wic9, wil10, wis10, wic10, am_nI_inj, am_nI_lt, am_nI_le, nI_add, pk_mul, am_nI_sub, am_add_m1, am_gfs, am_pfs, am_alds, am_asts, am_lens, bk117_58, bk117_62, bk117_63, bk117_86, bk117_87, am_B117_29, am_B117_58, am_B117_62, am_B117_63, am_B117_86, am_B117_87, bn117_29, g0, hpw, q1, eb, q0, C_X5_bits, q4, e2, hC, q3]
            exact ihk _
          · rw [if_neg (fun z => hx2 z.2)] at hst
            have ihk := ihs _ hst
            rw [eb] at ihk
            have q3 : (cc < x) = True := eq_true (by omega)
            generalize 2 ^ S.1.1 = pw at *
            simp (config := { maxSteps := 1000000 }) (disch := first | exact am_nl_i | exact am_nl_r | exact am_nl_n | exact am_l0 | exact am_l1 | exact am_l2 | exact am_l3 | assumption | omega) only [wp_ldc, wp_sipush, wp_ldc_w, wp_lconst, wp_iadd, wp_isub, wp_imul, wp_iand, wp_ior, wp_ixor, wp_ishl, wp_ishr, wp_iushr, wp_idiv, wp_irem, wp_ineg, wp_i2b, wp_i2s, wp_i2c, wp_i2l, wp_ladd, wp_lmul, wp_lcmp, wp_dup_i, wp_dup_r, wp_dup2, wp_pop, wp_getfield, wp_putfield, wp_getstatic, wp_iaload, wp_baload, wp_aaload, wp_iastore, wp_arraylength, wp_goto, wp_fall, wp_ieq, wp_ine, wp_ilt, wp_ige, wp_igt, wp_ile, wp_ceq, wp_cne, wp_clt, wp_cge, wp_cgt, wp_cle, wp_sw, wp_ret0, wp_ret1z, wp_ret1o, wp_ret1, wp_ret2, wp_ret3, wp_ret4, wp_ret5, wp_return, wp_min, wp_max, wp_abs, am_ex, gset_eq, gset_ne, upd_eq, upd_ne, gset_gset, am_ci_1, am_ci_6, am_toList_some, am_toList_none, true_implies, false_implies, and_self, and_true, true_and, not_true_eq_false, not_false_eq_true, imp_self, implies_true, Classical.not_not, if_true, if_false, false_and, and_false, or_false, false_or, true_or, or_true, Nat.reduceAdd, Nat.reduceMul, Nat.reduceSub, Nat.reduceLT, Nat.reduceLeDiff, Nat.reduceEqDiff, Nat.reduceBneDiff, Nat.add_zero, Nat.zero_add, reduceCtorEq, wil0, wal0, wis0, wic0, wil1, wal1, wis1, wic1, wil2, wll2, wal2, wis2, was2, wls2, wic2, wil3, wis3, wic3, wic3m, wic3s, wil4, wis4, wic4, wil5, wis5, wic5, wic5m, wil6, wll6, wal6, wis6, was6, wls6, wic6, wil7, wal7, wis7, was7, wic7, wil8, wis8, wic8, wil9, wis9, wic9, wil10, wis10, wic10, am_nI_inj, am_nI_lt, am_nI_le, nI_add, pk_mul, am_nI_sub, am_add_m1, am_gfs, am_pfs, am_alds, am_asts, am_lens, bk117_58, bk117_62, bk117_63, bk117_86, bk117_87, am_B117_29, am_B117_58, am_B117_62, am_B117_63, am_B117_86, am_B117_87, bn117_29, g0, hpw, q1, eb, q0, C_X5_bits, q4, e2, hC, q3]
            exact ihk _
        · have q4 : (popN b ≤ popN m) = True := eq_true (by omega)
          rw [if_neg (fun z => hfe (of_decide_eq_true z.1))] at hst
          have ihk := ihf _ hst
          rw [eb] at ihk
          generalize 2 ^ S.1.1 = pw at *
          simp (config := { maxSteps := 1000000 }) (disch := first | exact am_nl_i | exact am_nl_r | exact am_nl_n | exact am_l0 | exact am_l1 | exact am_l2 | exact am_l3 | assumption | omega) only [wp_ldc, wp_sipush, wp_ldc_w, wp_lconst, wp_iadd, wp_isub, wp_imul, wp_iand, wp_ior, wp_ixor, wp_ishl, wp_ishr, wp_iushr, wp_idiv, wp_irem, wp_ineg, wp_i2b, wp_i2s, wp_i2c, wp_i2l, wp_ladd, wp_lmul, wp_lcmp, wp_dup_i, wp_dup_r, wp_dup2, wp_pop, wp_getfield, wp_putfield, wp_getstatic, wp_iaload, wp_baload, wp_aaload, wp_iastore, wp_arraylength, wp_goto, wp_fall, wp_ieq, wp_ine, wp_ilt, wp_ige, wp_igt, wp_ile, wp_ceq, wp_cne, wp_clt, wp_cge, wp_cgt, wp_cle, wp_sw, wp_ret0, wp_ret1z, wp_ret1o, wp_ret1, wp_ret2, wp_ret3, wp_ret4, wp_ret5, wp_return, wp_min, wp_max, wp_abs, am_ex, gset_eq, gset_ne, upd_eq, upd_ne, gset_gset, am_ci_1, am_ci_6, am_toList_some, am_toList_none, true_implies, false_implies, and_self, and_true, true_and, not_true_eq_false, not_false_eq_true, imp_self, implies_true, Classical.not_not, if_true, if_false, false_and, and_false, or_false, false_or, true_or, or_true, Nat.reduceAdd, Nat.reduceMul, Nat.reduceSub, Nat.reduceLT, Nat.reduceLeDiff, Nat.reduceEqDiff, Nat.reduceBneDiff, Nat.add_zero, Nat.zero_add, reduceCtorEq, wil0, wal0, wis0, wic0, wil1, wal1, wis1, wic1, wil2, wll2, wal2, wis2, was2, wls2, wic2, wil3, wis3, wic3, wic3m, wic3s, wil4, wis4, wic4, wil5, wis5, wic5, wic5m, wil6, wll6, wal6, wis6, was6, wls6, wic6, wil7, wal7, wis7, was7, wic7, wil8, wis8, wic8, wil9, wis9, wic9, wil10, wis10, wic10, am_nI_inj, am_nI_lt, am_nI_le, nI_add, pk_mul, am_nI_sub, am_add_m1, am_gfs, am_pfs, am_alds, am_asts, am_lens, bk117_58, bk117_62, bk117_63, bk117_86, bk117_87, am_B117_29, am_B117_58, am_B117_62, am_B117_63, am_B117_86, am_B117_87, bn117_29, g0, hpw, q1, eb, q0, C_X5_bits, q4]
          exact ihk _
  have k0 := key (2 ^ S.1.1) 0 (by omega) G none h (fun _ _ => rfl)
  have e0 : eO (telN S p x 0) = nM := rfl
  rw [e0] at k0
  simp (config := { maxSteps := 1000000 }) (disch := first | exact am_nl_i | exact am_nl_r | exact am_nl_n | exact am_l0 | exact am_l1 | exact am_l2 | exact am_l3 | assumption | omega) only [wp_ldc, wp_sipush, wp_ldc_w, wp_lconst, wp_iadd, wp_isub, wp_imul, wp_iand, wp_ior, wp_ixor, wp_ishl, wp_ishr, wp_iushr, wp_idiv, wp_irem, wp_ineg, wp_i2b, wp_i2s, wp_i2c, wp_i2l, wp_ladd, wp_lmul, wp_lcmp, wp_dup_i, wp_dup_r, wp_dup2, wp_pop, wp_getfield, wp_putfield, wp_getstatic, wp_iaload, wp_baload, wp_aaload, wp_iastore, wp_arraylength, wp_goto, wp_fall, wp_ieq, wp_ine, wp_ilt, wp_ige, wp_igt, wp_ile, wp_ceq, wp_cne, wp_clt, wp_cge, wp_cgt, wp_cle, wp_sw, wp_ret0, wp_ret1z, wp_ret1o, wp_ret1, wp_ret2, wp_ret3, wp_ret4, wp_ret5, wp_return, wp_min, wp_max, wp_abs, am_ex, gset_eq, gset_ne, upd_eq, upd_ne, gset_gset, am_ci_1, am_ci_6, am_toList_some, am_toList_none, true_implies, false_implies, and_self, and_true, true_and, not_true_eq_false, not_false_eq_true, imp_self, implies_true, Classical.not_not, if_true, if_false, false_and, and_false, or_false, false_or, true_or, or_true, Nat.reduceAdd, Nat.reduceMul, Nat.reduceSub, Nat.reduceLT, Nat.reduceLeDiff, Nat.reduceEqDiff, Nat.reduceBneDiff, Nat.add_zero, Nat.zero_add, reduceCtorEq, wil0, wal0, wis0, wic0, wil1, wal1, wis1, wic1, wil2, wll2, wal2, wis2, was2, wls2, wic2, wil3, wis3, wic3, wic3m, wic3s, wil4, wis4, wic4, wil5, wis5, wic5, wic5m, wil6, wll6, wal6, wis6, was6, wls6, wic6, wil7, wal7, wis7, was7, wic7, wil8, wis8, wic8, wil9, wis9, wic9, wil10, wis10, wic10, am_nI_inj, am_nI_lt, am_nI_le, nI_add, pk_mul, am_nI_sub, am_add_m1, am_gfs, am_pfs, am_alds, am_asts, am_lens, bk117_0, bk117_24, am_B117_0, am_B117_24, bn117_29, C_X5_isPlace, C_X5_within, h1', h2', bI_t, e2, fcs]
  exact k0
