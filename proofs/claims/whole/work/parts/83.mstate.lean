/-! ===== the model: who moves, regrets, where they come ===== -/
theorem X5_whoMoves {X : AmX} {G : GG} {n : Nat} {T : TT} {t z : Int32} (h : MR G n T t z 8) : ∃ G1, Ev X 78 [.ref 58] G (some (.int (nI (setN (fun i => decide (¬ chN T n i = T 2 i)) n)))) G1 ∧ ∀ o, ¬ o = 63 → ¬ o = 64 → G1 o = G o := by
  obtain ⟨G2, hev, hk, hf2⟩ := X5_looksAt (X := X) h
  have h2 : MR G2 n T t z 8 := MR_congr h (hf2 59 (by omega) (by omega)) (hf2 58 (by omega) (by omega))
  obtain ⟨hM, haw, ha8, hai, hV⟩ := id h2
  obtain ⟨v1, v2, v3, v4⟩ := id hV
  refine ⟨G2, Ev_of ?_, hf2⟩
  show WP X 78 (am_blk 78 0) [some (.ref 58), none, none] [] G _
  have a1 := hM.2.1
  have key : ∀ d i : Nat, i + d = n → WP X 78 (am_blk 78 8) [some (.ref 58), some (.int (nI (setN (fun i => decide (¬ chN T n i = T 2 i)) i))), some (.int (nI i))] [] G2 (fun v H => v = some (.int (nI (setN (fun i => decide (¬ chN T n i = T 2 i)) n))) ∧ H = G2) := by
    intro d
    induction d with
    | zero =>
      intro i hi
      obtain rfl : i = n := by omega
      rw [bh78_8]
      simp (config := { maxSteps := 1000000 }) (disch := first | exact am_nl_i | exact am_nl_r | exact am_nl_n | exact am_l0 | exact am_l1 | exact am_l2 | exact am_l3 | assumption | omega) only [wp_ldc, wp_sipush, wp_ldc_w, wp_lconst, wp_iadd, wp_isub, wp_imul, wp_iand, wp_ior, wp_ixor, wp_ishl, wp_ishr, wp_iushr, wp_idiv, wp_irem, wp_ineg, wp_i2b, wp_i2s, wp_i2c, wp_i2l, wp_ladd, wp_lmul, wp_lcmp, wp_dup_i, wp_dup_r, wp_dup2, wp_pop, wp_getfield, wp_putfield, wp_getstatic, wp_iaload, wp_baload, wp_aaload, wp_iastore, wp_arraylength, wp_goto, wp_fall, wp_ieq, wp_ine, wp_ilt, wp_ige, wp_igt, wp_ile, wp_ceq, wp_cne, wp_clt, wp_cge, wp_cgt, wp_cle, wp_sw, wp_ret0, wp_ret1z, wp_ret1o, wp_ret1, wp_ret2, wp_ret3, wp_ret4, wp_ret5, wp_return, wp_min, wp_max, wp_abs, am_ex, gset_eq, gset_ne, upd_eq, upd_ne, gset_gset, am_ci_1, am_ci_6, am_toList_some, am_toList_none, true_implies, false_implies, and_self, and_true, true_and, not_true_eq_false, not_false_eq_true, imp_self, implies_true, Classical.not_not, if_true, if_false, false_and, and_false, or_false, false_or, true_or, or_true, Nat.reduceAdd, Nat.reduceMul, Nat.reduceSub, Nat.reduceLT, Nat.reduceLeDiff, Nat.reduceEqDiff, Nat.reduceBneDiff, Nat.add_zero, Nat.zero_add, reduceCtorEq, wil0, wal0, wis0, wic0, wil1, wal1, wis1, wic1, wil2, wll2, wal2, wis2, was2, wls2, wic2, wil3, wis3, wic3, wic3m, wic3s, wil4, wis4, wic4, wil5, wis5, wic5, wic5m, wil6, wll6, wal6, wis6, was6, wls6, wic6, wil7, wal7, wis7, was7, wic7, wil8, wis8, wic8, wil9, wis9, wic9, wil10, wis10, wic10, am_nI_inj, am_nI_lt, am_nI_le, nI_add, pk_mul, am_nI_sub, am_add_m1, am_gfs, am_pfs, am_alds, am_asts, am_lens, bk78_49, am_B78_8, am_B78_49, a1, Nat.le_refl]
    | succ d ih =>
      intro i hi
      have hin : i < n := by omega
      have hi8 : i < 8 := by omega
      have hc0 : (n ≤ i) = False := eq_false (by omega)
      have ih := ih (i + 1) (by omega)
      rw [← setN_or (f := fun i => decide (¬ chN T n i = T 2 i)) (i := i) (by omega)] at ih
      rw [bh78_8]
      have hT2 : T 2 i < 8 := by
        have h1 := (v3 i hin).2.1
        have h3 : ¬ T 2 i = 8 := fun z => by have := (hai i hin).mp z; omega
        omega
      have f2 := hM.2.2.2.2.2.2.1 i hin hT2
      have f3 := hk.1 i hin
      have hq := eP_eq (x := chN T n i) (p := T 2 i) (chN_le (v3 i hin).2.1) hT2
      by_cases hc : chN T n i = T 2 i
      · rw [if_neg (by simp [hc])] at ih
        have hq2 := hq.trans (eq_true hc)
        simp (config := { maxSteps := 1000000 }) (disch := first | exact am_nl_i | exact am_nl_r | exact am_nl_n | exact am_l0 | exact am_l1 | exact am_l2 | exact am_l3 | assumption | omega) only [wp_ldc, wp_sipush, wp_ldc_w, wp_lconst, wp_iadd, wp_isub, wp_imul, wp_iand, wp_ior, wp_ixor, wp_ishl, wp_ishr, wp_iushr, wp_idiv, wp_irem, wp_ineg, wp_i2b, wp_i2s, wp_i2c, wp_i2l, wp_ladd, wp_lmul, wp_lcmp, wp_dup_i, wp_dup_r, wp_dup2, wp_pop, wp_getfield, wp_putfield, wp_getstatic, wp_iaload, wp_baload, wp_aaload, wp_iastore, wp_arraylength, wp_goto, wp_fall, wp_ieq, wp_ine, wp_ilt, wp_ige, wp_igt, wp_ile, wp_ceq, wp_cne, wp_clt, wp_cge, wp_cgt, wp_cle, wp_sw, wp_ret0, wp_ret1z, wp_ret1o, wp_ret1, wp_ret2, wp_ret3, wp_ret4, wp_ret5, wp_return, wp_min, wp_max, wp_abs, am_ex, gset_eq, gset_ne, upd_eq, upd_ne, gset_gset, am_ci_1, am_ci_6, am_toList_some, am_toList_none, true_implies, false_implies, and_self, and_true, true_and, not_true_eq_false, not_false_eq_true, imp_self, implies_true, Classical.not_not, if_true, if_false, false_and, and_false, or_false, false_or, true_or, or_true, Nat.reduceAdd, Nat.reduceMul, Nat.reduceSub, Nat.reduceLT, Nat.reduceLeDiff, Nat.reduceEqDiff, Nat.reduceBneDiff, Nat.add_zero, Nat.zero_add, reduceCtorEq, wil0, wal0, wis0, wic0, wil1, wal1, wis1, wic1, wil2, wll2, wal2, wis2, was2, wls2, wic2, wil3, wis3, wic3, wic3m, wic3s, wil4, wis4, wic4, wil5, wis5, wic5, wic5m, wil6, wll6, wal6, wis6, was6, wls6, wic6, wil7, wal7, wis7, was7, wic7, wil8, wis8, wic8, wil9, wis9, wic9, wil10, wis10, wic10, am_nI_inj, am_nI_lt, am_nI_le, nI_add, pk_mul, am_nI_sub, am_add_m1, am_gfs, am_pfs, am_alds, am_asts, am_lens, bk78_40, bk78_41, am_B78_8, am_B78_40, am_B78_41, bn78_8, a1, hc0, f3, C_X5_personIs, f2, hq2]
        exact ih
      · rw [if_pos (by simp [hc])] at ih
        have hq2 := hq.trans (eq_false hc)
        simp (config := { maxSteps := 1000000 }) (disch := first | exact am_nl_i | exact am_nl_r | exact am_nl_n | exact am_l0 | exact am_l1 | exact am_l2 | exact am_l3 | assumption | omega) only [wp_ldc, wp_sipush, wp_ldc_w, wp_lconst, wp_iadd, wp_isub, wp_imul, wp_iand, wp_ior, wp_ixor, wp_ishl, wp_ishr, wp_iushr, wp_idiv, wp_irem, wp_ineg, wp_i2b, wp_i2s, wp_i2c, wp_i2l, wp_ladd, wp_lmul, wp_lcmp, wp_dup_i, wp_dup_r, wp_dup2, wp_pop, wp_getfield, wp_putfield, wp_getstatic, wp_iaload, wp_baload, wp_aaload, wp_iastore, wp_arraylength, wp_goto, wp_fall, wp_ieq, wp_ine, wp_ilt, wp_ige, wp_igt, wp_ile, wp_ceq, wp_cne, wp_clt, wp_cge, wp_cgt, wp_cle, wp_sw, wp_ret0, wp_ret1z, wp_ret1o, wp_ret1, wp_ret2, wp_ret3, wp_ret4, wp_ret5, wp_return, wp_min, wp_max, wp_abs, am_ex, gset_eq, gset_ne, upd_eq, upd_ne, gset_gset, am_ci_1, am_ci_6, am_toList_some, am_toList_none, true_implies, false_implies, and_self, and_true, true_and, not_true_eq_false, not_false_eq_true, imp_self, implies_true, Classical.not_not, if_true, if_false, false_and, and_false, or_false, false_or, true_or, or_true, Nat.reduceAdd, Nat.reduceMul, Nat.reduceSub, Nat.reduceLT, Nat.reduceLeDiff, Nat.reduceEqDiff, Nat.reduceBneDiff, Nat.add_zero, Nat.zero_add, reduceCtorEq, wil0, wal0, wis0, wic0, wil1, wal1, wis1, wic1, wil2, wll2, wal2, wis2, was2, wls2, wic2, wil3, wis3, wic3, wic3m, wic3s, wil4, wis4, wic4, wil5, wis5, wic5, wic5m, wil6, wll6, wal6, wis6, was6, wls6, wic6, wil7, wal7, wis7, was7, wic7, wil8, wis8, wic8, wil9, wis9, wic9, wil10, wis10, wic10, am_nI_inj, am_nI_lt, am_nI_le, nI_add, pk_mul, am_nI_sub, am_add_m1, am_gfs, am_pfs, am_alds, am_asts, am_lens, bk78_40, bk78_41, am_B78_8, am_B78_40, am_B78_41, bn78_8, a1, hc0, f3, C_X5_personIs, f2, hq2]
        exact ih
  have hD := fun (k : Nat) (r : List Instr) (lv : LV) (st : List Value) (Q : Option Value → GG → Prop) (hl : st.length ≤ 4) => WP_ev (k := k) (st := .ref 58 :: st) (rest := st) (r := r) (lv := lv) (Q := Q) hev (by decide) (c := 1) rfl rfl hl rfl
  simp (config := { maxSteps := 1000000 }) (disch := first | exact am_nl_i | exact am_nl_r | exact am_nl_n | exact am_l0 | exact am_l1 | exact am_l2 | exact am_l3 | assumption | omega) only [wp_ldc, wp_sipush, wp_ldc_w, wp_lconst, wp_iadd, wp_isub, wp_imul, wp_iand, wp_ior, wp_ixor, wp_ishl, wp_ishr, wp_iushr, wp_idiv, wp_irem, wp_ineg, wp_i2b, wp_i2s, wp_i2c, wp_i2l, wp_ladd, wp_lmul, wp_lcmp, wp_dup_i, wp_dup_r, wp_dup2, wp_pop, wp_getfield, wp_putfield, wp_getstatic, wp_iaload, wp_baload, wp_aaload, wp_iastore, wp_arraylength, wp_goto, wp_fall, wp_ieq, wp_ine, wp_ilt, wp_ige, wp_igt, wp_ile, wp_ceq, wp_cne, wp_clt, wp_cge, wp_cgt, wp_cle, wp_sw, wp_ret0, wp_ret1z, wp_ret1o, wp_ret1, wp_ret2, wp_ret3, wp_ret4, wp_ret5, wp_return, wp_min, wp_max, wp_abs, am_ex, gset_eq, gset_ne, upd_eq, upd_ne, gset_gset, am_ci_1, am_ci_6, am_toList_some, am_toList_none, true_implies, false_implies, and_self, and_true, true_and, not_true_eq_false, not_false_eq_true, imp_self, implies_true, Classical.not_not, if_true, if_false, false_and, and_false, or_false, false_or, true_or, or_true, Nat.reduceAdd, Nat.reduceMul, Nat.reduceSub, Nat.reduceLT, Nat.reduceLeDiff, Nat.reduceEqDiff, Nat.reduceBneDiff, Nat.add_zero, Nat.zero_add, reduceCtorEq, wil0, wal0, wis0, wic0, wil1, wal1, wis1, wic1, wil2, wll2, wal2, wis2, was2, wls2, wic2, wil3, wis3, wic3, wic3m, wic3s, wil4, wis4, wic4, wil5, wis5, wic5, wic5m, wil6, wll6, wal6, wis6, was6, wls6, wic6, wil7, wal7, wis7, was7, wic7, wil8, wis8, wic8, wil9, wis9, wic9, wil10, wis10, wic10, am_nI_inj, am_nI_lt, am_nI_le, nI_add, pk_mul, am_nI_sub, am_add_m1, am_gfs, am_pfs, am_alds, am_asts, am_lens, bk78_0, am_B78_0, bn78_8, hD]
  exact key n 0 (by omega)
theorem X5_whoRegrets {X : AmX} {G : GG} {n : Nat} {T : TT} {t z : Int32} (h : MR G n T t z 8) : ∃ G1, Ev X 76 [.ref 58] G (some (.int (nI (setN (regN T n) n)))) G1 ∧ ∀ o, ¬ o = 63 → ¬ o = 64 → G1 o = G o := by
  obtain ⟨G2, hev, hk, hf2⟩ := X5_looksAt (X := X) h
  have h2 : MR G2 n T t z 8 := MR_congr h (hf2 59 (by omega) (by omega)) (hf2 58 (by omega) (by omega))
  have hM := h2.1
  have v1 := h2.2.2.2.2.1
  refine ⟨G2, Ev_of ?_, hf2⟩
  show WP X 76 (am_blk 76 0) [some (.ref 58), none, none] [] G _
  have a1 := hM.2.1
  have e2 : (nI 1 = nI 0) = False := eq_false (by decide)
  have key : ∀ d i : Nat, i + d = n → WP X 76 (am_blk 76 8) [some (.ref 58), some (.int (nI (setN (regN T n) i))), some (.int (nI i))] [] G2 (fun v H => v = some (.int (nI (setN (regN T n) n))) ∧ H = G2) := by
    intro d
    induction d with
    | zero =>
      intro i hi
      obtain rfl : i = n := by omega
      rw [bh76_8]
      simp (config := { maxSteps := 1000000 }) (disch := first | exact am_nl_i | exact am_nl_r | exact am_nl_n | exact am_l0 | exact am_l1 | exact am_l2 | exact am_l3 | assumption | omega) only [wp_ldc, wp_sipush, wp_ldc_w, wp_lconst, wp_iadd, wp_isub, wp_imul, wp_iand, wp_ior, wp_ixor, wp_ishl, wp_ishr, wp_iushr, wp_idiv, wp_irem, wp_ineg, wp_i2b, wp_i2s, wp_i2c, wp_i2l, wp_ladd, wp_lmul, wp_lcmp, wp_dup_i, wp_dup_r, wp_dup2, wp_pop, wp_getfield, wp_putfield, wp_getstatic, wp_iaload, wp_baload, wp_aaload, wp_iastore, wp_arraylength, wp_goto, wp_fall, wp_ieq, wp_ine, wp_ilt, wp_ige, wp_igt, wp_ile, wp_ceq, wp_cne, wp_clt, wp_cge, wp_cgt, wp_cle, wp_sw, wp_ret0, wp_ret1z, wp_ret1o, wp_ret1, wp_ret2, wp_ret3, wp_ret4, wp_ret5, wp_return, wp_min, wp_max, wp_abs, am_ex, gset_eq, gset_ne, upd_eq, upd_ne, gset_gset, am_ci_1, am_ci_6, am_toList_some, am_toList_none, true_implies, false_implies, and_self, and_true, true_and, not_true_eq_false, not_false_eq_true, imp_self, implies_true, Classical.not_not, if_true, if_false, false_and, and_false, or_false, false_or, true_or, or_true, Nat.reduceAdd, Nat.reduceMul, Nat.reduceSub, Nat.reduceLT, Nat.reduceLeDiff, Nat.reduceEqDiff, Nat.reduceBneDiff, Nat.add_zero, Nat.zero_add, reduceCtorEq, wil0, wal0, wis0, wic0, wil1, wal1, wis1, wic1, wil2, wll2, wal2, wis2, was2, wls2, wic2, wil3, wis3, wic3, wic3m, wic3s, wil4, wis4, wic4, wil5, wis5, wic5, wic5m, wil6, wll6, wal6, wis6, was6, wls6, wic6, wil7, wal7, wis7, was7, wic7, wil8, wis8, wic8, wil9, wis9, wic9, wil10, wis10, wic10, am_nI_inj, am_nI_lt, am_nI_le, nI_add, pk_mul, am_nI_sub, am_add_m1, am_gfs, am_pfs, am_alds, am_asts, am_lens, bk76_42, am_B76_8, am_B76_42, a1, Nat.le_refl]
    | succ d ih =>
      intro i hi
      have hin : i < n := by omega
      have hi8 : i < 8 := by omega
      have hc0 : (n ≤ i) = False := eq_false (by omega)
      have ih := ih (i + 1) (by omega)
      rw [← setN_or (f := regN T n) (i := i) (by omega)] at ih
      have hP := fun (k : Nat) (r : List Instr) (lv : LV) (st : List Value) (Q : Option Value → GG → Prop) (hl : st.length ≤ 4) => C_X5_doesRegret (X := X) (k := k) (st := st) (r := r) (lv := lv) (Q := Q) (n := n) (a := 8) (i := i) (T := T) (t := t) (z := z) h2 hk hin hl
      rw [bh76_8]
      by_cases hc : regN T n i = true
      · rw [if_pos hc] at ih
        rw [hc] at hP
        simp (config := { maxSteps := 1000000 }) (disch := first | exact am_nl_i | exact am_nl_r | exact am_nl_n | exact am_l0 | exact am_l1 | exact am_l2 | exact am_l3 | assumption | omega) only [wp_ldc, wp_sipush, wp_ldc_w, wp_lconst, wp_iadd, wp_isub, wp_imul, wp_iand, wp_ior, wp_ixor, wp_ishl, wp_ishr, wp_iushr, wp_idiv, wp_irem, wp_ineg, wp_i2b, wp_i2s, wp_i2c, wp_i2l, wp_ladd, wp_lmul, wp_lcmp, wp_dup_i, wp_dup_r, wp_dup2, wp_pop, wp_getfield, wp_putfield, wp_getstatic, wp_iaload, wp_baload, wp_aaload, wp_iastore, wp_arraylength, wp_goto, wp_fall, wp_ieq, wp_ine, wp_ilt, wp_ige, wp_igt, wp_ile, wp_ceq, wp_cne, wp_clt, wp_cge, wp_cgt, wp_cle, wp_sw, wp_ret0, wp_ret1z, wp_ret1o, wp_ret1, wp_ret2, wp_ret3, wp_ret4, wp_ret5, wp_return, wp_min, wp_max, wp_abs, am_ex, gset_eq, gset_ne, upd_eq, upd_ne, gset_gset, am_ci_1, am_ci_6, am_toList_some, am_toList_none, true_implies, false_implies, and_self, and_true, true_and, not_true_eq_false, not_false_eq_true, imp_self, implies_true, Classical.not_not, if_true, if_false, false_and, and_false, or_false, false_or, true_or, or_true, Nat.reduceAdd, Nat.reduceMul, Nat.reduceSub, Nat.reduceLT, Nat.reduceLeDiff, Nat.reduceEqDiff, Nat.reduceBneDiff, Nat.add_zero, Nat.zero_add, reduceCtorEq, wil0, wal0, wis0, wic0, wil1, wal1, wis1, wic1, wil2, wll2, wal2, wis2, was2, wls2, wic2, wil3, wis3, wic3, wic3m, wic3s, wil4, wis4, wic4, wil5, wis5, wic5, wic5m, wil6, wll6, wal6, wis6, was6, wls6, wic6, wil7, wal7, wis7, was7, wic7, wil8, wis8, wic8, wil9, wis9, wic9, wil10, wis10, wic10, am_nI_inj, am_nI_lt, am_nI_le, nI_add, pk_mul, am_nI_sub, am_add_m1, am_gfs, am_pfs, am_alds, am_asts, am_lens, bk76_33, bk76_34, am_B76_8, am_B76_33, am_B76_34, bn76_8, a1, hc0, hP, bI_t, e2]
        exact ih
      · rw [if_neg hc] at ih
        rw [Bool.not_eq_true] at hc
        rw [hc] at hP
        simp (config := { maxSteps := 1000000 }) (disch := first | exact am_nl_i | exact am_nl_r | exact am_nl_n | exact am_l0 | exact am_l1 | exact am_l2 | exact am_l3 | assumption | omega) only [wp_ldc, wp_sipush, wp_ldc_w, wp_lconst, wp_iadd, wp_isub, wp_imul, wp_iand, wp_ior, wp_ixor, wp_ishl, wp_ishr, wp_iushr, wp_idiv, wp_irem, wp_ineg, wp_i2b, wp_i2s, wp_i2c, wp_i2l, wp_ladd, wp_lmul, wp_lcmp, wp_dup_i, wp_dup_r, wp_dup2, wp_pop, wp_getfield, wp_putfield, wp_getstatic, wp_iaload, wp_baload, wp_aaload, wp_iastore, wp_arraylength, wp_goto, wp_fall, wp_ieq, wp_ine, wp_ilt, wp_ige, wp_igt, wp_ile, wp_ceq, wp_cne, wp_clt, wp_cge, wp_cgt, wp_cle, wp_sw, wp_ret0, wp_ret1z, wp_ret1o, wp_ret1, wp_ret2, wp_ret3, wp_ret4, wp_ret5, wp_return, wp_min, wp_max, wp_abs, am_ex, gset_eq, gset_ne, upd_eq, upd_ne, gset_gset, am_ci_1, am_ci_6, am_toList_some, am_toList_none, true_implies, false_implies, and_self, and_true, true_and, not_true_eq_false, not_false_eq_true, imp_self, implies_true, Classical.not_not, if_true, if_false, false_and, and_false, or_false, false_or, true_or, or_true, Nat.reduceAdd, Nat.reduceMul, Nat.reduceSub, Nat.reduceLT, Nat.reduceLeDiff, Nat.reduceEqDiff, Nat.reduceBneDiff, Nat.add_zero, Nat.zero_add, reduceCtorEq, wil0, wal0, wis0, wic0, wil1, wal1, wis1, wic1, wil2, wll2, wal2, wis2, was2, wls2, wic2, wil3, wis3, wic3, wic3m, wic3s, wil4, wis4, wic4, wil5, wis5, wic5, wic5m, wil6, wll6, wal6, wis6, was6, wls6, wic6, wil7, wal7, wis7, was7, wic7, wil8, wis8, wic8, wil9, wis9, wic9, wil10, wis10, wic10, am_nI_inj, am_nI_lt, am_nI_le, nI_add, pk_mul, am_nI_sub, am_add_m1, am_gfs, am_pfs, am_alds, am_asts, am_lens, bk76_33, bk76_34, am_B76_8, am_B76_33, am_B76_34, bn76_8, a1, hc0, hP, bI_f]
        exact ih
  have hD := fun (k : Nat) (r : List Instr) (lv : LV) (st : List Value) (Q : Option Value → GG → Prop) (hl : st.length ≤ 4) => WP_ev (k := k) (st := .ref 58 :: st) (rest := st) (r := r) (lv := lv) (Q := Q) hev (by decide) (c := 1) rfl rfl hl rfl
  simp (config := { maxSteps := 1000000 }) (disch := first | exact am_nl_i | exact am_nl_r | exact am_nl_n | exact am_l0 | exact am_l1 | exact am_l2 | exact am_l3 | assumption | omega) only [wp_ldc, wp_sipush, wp_ldc_w, wp_lconst, wp_iadd, wp_isub, wp_imul, wp_iand, wp_ior, wp_ixor, wp_ishl, wp_ishr, wp_iushr, wp_idiv, wp_irem, wp_ineg, wp_i2b, wp_i2s, wp_i2c, wp_i2l, wp_ladd, wp_lmul, wp_lcmp, wp_dup_i, wp_dup_r, wp_dup2, wp_pop, wp_getfield, wp_putfield, wp_getstatic, wp_iaload, wp_baload, wp_aaload, wp_iastore, wp_arraylength, wp_goto, wp_fall, wp_ieq, wp_ine, wp_ilt, wp_ige, wp_igt, wp_ile, wp_ceq, wp_cne, wp_clt, wp_cge, wp_cgt, wp_cle, wp_sw, wp_ret0, wp_ret1z, wp_ret1o, wp_ret1, wp_ret2, wp_ret3, wp_ret4, wp_ret5, wp_return, wp_min, wp_max, wp_abs, am_ex, gset_eq, gset_ne, upd_eq, upd_ne, gset_gset, am_ci_1, am_ci_6, am_toList_some, am_toList_none, true_implies, false_implies, and_self, and_true, true_and, not_true_eq_false, not_false_eq_true, imp_self, implies_true, Classical.not_not, if_true, if_false, false_and, and_false, or_false, false_or, true_or, or_true, Nat.reduceAdd, Nat.reduceMul, Nat.reduceSub, Nat.reduceLT, Nat.reduceLeDiff, Nat.reduceEqDiff, Nat.reduceBneDiff, Nat.add_zero, Nat.zero_add, reduceCtorEq, wil0, wal0, wis0, wic0, wil1, wal1, wis1, wic1, wil2, wll2, wal2, wis2, was2, wls2, wic2, wil3, wis3, wic3, wic3m, wic3s, wil4, wis4, wic4, wil5, wis5, wic5, wic5m, wil6, wll6, wal6, wis6, was6, wls6, wic6, wil7, wal7, wis7, was7, wic7, wil8, wis8, wic8, wil9, wis9, wic9, wil10, wis10, wic10, am_nI_inj, am_nI_lt, am_nI_le, nI_add, pk_mul, am_nI_sub, am_add_m1, am_gfs, am_pfs, am_alds, am_asts, am_lens, bk76_0, am_B76_0, bn76_8, hD]
  exact key n 0 (by omega)
theorem or_bit : ∀ m, m < 256 → ∀ c, c < 8 → nI m ||| (nI 1 <<< (nI c &&& 31)) = nI (m ||| 2 ^ c) ∧ m ||| 2 ^ c < 256 ∧ ∀ i, i < 8 → Nat.testBit (m ||| 2 ^ c) i = (Nat.testBit m i || decide (i = c)) := by decide +kernel
theorem vis_step {f : Nat → Nat} {k : Nat} (hf : f k < 8) : nI (setN (fun p => decide (0 < cntN f p k)) 8) ||| (nI 1 <<< (nI (f k) &&& 31)) = nI (setN (fun p => decide (0 < cntN f p (k + 1))) 8) := by
  obtain ⟨k1, k2, k3⟩ := or_bit _ (setN_256 (f := fun p => decide (0 < cntN f p k)) (Nat.le_refl 8)) (f k) hf
  rw [k1]
  refine congrArg nI (set_ext k2 (fun i hi => ?_))
  rw [k3 i hi, tb_set _ 8 (Nat.le_refl 8) i hi]
  show (decide (i < 8) && decide (0 < cntN f i k) || decide (i = f k)) = decide (0 < cntN f i k + if f k = i then 1 else 0)
  by_cases h : f k = i
  · simp [h]
  · simp [h, hi, show ¬ i = f k from fun z => h z.symm]
theorem X5_comePlaces {X : AmX} {G : GG} {n : Nat} {T : TT} {t z : Int32} (h : MR G n T t z 8) : ∃ G1, Ev X 77 [.ref 58] G (some (.int (nI (setN (fun p => decide (0 < ccN T n p)) 8)))) G1 ∧ ∀ o, ¬ o = 63 → ¬ o = 64 → G1 o = G o := by
  obtain ⟨G2, hev, hk, hf2⟩ := X5_looksAt (X := X) h
  have h2 : MR G2 n T t z 8 := MR_congr h (hf2 59 (by omega) (by omega)) (hf2 58 (by omega) (by omega))
  obtain ⟨hM, haw, ha8, hai, hV⟩ := id h2
  obtain ⟨v1, v2, v3, v4⟩ := id hV
  refine ⟨G2, Ev_of ?_, hf2⟩
  show WP X 77 (am_blk 77 0) [some (.ref 58), none, none] [] G _
  have a1 := hM.2.1
  have key : ∀ d i : Nat, i + d = n → WP X 77 (am_blk 77 8) [some (.ref 58), some (.int (nI (setN (fun p => decide (0 < cntN (chN T n) p i)) 8))), some (.int (nI i))] [] G2 (fun v H => v = some (.int (nI (setN (fun p => decide (0 < cntN (chN T n) p n)) 8))) ∧ H = G2) := by
    intro d
    induction d with
    | zero =>
      intro i hi
      obtain rfl : i = n := by omega
      rw [bh77_8]
      simp (config := { maxSteps := 1000000 }) (disch := first | exact am_nl_i | exact am_nl_r | exact am_nl_n | exact am_l0 | exact am_l1 | exact am_l2 | exact am_l3 | assumption | omega) only [wp_ldc, wp_sipush, wp_ldc_w, wp_lconst, wp_iadd, wp_isub, wp_imul, wp_iand, wp_ior, wp_ixor, wp_ishl, wp_ishr, wp_iushr, wp_idiv, wp_irem, wp_ineg, wp_i2b, wp_i2s, wp_i2c, wp_i2l, wp_ladd, wp_lmul, wp_lcmp, wp_dup_i, wp_dup_r, wp_dup2, wp_pop, wp_getfield, wp_putfield, wp_getstatic, wp_iaload, wp_baload, wp_aaload, wp_iastore, wp_arraylength, wp_goto, wp_fall, wp_ieq, wp_ine, wp_ilt, wp_ige, wp_igt, wp_ile, wp_ceq, wp_cne, wp_clt, wp_cge, wp_cgt, wp_cle, wp_sw, wp_ret0, wp_ret1z, wp_ret1o, wp_ret1, wp_ret2, wp_ret3, wp_ret4, wp_ret5, wp_return, wp_min, wp_max, wp_abs, am_ex, gset_eq, gset_ne, upd_eq, upd_ne, gset_gset, am_ci_1, am_ci_6, am_toList_some, am_toList_none, true_implies, false_implies, and_self, and_true, true_and, not_true_eq_false, not_false_eq_true, imp_self, implies_true, Classical.not_not, if_true, if_false, false_and, and_false, or_false, false_or, true_or, or_true, Nat.reduceAdd, Nat.reduceMul, Nat.reduceSub, Nat.reduceLT, Nat.reduceLeDiff, Nat.reduceEqDiff, Nat.reduceBneDiff, Nat.add_zero, Nat.zero_add, reduceCtorEq, wil0, wal0, wis0, wic0, wil1, wal1, wis1, wic1, wil2, wll2, wal2, wis2, was2, wls2, wic2, wil3, wis3, wic3, wic3m, wic3s, wil4, wis4, wic4, wil5, wis5, wic5, wic5m, wil6, wll6, wal6, wis6, was6, wls6, wic6, wil7, wal7, wis7, was7, wic7, wil8, wis8, wic8, wil9, wis9, wic9, wil10, wis10, wic10, am_nI_inj, am_nI_lt, am_nI_le, nI_add, pk_mul, am_nI_sub, am_add_m1, am_gfs, am_pfs, am_alds, am_asts, am_lens, bk77_35, am_B77_8, am_B77_35, a1, Nat.le_refl]
    | succ d ih =>
      intro i hi
      have hin : i < n := by omega
      have hi8 : i < 8 := by omega
      have hc0 : (n ≤ i) = False := eq_false (by omega)
      have hT2 : T 2 i < 8 := by
        have h1 := (v3 i hin).2.1
        have h3 : ¬ T 2 i = 8 := fun z => by have := (hai i hin).mp z; omega
        omega
      have hch : chN T n i < 8 := by
        unfold chN
        rw [if_neg (by omega)]
        exact chF_lt hT2 8 (by omega)
      have ih := ih (i + 1) (by omega)
      have f3 := hk.1 i hin
      rw [eP_lt (by omega)] at f3
      have hs := vis_step (f := chN T n) (k := i) hch
      rw [bh77_8]
      simp (config := { maxSteps := 1000000 }) (disch := first | exact am_nl_i | exact am_nl_r | exact am_nl_n | exact am_l0 | exact am_l1 | exact am_l2 | exact am_l3 | assumption | omega) only [wp_ldc, wp_sipush, wp_ldc_w, wp_lconst, wp_iadd, wp_isub, wp_imul, wp_iand, wp_ior, wp_ixor, wp_ishl, wp_ishr, wp_iushr, wp_idiv, wp_irem, wp_ineg, wp_i2b, wp_i2s, wp_i2c, wp_i2l, wp_ladd, wp_lmul, wp_lcmp, wp_dup_i, wp_dup_r, wp_dup2, wp_pop, wp_getfield, wp_putfield, wp_getstatic, wp_iaload, wp_baload, wp_aaload, wp_iastore, wp_arraylength, wp_goto, wp_fall, wp_ieq, wp_ine, wp_ilt, wp_ige, wp_igt, wp_ile, wp_ceq, wp_cne, wp_clt, wp_cge, wp_cgt, wp_cle, wp_sw, wp_ret0, wp_ret1z, wp_ret1o, wp_ret1, wp_ret2, wp_ret3, wp_ret4, wp_ret5, wp_return, wp_min, wp_max, wp_abs, am_ex, gset_eq, gset_ne, upd_eq, upd_ne, gset_gset, am_ci_1, am_ci_6, am_toList_some, am_toList_none, true_implies, false_implies, and_self, and_true, true_and, not_true_eq_false, not_false_eq_true, imp_self, implies_true, Classical.not_not, if_true, if_false, false_and, and_false, or_false, false_or, true_or, or_true, Nat.reduceAdd, Nat.reduceMul, Nat.reduceSub, Nat.reduceLT, Nat.reduceLeDiff, Nat.reduceEqDiff, Nat.reduceBneDiff, Nat.add_zero, Nat.zero_add, reduceCtorEq, wil0, wal0, wis0, wic0, wil1, wal1, wis1, wic1, wil2, wll2, wal2, wis2, was2, wls2, wic2, wil3, wis3, wic3, wic3m, wic3s, wil4, wis4, wic4, wil5, wis5, wic5, wic5m, wil6, wll6, wal6, wis6, was6, wls6, wic6, wil7, wal7, wis7, was7, wic7, wil8, wis8, wic8, wil9, wis9, wic9, wil10, wis10, wic10, am_nI_inj, am_nI_lt, am_nI_le, nI_add, pk_mul, am_nI_sub, am_add_m1, am_gfs, am_pfs, am_alds, am_asts, am_lens, bk77_35, am_B77_8, am_B77_35, bn77_8, a1, hc0, f3, hs]
      exact ih
  have k0 := key n 0 (by omega)
  have e0 : setN (fun p => decide (0 < cntN (chN T n) p 0)) 8 = 0 := rfl
  rw [e0] at k0
  have hD := fun (k : Nat) (r : List Instr) (lv : LV) (st : List Value) (Q : Option Value → GG → Prop) (hl : st.length ≤ 4) => WP_ev (k := k) (st := .ref 58 :: st) (rest := st) (r := r) (lv := lv) (Q := Q) hev (by decide) (c := 1) rfl rfl hl rfl
  simp (config := { maxSteps := 1000000 }) (disch := first | exact am_nl_i | exact am_nl_r | exact am_nl_n | exact am_l0 | exact am_l1 | exact am_l2 | exact am_l3 | assumption | omega) only [wp_ldc, wp_sipush, wp_ldc_w, wp_lconst, wp_iadd, wp_isub, wp_imul, wp_iand, wp_ior, wp_ixor, wp_ishl, wp_ishr, wp_iushr, wp_idiv, wp_irem, wp_ineg, wp_i2b, wp_i2s, wp_i2c, wp_i2l, wp_ladd, wp_lmul, wp_lcmp, wp_dup_i, wp_dup_r, wp_dup2, wp_pop, wp_getfield, wp_putfield, wp_getstatic, wp_iaload, wp_baload, wp_aaload, wp_iastore, wp_arraylength, wp_goto, wp_fall, wp_ieq, wp_ine, wp_ilt, wp_ige, wp_igt, wp_ile, wp_ceq, wp_cne, wp_clt, wp_cge, wp_cgt, wp_cle, wp_sw, wp_ret0, wp_ret1z, wp_ret1o, wp_ret1, wp_ret2, wp_ret3, wp_ret4, wp_ret5, wp_return, wp_min, wp_max, wp_abs, am_ex, gset_eq, gset_ne, upd_eq, upd_ne, gset_gset, am_ci_1, am_ci_6, am_toList_some, am_toList_none, true_implies, false_implies, and_self, and_true, true_and, not_true_eq_false, not_false_eq_true, imp_self, implies_true, Classical.not_not, if_true, if_false, false_and, and_false, or_false, false_or, true_or, or_true, Nat.reduceAdd, Nat.reduceMul, Nat.reduceSub, Nat.reduceLT, Nat.reduceLeDiff, Nat.reduceEqDiff, Nat.reduceBneDiff, Nat.add_zero, Nat.zero_add, reduceCtorEq, wil0, wal0, wis0, wic0, wil1, wal1, wis1, wic1, wil2, wll2, wal2, wis2, was2, wls2, wic2, wil3, wis3, wic3, wic3m, wic3s, wil4, wis4, wic4, wil5, wis5, wic5, wic5m, wil6, wll6, wal6, wis6, was6, wls6, wic6, wil7, wal7, wis7, was7, wic7, wil8, wis8, wic8, wil9, wis9, wic9, wil10, wis10, wic10, am_nI_inj, am_nI_lt, am_nI_le, nI_add, pk_mul, am_nI_sub, am_add_m1, am_gfs, am_pfs, am_alds, am_asts, am_lens, bk77_0, am_B77_0, bn77_8, hD]
  exact k0
theorem E_X5_richest {X : AmX} {G : GG} (n : Nat) (T : TT) (t z : Int32) (hE : ME G 59 n T t z) (hV : TV n T) : Ev X 79 [.ref 58] G (some (.int (eP (richN (T 5) n)))) (G) := by
  refine Ev_of ?_
  show WP X 79 (am_blk 79 0) [some (.ref 58), none, none] [] G _
  obtain ⟨v1, v2, v3, v4⟩ := id hV
  obtain ⟨a0, a1, a2, a3, a4, a5, a6, a7, a8, a9⟩ := id hE
  have key : ∀ d i : Nat, i + d = n → WP X 79 (am_blk 79 4) [some (.ref 58), some (.int (eP (richN (T 5) i))), some (.int (nI i))] [] G (fun v H => v = some (.int (eP (richN (T 5) n))) ∧ H = G) := by
    intro d
    induction d with
    | zero =>
      intro i hi
      obtain rfl : i = n := by omega
      rw [bh79_4]
      simp (config := { maxSteps := 1000000 }) (disch := first | exact am_nl_i | exact am_nl_r | exact am_nl_n | exact am_l0 | exact am_l1 | exact am_l2 | exact am_l3 | assumption | omega) only [wp_ldc, wp_sipush, wp_ldc_w, wp_lconst, wp_iadd, wp_isub, wp_imul, wp_iand, wp_ior, wp_ixor, wp_ishl, wp_ishr, wp_iushr, wp_idiv, wp_irem, wp_ineg, wp_i2b, wp_i2s, wp_i2c, wp_i2l, wp_ladd, wp_lmul, wp_lcmp, wp_dup_i, wp_dup_r, wp_dup2, wp_pop, wp_getfield, wp_putfield, wp_getstatic, wp_iaload, wp_baload, wp_aaload, wp_iastore, wp_arraylength, wp_goto, wp_fall, wp_ieq, wp_ine, wp_ilt, wp_ige, wp_igt, wp_ile, wp_ceq, wp_cne, wp_clt, wp_cge, wp_cgt, wp_cle, wp_sw, wp_ret0, wp_ret1z, wp_ret1o, wp_ret1, wp_ret2, wp_ret3, wp_ret4, wp_ret5, wp_return, wp_min, wp_max, wp_abs, am_ex, gset_eq, gset_ne, upd_eq, upd_ne, gset_gset, am_ci_1, am_ci_6, am_toList_some, am_toList_none, true_implies, false_implies, and_self, and_true, true_and, not_true_eq_false, not_false_eq_true, imp_self, implies_true, Classical.not_not, if_true, if_false, false_and, and_false, or_false, false_or, true_or, or_true, Nat.reduceAdd, Nat.reduceMul, Nat.reduceSub, Nat.reduceLT, Nat.reduceLeDiff, Nat.reduceEqDiff, Nat.reduceBneDiff, Nat.add_zero, Nat.zero_add, reduceCtorEq, wil0, wal0, wis0, wic0, wil1, wal1, wis1, wic1, wil2, wll2, wal2, wis2, was2, wls2, wic2, wil3, wis3, wic3, wic3m, wic3s, wil4, wis4, wic4, wil5, wis5, wic5, wic5m, wil6, wll6, wal6, wis6, was6, wls6, wic6, wil7, wal7, wis7, was7, wic7, wil8, wis8, wic8, wil9, wis9, wic9, wil10, wis10, wic10, am_nI_inj, am_nI_lt, am_nI_le, nI_add, pk_mul, am_nI_sub, am_add_m1, am_gfs, am_pfs, am_alds, am_asts, am_lens, bk79_45, am_B79_4, am_B79_45, a1, Nat.le_refl]
    | succ d ih =>
      intro i hi
      have hin : i < n := by omega
      have hi8 : i < 8 := by omega
      have hc0 : (n ≤ i) = False := eq_false (by omega)
      have f2 := a9 i hin
      have hg := (v3 i hin).2.2.2.2
      have ih := ih (i + 1) (by omega)
      have hs : richN (T 5) (i + 1) = if richN (T 5) i = 8 ∨ T 5 (richN (T 5) i) < T 5 i then i else richN (T 5) i := rfl
      rw [hs] at ih
      have hr := richN_le (T 5) i (by omega)
      rw [bh79_4]
      generalize richN (T 5) i = c at ih hr
      by_cases h8 : c = 8
      · subst h8
        rw [if_pos (Or.inl rfl), eP_lt (by omega)] at ih
        rw [eP_8]
        have q0 : (nM < nI 0) = True := nM_lt (by omega)
        simp (config := { maxSteps := 1000000 }) (disch := first | exact am_nl_i | exact am_nl_r | exact am_nl_n | exact am_l0 | exact am_l1 | exact am_l2 | exact am_l3 | assumption | omega) only [wp_ldc, wp_sipush, wp_ldc_w, wp_lconst, wp_iadd, wp_isub, wp_imul, wp_iand, wp_ior, wp_ixor, wp_ishl, wp_ishr, wp_iushr, wp_idiv, wp_irem, wp_ineg, wp_i2b, wp_i2s, wp_i2c, wp_i2l, wp_ladd, wp_lmul, wp_lcmp, wp_dup_i, wp_dup_r, wp_dup2, wp_pop, wp_getfield, wp_putfield, wp_getstatic, wp_iaload, wp_baload, wp_aaload, wp_iastore, wp_arraylength, wp_goto, wp_fall, wp_ieq, wp_ine, wp_ilt, wp_ige, wp_igt, wp_ile, wp_ceq, wp_cne, wp_clt, wp_cge, wp_cgt, wp_cle, wp_sw, wp_ret0, wp_ret1z, wp_ret1o, wp_ret1, wp_ret2, wp_ret3, wp_ret4, wp_ret5, wp_return, wp_min, wp_max, wp_abs, am_ex, gset_eq, gset_ne, upd_eq, upd_ne, gset_gset, am_ci_1, am_ci_6, am_toList_some, am_toList_none, true_implies, false_implies, and_self, and_true, true_and, not_true_eq_false, not_false_eq_true, imp_self, implies_true, Classical.not_not, if_true, if_false, false_and, and_false, or_false, false_or, true_or, or_true, Nat.reduceAdd, Nat.reduceMul, Nat.reduceSub, Nat.reduceLT, Nat.reduceLeDiff, Nat.reduceEqDiff, Nat.reduceBneDiff, Nat.add_zero, Nat.zero_add, reduceCtorEq, wil0, wal0, wis0, wic0, wil1, wal1, wis1, wic1, wil2, wll2, wal2, wis2, was2, wls2, wic2, wil3, wis3, wic3, wic3m, wic3s, wil4, wis4, wic4, wil5, wis5, wic5, wic5m, wil6, wll6, wal6, wis6, was6, wls6, wic6, wil7, wal7, wis7, was7, wic7, wil8, wis8, wic8, wil9, wis9, wic9, wil10, wis10, wic10, am_nI_inj, am_nI_lt, am_nI_le, nI_add, pk_mul, am_nI_sub, am_add_m1, am_gfs, am_pfs, am_alds, am_asts, am_lens, bk79_33, bk79_37, bk79_38, am_B79_4, am_B79_33, am_B79_37, am_B79_38, bn79_4, a1, hc0, q0]
        exact ih
      · have hc8 : c < 8 := by omega
        have f3 := a9 c (by omega)
        have hgc := (v3 c (by omega)).2.2.2.2
        have q0 : (c < 0) = False := eq_false (by omega)
        rw [eP_lt h8]
        by_cases hlt : T 5 c < T 5 i
        · rw [if_pos (Or.inr hlt), eP_lt (by omega)] at ih
          have q2 : (T 5 i ≤ T 5 c) = False := eq_false (by omega)
          simp (config := { maxSteps := 1000000 }) (disch := first | exact am_nl_i | exact am_nl_r | exact am_nl_n | exact am_l0 | exact am_l1 | exact am_l2 | exact am_l3 | assumption | omega) only [wp_ldc, wp_sipush, wp_ldc_w, wp_lconst, wp_iadd, wp_isub, wp_imul, wp_iand, wp_ior, wp_ixor, wp_ishl, wp_ishr, wp_iushr, wp_idiv, wp_irem, wp_ineg, wp_i2b, wp_i2s, wp_i2c, wp_i2l, wp_ladd, wp_lmul, wp_lcmp, wp_dup_i, wp_dup_r, wp_dup2, wp_pop, wp_getfield, wp_putfield, wp_getstatic, wp_iaload, wp_baload, wp_aaload, wp_iastore, wp_arraylength, wp_goto, wp_fall, wp_ieq, wp_ine, wp_ilt, wp_ige, wp_igt, wp_ile, wp_ceq, wp_cne, wp_clt, wp_cge, wp_cgt, wp_cle, wp_sw, wp_ret0, wp_ret1z, wp_ret1o, wp_ret1, wp_ret2, wp_ret3, wp_ret4, wp_ret5, wp_return, wp_min, wp_max, wp_abs, am_ex, gset_eq, gset_ne, upd_eq, upd_ne, gset_gset, am_ci_1, am_ci_6, am_toList_some, am_toList_none, true_implies, false_implies, and_self, and_true, true_and, not_true_eq_false, not_false_eq_true, imp_self, implies_true, Classical.not_not, if_true, if_false, false_and, and_false, or_false, false_or, true_or, or_true, Nat.reduceAdd, Nat.reduceMul, Nat.reduceSub, Nat.reduceLT, Nat.reduceLeDiff, Nat.reduceEqDiff, Nat.reduceBneDiff, Nat.add_zero, Nat.zero_add, reduceCtorEq, wil0, wal0, wis0, wic0, wil1, wal1, wis1, wic1, wil2, wll2, wal2, wis2, was2, wls2, wic2, wil3, wis3, wic3, wic3m, wic3s, wil4, wis4, wic4, wil5, wis5, wic5, wic5m, wil6, wll6, wal6, wis6, was6, wls6, wic6, wil7, wal7, wis7, was7, wic7, wil8, wis8, wic8, wil9, wis9, wic9, wil10, wis10, wic10, am_nI_inj, am_nI_lt, am_nI_le, nI_add, pk_mul, am_nI_sub, am_add_m1, am_gfs, am_pfs, am_alds, am_asts, am_lens, bk79_33, bk79_37, bk79_38, am_B79_4, am_B79_33, am_B79_37, am_B79_38, bn79_4, a1, hc0, C_X5_personIs, f2, f3, q0, q2]
          exact ih
        · rw [if_neg (by omega), eP_lt h8] at ih
          have q2 : (T 5 i ≤ T 5 c) = True := eq_true (by omega)
          simp (config := { maxSteps := 1000000 }) (disch := first | exact am_nl_i | exact am_nl_r | exact am_nl_n | exact am_l0 | exact am_l1 | exact am_l2 | exact am_l3 | assumption | omega) only [wp_ldc, wp_sipush, wp_ldc_w, wp_lconst, wp_iadd, wp_isub, wp_imul, wp_iand, wp_ior, wp_ixor, wp_ishl, wp_ishr, wp_iushr, wp_idiv, wp_irem, wp_ineg, wp_i2b, wp_i2s, wp_i2c, wp_i2l, wp_ladd, wp_lmul, wp_lcmp, wp_dup_i, wp_dup_r, wp_dup2, wp_pop, wp_getfield, wp_putfield, wp_getstatic, wp_iaload, wp_baload, wp_aaload, wp_iastore, wp_arraylength, wp_goto, wp_fall, wp_ieq, wp_ine, wp_ilt, wp_ige, wp_igt, wp_ile, wp_ceq, wp_cne, wp_clt, wp_cge, wp_cgt, wp_cle, wp_sw, wp_ret0, wp_ret1z, wp_ret1o, wp_ret1, wp_ret2, wp_ret3, wp_ret4, wp_ret5, wp_return, wp_min, wp_max, wp_abs, am_ex, gset_eq, gset_ne, upd_eq, upd_ne, gset_gset, am_ci_1, am_ci_6, am_toList_some, am_toList_none, true_implies, false_implies, and_self, and_true, true_and, not_true_eq_false, not_false_eq_true, imp_self, implies_true, Classical.not_not, if_true, if_false, false_and, and_false, or_false, false_or, true_or, or_true, Nat.reduceAdd, Nat.reduceMul, Nat.reduceSub, Nat.reduceLT, Nat.reduceLeDiff, Nat.reduceEqDiff, Nat.reduceBneDiff, Nat.add_zero, Nat.zero_add, reduceCtorEq, wil0, wal0, wis0, wic0, wil1, wal1, wis1, wic1, wil2, wll2, wal2, wis2, was2, wls2, wic2, wil3, wis3, wic3, wic3m, wic3s, wil4, wis4, wic4, wil5, wis5, wic5, wic5m, wil6, wll6, wal6, wis6, was6, wls6, wic6, wil7, wal7, wis7, was7, wic7, wil8, wis8, wic8, wil9, wis9, wic9, wil10, wis10, wic10, am_nI_inj, am_nI_lt, am_nI_le, nI_add, pk_mul, am_nI_sub, am_add_m1, am_gfs, am_pfs, am_alds, am_asts, am_lens, bk79_33, bk79_37, bk79_38, am_B79_4, am_B79_33, am_B79_37, am_B79_38, bn79_4, a1, hc0, C_X5_personIs, f2, f3, q0, q2]
          exact ih
  simp (config := { maxSteps := 1000000 }) (disch := first | exact am_nl_i | exact am_nl_r | exact am_nl_n | exact am_l0 | exact am_l1 | exact am_l2 | exact am_l3 | assumption | omega) only [wp_ldc, wp_sipush, wp_ldc_w, wp_lconst, wp_iadd, wp_isub, wp_imul, wp_iand, wp_ior, wp_ixor, wp_ishl, wp_ishr, wp_iushr, wp_idiv, wp_irem, wp_ineg, wp_i2b, wp_i2s, wp_i2c, wp_i2l, wp_ladd, wp_lmul, wp_lcmp, wp_dup_i, wp_dup_r, wp_dup2, wp_pop, wp_getfield, wp_putfield, wp_getstatic, wp_iaload, wp_baload, wp_aaload, wp_iastore, wp_arraylength, wp_goto, wp_fall, wp_ieq, wp_ine, wp_ilt, wp_ige, wp_igt, wp_ile, wp_ceq, wp_cne, wp_clt, wp_cge, wp_cgt, wp_cle, wp_sw, wp_ret0, wp_ret1z, wp_ret1o, wp_ret1, wp_ret2, wp_ret3, wp_ret4, wp_ret5, wp_return, wp_min, wp_max, wp_abs, am_ex, gset_eq, gset_ne, upd_eq, upd_ne, gset_gset, am_ci_1, am_ci_6, am_toList_some, am_toList_none, true_implies, false_implies, and_self, and_true, true_and, not_true_eq_false, not_false_eq_true, imp_self, implies_true, Classical.not_not, if_true, if_false, false_and, and_false, or_false, false_or, true_or, or_true, Nat.reduceAdd, Nat.reduceMul, Nat.reduceSub, Nat.reduceLT, Nat.reduceLeDiff, Nat.reduceEqDiff, Nat.reduceBneDiff, Nat.add_zero, Nat.zero_add, reduceCtorEq, wil0, wal0, wis0, wic0, wil1, wal1, wis1, wic1, wil2, wll2, wal2, wis2, was2, wls2, wic2, wil3, wis3, wic3, wic3m, wic3s, wil4, wis4, wic4, wil5, wis5, wic5, wic5m, wil6, wll6, wal6, wis6, was6, wls6, wic6, wil7, wal7, wis7, was7, wic7, wil8, wis8, wic8, wil9, wis9, wic9, wil10, wis10, wic10, am_nI_inj, am_nI_lt, am_nI_le, nI_add, pk_mul, am_nI_sub, am_add_m1, am_gfs, am_pfs, am_alds, am_asts, am_lens, bk79_0, am_B79_0, bn79_4, fcs]
  exact key n 0 (by omega)
theorem C_X5_richest {X : AmX} {G : GG} {k : Nat} {r : List Instr} {lv : LV} {st : List Value} {Q : Option Value → GG → Prop} {n : Nat} {T : TT} {t z : Int32} (hE : ME G 59 n T t z) (hV : TV n T) (hl : st.length ≤ 4) : WP X k (.invokeinterface 79 1 :: r) lv ((.ref 58) :: st) G Q ↔ WP X k r lv ((.int (eP (richN (T 5) n))) :: st) (G) Q := WP_ev (E_X5_richest n T t z hE hV) (by decide) rfl rfl hl (rfl)
/-! ===== the whole state, and how the model holds it ===== -/
def SV (S : SS) : Prop := TWV S.1 ∧ (S.2.1.1 = true → TWV S.2.1.2) ∧ (∀ s, s < 4 → (S.2.2.2.1.1 s = 0 ∨ S.2.2.2.1.1 s = 8 ∨ S.2.2.2.1.1 s = 16 ∨ S.2.2.2.1.1 s = 32) ∧ S.2.2.2.1.2.1 s ≤ 40) ∧ S.2.2.2.2.1 ≤ 120 ∧ ∀ i, i < S.2.2.2.2.1 → S.2.2.2.2.2 i < 256
theorem SV_of {S : SS} {G : GG} (h : CSt S G) : SV S := by
  obtain ⟨h1, h2, h3, h4, h5, h6⟩ := h
  exact ⟨h2, fun hk => (h3.2 hk).2, fun s hs => (h5 s hs).2.2.2, h6.2.1, fun i hi => (h6.2.2 i hi).2⟩
def MO (S : SS) (G : GG) : Prop := (G 58 3 = bI S.2.1.1 ∧ (S.2.1.1 = true → ME G 60 S.2.1.2.1 S.2.1.2.2.1 (nI S.2.1.2.2.2.1) S.2.1.2.2.2.2)) ∧ (G 62 0 = tsum S.2.2.1 7 ∧ ∀ f, f < 7 → G 62 (f + 1) = S.2.2.1 f) ∧ (∀ s, s < 4 → G 67 s = nI (S.2.2.2.1.1 s) ∧ G 68 s = nI (S.2.2.2.1.2.1 s) ∧ ∀ i, i < 40 → G 69 (40 * s + i) = S.2.2.2.1.2.2 s i) ∧ G 58 9 = nI S.2.2.2.2.1 ∧ ∀ i, i < S.2.2.2.2.1 → G 65 i = nI (S.2.2.2.2.2 i)
def MSt (S : SS) (G : GG) : Prop := ME G 59 S.1.1 S.1.2.1 (nI S.1.2.2.1) S.1.2.2.2 ∧ G 58 7 = nM ∧ MO S G
def mdep (o : Nat) : Prop := o = 60 ∨ o = 62 ∨ o = 65 ∨ o = 67 ∨ o = 68 ∨ o = 69
theorem MO_congr {S : SS} {G G1 : GG} (h : MO S G) (e3 : G1 58 3 = G 58 3) (e9 : G1 58 9 = G 58 9) (e : ∀ o, mdep o → G1 o = G o) : MO S G1 := by
  unfold MO at h ⊢
  unfold ME at h ⊢
  rw [e3, e9, e 60 (by simp [mdep]), e 62 (by simp [mdep]), e 65 (by simp [mdep]), e 67 (by simp [mdep]), e 68 (by simp [mdep]), e 69 (by simp [mdep])]
  exact h
theorem MSt_congr {S : SS} {G G1 : GG} (h : MSt S G) (e : ∀ o, ¬ o = 61 → ¬ o = 63 → ¬ o = 64 → G1 o = G o) : MSt S G1 := by
  obtain ⟨h1, h2, h3⟩ := h
  refine ⟨?_, ?_, MO_congr h3 ?_ ?_ (fun o ho => e o ?_ ?_ ?_)⟩
  · unfold ME at h1 ⊢
    rw [e 59 (by omega) (by omega) (by omega)]; exact h1
  · rw [e 58 (by omega) (by omega) (by omega)]; exact h2
  · rw [e 58 (by omega) (by omega) (by omega)]
  · rw [e 58 (by omega) (by omega) (by omega)]
  · unfold mdep at ho; omega
  · unfold mdep at ho; omega
  · unfold mdep at ho; omega
def MW (X : AmX) (m : Nat) (as : List Value) (G : GG) (r : Int32 × SS) : Prop := WPm X m as G (fun w G1 => w = some (.int r.1) ∧ MSt r.2 G1 ∧ ∀ o, o < 58 → G1 o = G o)
theorem MW_ev {X : AmX} {m : Nat} {as : List Value} {G : GG} {r : Int32 × SS} (h : MW X m as G r) : ∃ G1, Ev X m as G (some (.int r.1)) G1 ∧ MSt r.2 G1 ∧ ∀ o, o < 58 → G1 o = G o := by
  obtain ⟨v, G1, h1, rfl, h2⟩ := WPm_ev h
  exact ⟨G1, h1, h2⟩
theorem MS_MR {S : SS} {G : GG} (h : MSt S G) (hv : SV S) : MR G S.1.1 S.1.2.1 (nI S.1.2.2.1) S.1.2.2.2 8 := by
  have h8 := hv.1.1.1
  refine ⟨h.1, h.2.1, Nat.le_refl 8, fun i hi => ?_, hv.1.1⟩
  have := hv.1.2.1 i hi
  omega
theorem tsum_congr {f g : Nat → Int32} : ∀ n, (∀ j, j < n → f j = g j) → tsum f n = tsum g n
  | 0, _ => rfl
  | n + 1, h => by
    unfold tsum
    rw [tsum_congr n (fun j hj => h j (by omega)), h n (by omega)]
theorem tsum_upd {g : Nat → Int32} {f : Nat} : ∀ n, f < n → tsum (upd g f (g f + nI 1)) n = tsum g n + nI 1
  | 0, h => absurd h (Nat.not_lt_zero f)
  | n + 1, h => by
    show tsum (upd g f (g f + nI 1)) n + upd g f (g f + nI 1) n = tsum g n + g n + nI 1
    by_cases e : f = n
    · subst e
      rw [upd_eq, tsum_congr (g := g) f (fun j hj => upd_ne (by omega)), Int32.add_assoc]
    · rw [upd_ne (fun z => e z.symm), tsum_upd n (by omega), Int32.add_assoc, Int32.add_assoc, Int32.add_comm (nI 1)]
theorem MSt_fnd {S : SS} {G : GG} {f : Nat} (h : MSt S G) (hf : f < 7) : MSt (sFnd S f).2 (gset G 62 (upd (upd (G 62) (f + 1) (G 62 (f + 1) + nI 1)) 0 (G 62 0 + nI 1))) := by
  obtain ⟨h1, h2, h3, ⟨h4, h5⟩, h6, h7, h8⟩ := h
  refine ⟨?_, ?_, ⟨?_, fun hk => ?_⟩, ⟨?_, fun g hg => ?_⟩, fun s hs => ?_, ?_, fun i hi => ?_⟩
  · unfold ME
    rw [gset_ne (by omega)]
    exact h1
  · rw [gset_ne (by omega)]; exact h2
  · rw [gset_ne (by omega)]; exact h3.1
  · unfold ME
    rw [gset_ne (by omega)]
    exact h3.2 hk
  · rw [gset_eq, upd_eq, h4]
    show _ = tsum (upd S.2.2.1 f (S.2.2.1 f + nI 1)) 7
    rw [tsum_upd 7 hf]
  · show gset G 62 _ 62 (g + 1) = upd S.2.2.1 f (S.2.2.1 f + nI 1) g
    rw [gset_eq, upd_ne (by omega)]
    by_cases e : g = f
    · subst e; rw [upd_eq, upd_eq, h5 g hg]
    · rw [upd_ne (by omega), upd_ne e]; exact h5 g hg
  · rw [gset_ne (by omega), gset_ne (by omega), gset_ne (by omega)]; exact h6 s hs
  · rw [gset_ne (by omega)]; exact h7
  · rw [gset_ne (by omega)]; exact h8 i hi
theorem mfnd_frame {G : GG} {f : Nat → Int32} : ∀ o, o < 58 → gset G 62 f o = G o := fun o h => gset_ne (by omega)
/-- the town changed -/
theorem MSt_town {S : SS} {G G1 : GG} {w : TW} (h : MSt S G) (hw : ME G1 59 w.1 w.2.1 (nI w.2.2.1) w.2.2.2) (e : ∀ o, ¬ o = 59 → ¬ o = 61 → ¬ o = 63 → ¬ o = 64 → G1 o = G o) : MSt (sTown S w) G1 := by
  obtain ⟨h1, h2, h3⟩ := h
  refine ⟨hw, ?_, MO_congr (S := sTown S w) h3 ?_ ?_ (fun o ho => e o ?_ ?_ ?_ ?_)⟩
  · rw [e 58 (by omega) (by omega) (by omega) (by omega)]; exact h2
  · rw [e 58 (by omega) (by omega) (by omega) (by omega)]
  · rw [e 58 (by omega) (by omega) (by omega) (by omega)]
  · unfold mdep at ho; omega
  · unfold mdep at ho; omega
  · unfold mdep at ho; omega
  · unfold mdep at ho; omega
