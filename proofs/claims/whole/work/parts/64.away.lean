/-! ===== the class: away, swapFor ===== -/
theorem sumN_mem {f : Nat → Nat} {i : Nat} : ∀ n, i < n → f i ≤ sumN f n
  | 0, h => absurd h (Nat.not_lt_zero _)
  | n + 1, h => by
    have e : sumN f (n + 1) = sumN f n + f n := rfl
    by_cases hi : i = n
    · subst hi; omega
    · have := sumN_mem (f := f) n (by omega : i < n); omega
def awaG (S : SS) (j : Nat) : Nat := min 800000 (sumN (runN S.1.1 1 (updT S.1.2.1 2 j 8) 5) S.1.1 - runN S.1.1 1 (updT S.1.2.1 2 j 8) 5 j)
def awaN (S : SS) : Nat → Int32 × Nat := bst (fun _ => true) (awaG S) nI (nI 0)
def sp_away (S : SS) : Int32 × SS := if S.1.1 = 0 then sFnd S 3 else ((awaN S S.1.1).1, S)
theorem sumN_goods {n : Nat} {T : TT} (h : TV n T) : sumN (T 5) n ≤ 800000 := by
  have h1 := sumN_le (f := T 5) (m := 99999) n (fun j hj => (h.2.2.1 j hj).2.2.2.2)
  have h2 := h.1
  have h3 : n * 99999 ≤ 8 * 99999 := Nat.mul_le_mul_right _ h2
  omega
theorem CT_away {X : AmX} {S : SS} {G : GG} (h : CSt S G) : CW X 120 [.ref 0] G (sp_away S) := by
  have hE := h.1
  unfold TWE at hE
  have f0 := hE.1
  have hv8 := h.2.1.1.1
  unfold CW sp_away
  have hb := tb1
  have hb12 := tb12
  have hb23 := tb23
  have e2 : (nI 1 = nI 0) = False := eq_false (by decide)
  show WP X 120 (am_blk 120 0) [some (.ref 0), none, none, none, none] [] G _
  by_cases hn : S.1.1 = 0
  · rw [if_pos hn]
    rw [hn] at f0
    simp (config := { maxSteps := 1000000 }) (disch := first | exact am_nl_i | exact am_nl_r | exact am_nl_n | exact am_l0 | exact am_l1 | exact am_l2 | exact am_l3 | assumption | omega) only [wp_ldc, wp_sipush, wp_ldc_w, wp_lconst, wp_iadd, wp_isub, wp_imul, wp_iand, wp_ior, wp_ixor, wp_ishl, wp_ishr, wp_iushr, wp_idiv, wp_irem, wp_ineg, wp_i2b, wp_i2s, wp_i2c, wp_i2l, wp_ladd, wp_lmul, wp_lcmp, wp_dup_i, wp_dup_r, wp_dup2, wp_pop, wp_getfield, wp_putfield, wp_getstatic, wp_iaload, wp_baload, wp_aaload, wp_iastore, wp_arraylength, wp_goto, wp_fall, wp_ieq, wp_ine, wp_ilt, wp_ige, wp_igt, wp_ile, wp_ceq, wp_cne, wp_clt, wp_cge, wp_cgt, wp_cle, wp_sw, wp_ret0, wp_ret1z, wp_ret1o, wp_ret1, wp_ret2, wp_ret3, wp_ret4, wp_ret5, wp_return, wp_min, wp_max, wp_abs, am_ex, gset_eq, gset_ne, upd_eq, upd_ne, gset_gset, am_ci_1, am_ci_6, am_toList_some, am_toList_none, true_implies, false_implies, and_self, and_true, true_and, not_true_eq_false, not_false_eq_true, imp_self, implies_true, Classical.not_not, if_true, if_false, false_and, and_false, or_false, false_or, true_or, or_true, Nat.reduceAdd, Nat.reduceMul, Nat.reduceSub, Nat.reduceLT, Nat.reduceLeDiff, Nat.reduceEqDiff, Nat.reduceBneDiff, Nat.add_zero, Nat.zero_add, reduceCtorEq, wil0, wal0, wis0, wic0, wil1, wal1, wis1, wic1, wil2, wll2, wal2, wis2, was2, wls2, wic2, wil3, wis3, wic3, wic3m, wic3s, wil4, wis4, wic4, wil5, wis5, wic5, wic5m, wil6, wll6, wal6, wis6, was6, wls6, wic6, wil7, wal7, wis7, was7, wic7, wil8, wis8, wic8, wil9, wis9, wic9, wil10, wis10, wic10, am_nI_inj, am_nI_lt, am_nI_le, nI_add, pk_mul, am_nI_sub, am_add_m1, am_gfs, am_pfs, am_alds, am_asts, am_lens, tgf0, tgf1, tgf2, tgf3, tgf4, tgf5, tgf6, tgf7, tgf8, tgf9, tgf10, tgf11, tgf12, tpf7, tpf8, tpf9, tal0, tas0, tln0, tal1, tas1, tln1, tal2, tas2, tln2, tal3, tas3, tln3, tal4, tas4, tln4, tal5, tas5, tln5, tal6, tas6, tln6, tal7, tas7, tln7, tal8, tas8, tln8, tal9, tas9, tln9, bs120, am_B120_0, am_B120_17, am_B120_23, am_B120_93, am_B120_99, f0, fcs, C_X4_found]
    first | exact ⟨rfl, CSt_fnd h (by omega), fnd_frame⟩ | exact ⟨CSt_fnd h (by omega), fnd_frame⟩
  rw [if_neg hn]
  have qn := eq_false hn
  generalize hQ : (fun (w : Option Value) (G1 : GG) => w = some (.int ((awaN S S.1.1).1, S).1) ∧ CSt ((awaN S S.1.1).1, S).2 G1 ∧ ∀ o, 58 ≤ o → G1 o = G o) = Q
  have hle : ∀ j, (awaN S j).2 ≤ 800000 + 1 := fun j => bst_le (fun j => Nat.min_le_left _ _) j
  have key : ∀ d j : Nat, j + d = S.1.1 → ∀ (G' : GG) (v : Option Value), CSt S G' → (∀ o, 58 ≤ o → G' o = G o) → WP X 120 (am_blk 120 23) [some (.ref 0), some (.int (awaN S j).1), some (.int (mI (awaN S j).2)), some (.int (nI j)), v] [] G' Q := by
    intro d
    induction d with
    | zero =>
      intro j hj G' v hc hf
      obtain rfl : j = S.1.1 := by omega
      have g0 := hc.1.1
      rw [bh120_23]
      simp (config := { maxSteps := 1000000 }) (disch := first | exact am_nl_i | exact am_nl_r | exact am_nl_n | exact am_l0 | exact am_l1 | exact am_l2 | exact am_l3 | assumption | omega) only [wp_ldc, wp_sipush, wp_ldc_w, wp_lconst, wp_iadd, wp_isub, wp_imul, wp_iand, wp_ior, wp_ixor, wp_ishl, wp_ishr, wp_iushr, wp_idiv, wp_irem, wp_ineg, wp_i2b, wp_i2s, wp_i2c, wp_i2l, wp_ladd, wp_lmul, wp_lcmp, wp_dup_i, wp_dup_r, wp_dup2, wp_pop, wp_getfield, wp_putfield, wp_getstatic, wp_iaload, wp_baload, wp_aaload, wp_iastore, wp_arraylength, wp_goto, wp_fall, wp_ieq, wp_ine, wp_ilt, wp_ige, wp_igt, wp_ile, wp_ceq, wp_cne, wp_clt, wp_cge, wp_cgt, wp_cle, wp_sw, wp_ret0, wp_ret1z, wp_ret1o, wp_ret1, wp_ret2, wp_ret3, wp_ret4, wp_ret5, wp_return, wp_min, wp_max, wp_abs, am_ex, gset_eq, gset_ne, upd_eq, upd_ne, gset_gset, am_ci_1, am_ci_6, am_toList_some, am_toList_none, true_implies, false_implies, and_self, and_true, true_and, not_true_eq_false, not_false_eq_true, imp_self, implies_true, Classical.not_not, if_true, if_false, false_and, and_false, or_false, false_or, true_or, or_true, Nat.reduceAdd, Nat.reduceMul, Nat.reduceSub, Nat.reduceLT, Nat.reduceLeDiff, Nat.reduceEqDiff, Nat.reduceBneDiff, Nat.add_zero, Nat.zero_add, reduceCtorEq, wil0, wal0, wis0, wic0, wil1, wal1, wis1, wic1, wil2, wll2, wal2, wis2, was2, wls2, wic2, wil3, wis3, wic3, wic3m, wic3s, wil4, wis4, wic4, wil5, wis5, wic5, wic5m, wil6, wll6, wal6, wis6, was6, wls6, wic6, wil7, wal7, wis7, was7, wic7, wil8, wis8, wic8, wil9, wis9, wic9, wil10, wis10, wic10, am_nI_inj, am_nI_lt, am_nI_le, nI_add, pk_mul, am_nI_sub, am_add_m1, am_gfs, am_pfs, am_alds, am_asts, am_lens, tgf0, tgf1, tgf2, tgf3, tgf4, tgf5, tgf6, tgf7, tgf8, tgf9, tgf10, tgf11, tgf12, tpf7, tpf8, tpf9, tal0, tas0, tln0, tal1, tas1, tln1, tal2, tas2, tln2, tal3, tas3, tln3, tal4, tas4, tln4, tal5, tas5, tln5, tal6, tas6, tln6, tal7, tas7, tln7, tal8, tas8, tln8, tal9, tas9, tln9, bk120_99, am_B120_23, am_B120_99, g0, Nat.le_refl]
      rw [← hQ]
      exact ⟨rfl, hc, hf⟩
    | succ d ih =>
      intro j hj G' v hc hf
      have hjn : j < S.1.1 := by omega
      have hj8 : j < 8 := by omega
      have q1 : (S.1.1 ≤ j) = False := eq_false (by omega)
      have g0 := hc.1.1
      obtain ⟨G1, hC, hc1, hf1⟩ := CS_become (X := X) hc
      have hT : TE (gset G1 26 (upd (G1 26) j nM)) 23 S.1.1 (updT S.1.2.1 2 j 8) S.1.2.2.1 S.1.2.2.2 := TE_set (i := j) (k := 1) (x := 8) hc1.2.1 (by omega)
      have hr2 : TRS S (S.1.1, updT S.1.2.1 2 j 8, S.1.2.2) (gset G1 26 (upd (G1 26) j nM)) := ⟨CSt_congr hc1.1 (fun o ho => gset_ne (by unfold cdep at ho; omega)), hT, TV_set (k := 1) hc1.2.2.1 hjn (fun e => by omega) (fun _ => by omega) (fun e => by omega) (fun e => by omega) (fun e => by omega) (by omega), h.2.1.2.2⟩
      have hf2 : ∀ o, 58 ≤ o → gset G1 26 (upd (G1 26) j nM) o = G o := fun o ho => by rw [gset_ne (by omega), hf1 o ho, hf o ho]
      generalize hG2 : gset G1 26 (upd (G1 26) j nM) = G2 at *
      obtain ⟨G3, hD, hr3, hf3, _⟩ := CS_tpass (X := X) hr2 1 (by omega)
      have hS := fun (k : Nat) (r : List Instr) (lv : LV) (st : List Value) (Q : Option Value → GG → Prop) (hl : st.length ≤ 4) => C_X3_goodsOfAll (X := X) (k := k) (st := st) (r := r) (lv := lv) (Q := Q) tb23 hr3.2.1 hr3.2.2.1 hl
      have g5 : G3 29 j = nI (runN S.1.1 1 (updT S.1.2.1 2 j 8) 5 j) := hr3.2.1.2.2.2.2.2.2.2.2.1 j hjn
      have ls : sumN (runN S.1.1 1 (updT S.1.2.1 2 j 8) 5) S.1.1 ≤ 800000 := sumN_goods hr3.2.2.1
      have lm : runN S.1.1 1 (updT S.1.2.1 2 j 8) 5 j ≤ sumN (runN S.1.1 1 (updT S.1.2.1 2 j 8) 5) S.1.1 := sumN_mem (f := runN S.1.1 1 (updT S.1.2.1 2 j 8) 5) S.1.1 hjn
      have eg : nI (sumN (runN S.1.1 1 (updT S.1.2.1 2 j 8) 5) S.1.1) - nI (runN S.1.1 1 (updT S.1.2.1 2 j 8) 5 j) = nI (awaG S j) := by
        rw [am_nI_sub lm]
        unfold awaG
        rw [Nat.min_eq_right (by omega)]
      have eg2 : nI (sumN (runN S.1.1 1 (updT S.1.2.1 2 j 8) 5) S.1.1 - runN S.1.1 1 (updT S.1.2.1 2 j 8) 5 j) = nI (awaG S j) := by
        unfold awaG
        rw [Nat.min_eq_right (by omega)]
      have l5 : awaG S j ≤ 800000 := Nat.min_le_left _ _
      have hl2 := hle j
      have q3 := mI_le (m := (awaN S j).2) (g := awaG S j) (by omega) (by omega)
      have hff : ∀ o, 58 ≤ o → G3 o = G o := fun o ho => (hf3 o ho).trans (hf2 o ho)
      rw [bh120_23]
      simp only [wPass] at hS
      by_cases hb : (awaN S j).2 ≤ awaG S j
      · have es : awaN S (j + 1) = (nI j, awaG S j + 1) := if_pos ⟨rfl, hb⟩
        have ih := fun v => ih (j + 1) (by omega) G3 v hr3.1 hff
        simp only [es] at ih
        have e5 : mI (awaG S j + 1) = nI (awaG S j) := mI_s _
        simp only [e5] at ih
        rw [eq_false (by omega : ¬ awaG S j + 1 ≤ (awaN S j).2)] at q3
        simp (config := { maxSteps := 1000000 }) (disch := first | exact am_nl_i | exact am_nl_r | exact am_nl_n | exact am_l0 | exact am_l1 | exact am_l2 | exact am_l3 | assumption | omega) only [wp_ldc, wp_sipush, wp_ldc_w, wp_lconst, wp_iadd, wp_isub, wp_imul, wp_iand, wp_ior, wp_ixor, wp_ishl, wp_ishr, wp_iushr, wp_idiv, wp_irem, wp_ineg, wp_i2b, wp_i2s, wp_i2c, wp_i2l, wp_ladd, wp_lmul, wp_lcmp, wp_dup_i, wp_dup_r, wp_dup2, wp_pop, wp_getfield, wp_putfield, wp_getstatic, wp_iaload, wp_baload, wp_aaload, wp_iastore, wp_arraylength, wp_goto, wp_fall, wp_ieq, wp_ine, wp_ilt, wp_ige, wp_igt, wp_ile, wp_ceq, wp_cne, wp_clt, wp_cge, wp_cgt, wp_cle, wp_sw, wp_ret0, wp_ret1z, wp_ret1o, wp_ret1, wp_ret2, wp_ret3, wp_ret4, wp_ret5, wp_return, wp_min, wp_max, wp_abs, am_ex, gset_eq, gset_ne, upd_eq, upd_ne, gset_gset, am_ci_1, am_ci_6, am_toList_some, am_toList_none, true_implies, false_implies, and_self, and_true, true_and, not_true_eq_false, not_false_eq_true, imp_self, implies_true, Classical.not_not, if_true, if_false, false_and, and_false, or_false, false_or, true_or, or_true, Nat.reduceAdd, Nat.reduceMul, Nat.reduceSub, Nat.reduceLT, Nat.reduceLeDiff, Nat.reduceEqDiff, Nat.reduceBneDiff, Nat.add_zero, Nat.zero_add, reduceCtorEq, wil0, wal0, wis0, wic0, wil1, wal1, wis1, wic1, wil2, wll2, wal2, wis2, was2, wls2, wic2, wil3, wis3, wic3, wic3m, wic3s, wil4, wis4, wic4, wil5, wis5, wic5, wic5m, wil6, wll6, wal6, wis6, was6, wls6, wic6, wil7, wal7, wis7, was7, wic7, wil8, wis8, wic8, wil9, wis9, wic9, wil10, wis10, wic10, am_nI_inj, am_nI_lt, am_nI_le, nI_add, pk_mul, am_nI_sub, am_add_m1, am_gfs, am_pfs, am_alds, am_asts, am_lens, tgf0, tgf1, tgf2, tgf3, tgf4, tgf5, tgf6, tgf7, tgf8, tgf9, tgf10, tgf11, tgf12, tpf7, tpf8, tpf9, tal0, tas0, tln0, tal1, tas1, tln1, tal2, tas2, tln2, tal3, tas3, tln3, tal4, tas4, tln4, tal5, tas5, tln5, tal6, tas6, tln6, tal7, tas7, tln7, tal8, tas8, tln8, tal9, tas9, tln9, bk120_93, am_B120_23, am_B120_93, bn120_23, q1, g0, hC, hG2, hD, hS, g5, eg, eg2, q3, fcs]
        exact ih _
      · have es : awaN S (j + 1) = awaN S j := if_neg (fun z => hb z.2)
        have ih := fun v => ih (j + 1) (by omega) G3 v hr3.1 hff
        simp only [es] at ih
        rw [eq_true (by omega : awaG S j + 1 ≤ (awaN S j).2)] at q3
        simp (config := { maxSteps := 1000000 }) (disch := first | exact am_nl_i | exact am_nl_r | exact am_nl_n | exact am_l0 | exact am_l1 | exact am_l2 | exact am_l3 | assumption | omega) only [wp_ldc, wp_sipush, wp_ldc_w, wp_lconst, wp_iadd, wp_isub, wp_imul, wp_iand, wp_ior, wp_ixor, wp_ishl, wp_ishr, wp_iushr, wp_idiv, wp_irem, wp_ineg, wp_i2b, wp_i2s, wp_i2c, wp_i2l, wp_ladd, wp_lmul, wp_lcmp, wp_dup_i, wp_dup_r, wp_dup2, wp_pop, wp_getfield, wp_putfield, wp_getstatic, wp_iaload, wp_baload, wp_aaload, wp_iastore, wp_arraylength, wp_goto, wp_fall, wp_ieq, wp_ine, wp_ilt, wp_ige, wp_igt, wp_ile, wp_ceq, wp_cne, wp_clt, wp_cge, wp_cgt, wp_cle, wp_sw, wp_ret0, wp_ret1z, wp_ret1o, wp_ret1, wp_ret2, wp_ret3, wp_ret4, wp_ret5, wp_return, wp_min, wp_max, wp_abs, am_ex, gset_eq, gset_ne, upd_eq, upd_ne, gset_gset, am_ci_1, am_ci_6, am_toList_some, am_toList_none, true_implies, false_implies, and_self, and_true, true_and, not_true_eq_false, not_false_eq_true, imp_self, implies_true, Classical.not_not, if_true, if_false, false_and, and_false, or_false, false_or, true_or, or_true, Nat.reduceAdd, Nat.reduceMul, Nat.reduceSub, Nat.reduceLT, Nat.reduceLeDiff, Nat.reduceEqDiff, Nat.reduceBneDiff, Nat.add_zero, Nat.zero_add, reduceCtorEq, wil0, wal0, wis0, wic0, wil1, wal1, wis1, wic1, wil2, wll2, wal2, wis2, was2, wls2, wic2, wil3, wis3, wic3, wic3m, wic3s, wil4, wis4, wic4, wil5, wis5, wic5, wic5m, wil6, wll6, wal6, wis6, was6, wls6, wic6, wil7, wal7, wis7, was7, wic7, wil8, wis8, wic8, wil9, wis9, wic9, wil10, wis10, wic10, am_nI_inj, am_nI_lt, am_nI_le, nI_add, pk_mul, am_nI_sub, am_add_m1, am_gfs, am_pfs, am_alds, am_asts, am_lens, tgf0, tgf1, tgf2, tgf3, tgf4, tgf5, tgf6, tgf7, tgf8, tgf9, tgf10, tgf11, tgf12, tpf7, tpf8, tpf9, tal0, tas0, tln0, tal1, tas1, tln1, tal2, tas2, tln2, tal3, tas3, tln3, tal4, tas4, tln4, tal5, tas5, tln5, tal6, tas6, tln6, tal7, tas7, tln7, tal8, tas8, tln8, tal9, tas9, tln9, bk120_93, am_B120_23, am_B120_93, bn120_23, q1, g0, hC, hG2, hD, hS, g5, eg, eg2, q3, fcs]
        exact ih _
  have key := key S.1.1 0 (by omega) G none h (fun _ _ => rfl)
  have hm1 : mI 0 = nM := rfl
  have hr0 : awaN S 0 = (nI 0, 0) := rfl
  rw [hr0] at key
  simp only [hm1] at key
  simp (config := { maxSteps := 1000000 }) (disch := first | exact am_nl_i | exact am_nl_r | exact am_nl_n | exact am_l0 | exact am_l1 | exact am_l2 | exact am_l3 | assumption | omega) only [wp_ldc, wp_sipush, wp_ldc_w, wp_lconst, wp_iadd, wp_isub, wp_imul, wp_iand, wp_ior, wp_ixor, wp_ishl, wp_ishr, wp_iushr, wp_idiv, wp_irem, wp_ineg, wp_i2b, wp_i2s, wp_i2c, wp_i2l, wp_ladd, wp_lmul, wp_lcmp, wp_dup_i, wp_dup_r, wp_dup2, wp_pop, wp_getfield, wp_putfield, wp_getstatic, wp_iaload, wp_baload, wp_aaload, wp_iastore, wp_arraylength, wp_goto, wp_fall, wp_ieq, wp_ine, wp_ilt, wp_ige, wp_igt, wp_ile, wp_ceq, wp_cne, wp_clt, wp_cge, wp_cgt, wp_cle, wp_sw, wp_ret0, wp_ret1z, wp_ret1o, wp_ret1, wp_ret2, wp_ret3, wp_ret4, wp_ret5, wp_return, wp_min, wp_max, wp_abs, am_ex, gset_eq, gset_ne, upd_eq, upd_ne, gset_gset, am_ci_1, am_ci_6, am_toList_some, am_toList_none, true_implies, false_implies, and_self, and_true, true_and, not_true_eq_false, not_false_eq_true, imp_self, implies_true, Classical.not_not, if_true, if_false, false_and, and_false, or_false, false_or, true_or, or_true, Nat.reduceAdd, Nat.reduceMul, Nat.reduceSub, Nat.reduceLT, Nat.reduceLeDiff, Nat.reduceEqDiff, Nat.reduceBneDiff, Nat.add_zero, Nat.zero_add, reduceCtorEq, wil0, wal0, wis0, wic0, wil1, wal1, wis1, wic1, wil2, wll2, wal2, wis2, was2, wls2, wic2, wil3, wis3, wic3, wic3m, wic3s, wil4, wis4, wic4, wil5, wis5, wic5, wic5m, wil6, wll6, wal6, wis6, was6, wls6, wic6, wil7, wal7, wis7, was7, wic7, wil8, wis8, wic8, wil9, wis9, wic9, wil10, wis10, wic10, am_nI_inj, am_nI_lt, am_nI_le, nI_add, pk_mul, am_nI_sub, am_add_m1, am_gfs, am_pfs, am_alds, am_asts, am_lens, tgf0, tgf1, tgf2, tgf3, tgf4, tgf5, tgf6, tgf7, tgf8, tgf9, tgf10, tgf11, tgf12, tpf7, tpf8, tpf9, tal0, tas0, tln0, tal1, tas1, tln1, tal2, tas2, tln2, tal3, tas3, tln3, tal4, tas4, tln4, tal5, tas5, tln5, tal6, tas6, tln6, tal7, tas7, tln7, tal8, tas8, tln8, tal9, tas9, tln9, bk120_0, bk120_17, am_B120_0, am_B120_17, bn120_23, f0, qn, fcs]
  exact key
/-- two plans swapped -/
def swpT (T : TT) (a b : Nat) : TT := updT (updT T 2 a (T 2 b)) 2 b (T 2 a)
def swpG (S : SS) (x a b : Nat) : Nat := min 800000 (sumN (runN S.1.1 x (swpT S.1.2.1 a b) 5) S.1.1)
theorem CS_swap {X : AmX} {S : SS} {G : GG} (h : CSt S G) (a b x : Nat) (ha : a < S.1.1) (hb : b < S.1.1) (hx : x ≤ 40) : ∃ G1, Ev X 124 [.ref 0, .int (nI a), .int (nI b), .int (nI x)] G (some (.int (nI (swpG S x a b)))) G1 ∧ CSt S G1 ∧ ∀ o, 58 ≤ o → G1 o = G o := by
  suffices h : WPm X 124 [.ref 0, .int (nI a), .int (nI b), .int (nI x)] G (fun v G1 => v = some (.int (nI (swpG S x a b))) ∧ CSt S G1 ∧ ∀ o, 58 ≤ o → G1 o = G o) by
    obtain ⟨v, G1, h1, rfl, h2⟩ := WPm_ev h
    exact ⟨G1, h1, h2⟩
  have hE := h.1
  unfold TWE at hE
  have hv8 := h.2.1.1.1
  have hb1 := tb1
  have hb23 := tb23
  have ha8 : a < 8 := by omega
  have hb8 : b < 8 := by omega
  show WP X 124 (am_blk 124 0) [some (.ref 0), some (.int (nI a)), some (.int (nI b)), some (.int (nI x))] [] G _
  obtain ⟨G1, hC, hc1, hf1⟩ := CS_become (X := X) h
  have g1 := hc1.1.1.2.2.2.2.2.1 a ha
  have g2 := hc1.1.1.2.2.2.2.2.1 b hb
  have p1 := h.2.1.2.1 a ha
  have p2 := h.2.1.2.1 b hb
  have hT1 : TE (gset G1 26 (upd (G1 26) a (eP (S.1.2.1 2 b)))) 23 S.1.1 (updT S.1.2.1 2 a (S.1.2.1 2 b)) S.1.2.2.1 S.1.2.2.2 := TE_set (i := a) (k := 1) (x := S.1.2.1 2 b) hc1.2.1 (by omega)
  have g3 : gset G1 26 (upd (G1 26) a (eP (S.1.2.1 2 b))) 4 a = eP (S.1.2.1 2 a) := by rw [gset_ne (by omega)]; exact g1
  have hf2 : ∀ o, ¬ (23 ≤ o ∧ o ≤ 33) → gset G1 26 (upd (G1 26) a (eP (S.1.2.1 2 b))) o = G1 o := fun o ho => gset_ne (by omega)
  have v1 : TV S.1.1 (updT S.1.2.1 2 a (S.1.2.1 2 b)) := TV_set (k := 1) h.2.1.1 ha (fun e => by omega) (fun _ => by omega) (fun e => by omega) (fun e => by omega) (fun e => by omega) (by omega)
  generalize hG2 : gset G1 26 (upd (G1 26) a (eP (S.1.2.1 2 b))) = G2 at *
  have hT2 : TE (gset G2 26 (upd (G2 26) b (eP (S.1.2.1 2 a)))) 23 S.1.1 (swpT S.1.2.1 a b) S.1.2.2.1 S.1.2.2.2 := TE_set (i := b) (k := 1) (x := S.1.2.1 2 a) hT1 (by omega)
  have v2 : TV S.1.1 (swpT S.1.2.1 a b) := TV_set (k := 1) v1 hb (fun e => by omega) (fun _ => by omega) (fun e => by omega) (fun e => by omega) (fun e => by omega) (by omega)
  have hf3 : ∀ o, ¬ (23 ≤ o ∧ o ≤ 33) → gset G2 26 (upd (G2 26) b (eP (S.1.2.1 2 a))) o = G1 o := fun o ho => by rw [gset_ne (by omega)]; exact hf2 o ho
  generalize hG3 : gset G2 26 (upd (G2 26) b (eP (S.1.2.1 2 a))) = G3 at *
  have hr3 : TRS S (S.1.1, swpT S.1.2.1 a b, S.1.2.2) G3 := ⟨CSt_congr hc1.1 (fun o ho => hf3 o (by unfold cdep at ho; omega)), hT2, v2, h.2.1.2.2⟩
  obtain ⟨G4, hD, hr4, hf4, _⟩ := CS_tpass (X := X) hr3 x (by omega)
  have hS := fun (k : Nat) (r : List Instr) (lv : LV) (st : List Value) (Q : Option Value → GG → Prop) (hl : st.length ≤ 4) => C_X3_goodsOfAll (X := X) (k := k) (st := st) (r := r) (lv := lv) (Q := Q) tb23 hr4.2.1 hr4.2.2.1 hl
  have ls : sumN (runN S.1.1 x (swpT S.1.2.1 a b) 5) S.1.1 ≤ 800000 := sumN_goods hr4.2.2.1
  have eg : nI (sumN (runN S.1.1 x (swpT S.1.2.1 a b) 5) S.1.1) = nI (swpG S x a b) := by unfold swpG; rw [Nat.min_eq_right ls]
  simp only [wPass] at hS
  rw [eP_lt (by omega)] at g1 g2 g3 hG2 hG3
  simp (config := { maxSteps := 1000000 }) (disch := first | exact am_nl_i | exact am_nl_r | exact am_nl_n | exact am_l0 | exact am_l1 | exact am_l2 | exact am_l3 | assumption | omega) only [wp_ldc, wp_sipush, wp_ldc_w, wp_lconst, wp_iadd, wp_isub, wp_imul, wp_iand, wp_ior, wp_ixor, wp_ishl, wp_ishr, wp_iushr, wp_idiv, wp_irem, wp_ineg, wp_i2b, wp_i2s, wp_i2c, wp_i2l, wp_ladd, wp_lmul, wp_lcmp, wp_dup_i, wp_dup_r, wp_dup2, wp_pop, wp_getfield, wp_putfield, wp_getstatic, wp_iaload, wp_baload, wp_aaload, wp_iastore, wp_arraylength, wp_goto, wp_fall, wp_ieq, wp_ine, wp_ilt, wp_ige, wp_igt, wp_ile, wp_ceq, wp_cne, wp_clt, wp_cge, wp_cgt, wp_cle, wp_sw, wp_ret0, wp_ret1z, wp_ret1o, wp_ret1, wp_ret2, wp_ret3, wp_ret4, wp_ret5, wp_return, wp_min, wp_max, wp_abs, am_ex, gset_eq, gset_ne, upd_eq, upd_ne, gset_gset, am_ci_1, am_ci_6, am_toList_some, am_toList_none, true_implies, false_implies, and_self, and_true, true_and, not_true_eq_false, not_false_eq_true, imp_self, implies_true, Classical.not_not, if_true, if_false, false_and, and_false, or_false, false_or, true_or, or_true, Nat.reduceAdd, Nat.reduceMul, Nat.reduceSub, Nat.reduceLT, Nat.reduceLeDiff, Nat.reduceEqDiff, Nat.reduceBneDiff, Nat.add_zero, Nat.zero_add, reduceCtorEq, wil0, wal0, wis0, wic0, wil1, wal1, wis1, wic1, wil2, wll2, wal2, wis2, was2, wls2, wic2, wil3, wis3, wic3, wic3m, wic3s, wil4, wis4, wic4, wil5, wis5, wic5, wic5m, wil6, wll6, wal6, wis6, was6, wls6, wic6, wil7, wal7, wis7, was7, wic7, wil8, wis8, wic8, wil9, wis9, wic9, wil10, wis10, wic10, am_nI_inj, am_nI_lt, am_nI_le, nI_add, pk_mul, am_nI_sub, am_add_m1, am_gfs, am_pfs, am_alds, am_asts, am_lens, tgf0, tgf1, tgf2, tgf3, tgf4, tgf5, tgf6, tgf7, tgf8, tgf9, tgf10, tgf11, tgf12, tpf7, tpf8, tpf9, tal0, tas0, tln0, tal1, tas1, tln1, tal2, tas2, tln2, tal3, tas3, tln3, tal4, tas4, tln4, tal5, tas5, tln5, tal6, tas6, tln6, tal7, tas7, tln7, tal8, tas8, tln8, tal9, tas9, tln9, bs124, am_B124_0, hC, g1, g2, hG2, g3, hG3, hD, hS, eg]
  first | exact ⟨rfl, hr4.1, fun o ho => by rw [hf4 o ho, hf3 o (by omega), hf1 o ho]⟩ | exact ⟨hr4.1, fun o ho => by rw [hf4 o ho, hf3 o (by omega), hf1 o ho]⟩
