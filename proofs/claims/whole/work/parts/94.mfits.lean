/-! ===== the model's calls: fits, kinds, odds, feed ===== -/
theorem allB_mono {f : Nat → Bool} {k : Nat} (h : allB f k = false) : ∀ d, allB f (k + d) = false
  | 0 => h
  | d + 1 => by show (allB f (k + d) && f (k + d)) = false; rw [allB_mono h d, Bool.false_and]
theorem CM_went {X : AmX} {S : SS} {G : GG} (h : MSt S G) (hv : SV S) (s i : Nat) (hs4 : s < 4) (hi : i < S.1.1) : ∃ G1, Ev X 136 [.ref 58, .int (nI s), .int (nI i)] G (some (.int (bI (allB (fun j => decide (S.2.2.2.1.2.2 s j = nM ∨ S.2.2.2.1.2.2 s j = nI (runN S.1.1 j S.1.2.1 5 i))) (S.2.2.2.1.2.1 s))))) G1 ∧ MSt S G1 ∧ ∀ o, o < 58 → G1 o = G o := by
  have hv8 := hv.1.1.1
  have hi8 : i < 8 := by omega
  have e2 : (nI 1 = nI 0) = False := eq_false (by decide)
  suffices hh : WPm X 136 [.ref 58, .int (nI s), .int (nI i)] G (fun v G1 => v = some (.int (bI (allB (fun j => decide (S.2.2.2.1.2.2 s j = nM ∨ S.2.2.2.1.2.2 s j = nI (runN S.1.1 j S.1.2.1 5 i))) (S.2.2.2.1.2.1 s)))) ∧ MSt S G1 ∧ ∀ o, o < 58 → G1 o = G o) by
    obtain ⟨v, G1, h1, rfl, h2⟩ := WPm_ev hh
    exact ⟨G1, h1, h2⟩
  show WP X 136 (am_blk 136 0) [some (.ref 58), some (.int (nI s)), some (.int (nI i)), none, none, none] [] G _
  generalize hF : (fun j => decide (S.2.2.2.1.2.2 s j = nM ∨ S.2.2.2.1.2.2 s j = nI (runN S.1.1 j S.1.2.1 5 i))) = F
  have hFj : ∀ j, F j = decide (S.2.2.2.1.2.2 s j = nM ∨ S.2.2.2.1.2.2 s j = nI (runN S.1.1 j S.1.2.1 5 i)) := fun j => by rw [← hF]
  have hsz := (hv.2.2.1 s hs4).2
  generalize hm' : S.2.2.2.1.2.1 s = m at *
  generalize hQ : (fun (v : Option Value) (G1 : GG) => v = some (.int (bI (allB F m))) ∧ MSt S G1 ∧ ∀ o, o < 58 → G1 o = G o) = Q
  have hend : ∀ (k : Nat) (G' : GG) (tv : Int32) (v5 : Option Value), MTS S S.1.1 (runN S.1.1 k S.1.2.1) tv S.1.2.2.2 8 G' → (∀ o, o < 58 → G' o = G o) → allB F k = allB F m → WP X 136 (am_blk 136 (Int.toNat 78)) [some (.ref 58), some (.int (nI s)), some (.int (nI i)), some (.int (bI (allB F k))), some (.int (nI k)), v5] [] G' Q := by
    intro k G' tv v5 hc hf he
    obtain ⟨G3, hP, hc3, hf3⟩ := CM_back (X := X) hc hv
    rw [he]
    simp (config := { maxSteps := 1000000 }) (disch := first | exact am_nl_i | exact am_nl_r | exact am_nl_n | exact am_l0 | exact am_l1 | exact am_l2 | exact am_l3 | assumption | omega) only [wp_ldc, wp_sipush, wp_ldc_w, wp_lconst, wp_iadd, wp_isub, wp_imul, wp_iand, wp_ior, wp_ixor, wp_ishl, wp_ishr, wp_iushr, wp_idiv, wp_irem, wp_ineg, wp_i2b, wp_i2s, wp_i2c, wp_i2l, wp_ladd, wp_lmul, wp_lcmp, wp_dup_i, wp_dup_r, wp_dup2, wp_pop, wp_getfield, wp_putfield, wp_getstatic, wp_iaload, wp_baload, wp_aaload, wp_iastore, wp_arraylength, wp_goto, wp_fall, wp_ieq, wp_ine, wp_ilt, wp_ige, wp_igt, wp_ile, wp_ceq, wp_cne, wp_clt, wp_cge, wp_cgt, wp_cle, wp_sw, wp_ret0, wp_ret1z, wp_ret1o, wp_ret1, wp_ret2, wp_ret3, wp_ret4, wp_ret5, wp_return, wp_min, wp_max, wp_abs, am_ex, gset_eq, gset_ne, upd_eq, upd_ne, gset_gset, am_ci_1, am_ci_6, am_toList_some, am_toList_none, true_implies, false_implies, and_self, and_true, true_and, not_true_eq_false, not_false_eq_true, imp_self, implies_true, Classical.not_not, if_true, if_false, false_and, and_false, or_false, false_or, true_or, or_true, Nat.reduceAdd, Nat.reduceMul, Nat.reduceSub, Nat.reduceLT, Nat.reduceLeDiff, Nat.reduceEqDiff, Nat.reduceBneDiff, Nat.add_zero, Nat.zero_add, reduceCtorEq, wil0, wal0, wis0, wic0, wil1, wal1, wis1, wic1, wil2, wll2, wal2, wis2, was2, wls2, wic2, wil3, wis3, wic3, wic3m, wic3s, wil4, wis4, wic4, wil5, wis5, wic5, wic5m, wil6, wll6, wal6, wis6, was6, wls6, wic6, wil7, wal7, wis7, was7, wic7, wil8, wis8, wic8, wil9, wis9, wic9, wil10, wis10, wic10, am_nI_inj, am_nI_lt, am_nI_le, nI_add, pk_mul, am_nI_sub, am_add_m1, am_gfs, am_pfs, am_alds, am_asts, am_lens, bk136_78, am_B136_78, hP, wp_ret1b]
    rw [← hQ]
    exact ⟨rfl, hc3, fun o ho => (hf3 o ho).trans (hf o ho)⟩
  have key : ∀ d k : Nat, k + d = m → ∀ (G' : GG) (tv : Int32) (v5 : Option Value), MTS S S.1.1 (runN S.1.1 k S.1.2.1) tv S.1.2.2.2 8 G' → (∀ o, o < 58 → G' o = G o) → WP X 136 (am_blk 136 16) [some (.ref 58), some (.int (nI s)), some (.int (nI i)), some (.int (bI (allB F k))), some (.int (nI k)), v5] [] G' Q := by
    intro d
    induction d with
    | zero =>
      intro k hk G' tv v5 hc hf
      obtain rfl : k = m := by omega
      have c1 : G' 68 s = nI k := by rw [(hc.2.2.2.2.1 s hs4).2.1, hm']
      have hen := hend k G' tv v5 hc hf rfl
      rw [bh136_16]
      simp (config := { maxSteps := 1000000 }) (disch := first | exact am_nl_i | exact am_nl_r | exact am_nl_n | exact am_l0 | exact am_l1 | exact am_l2 | exact am_l3 | assumption | omega) only [wp_ldc, wp_sipush, wp_ldc_w, wp_lconst, wp_iadd, wp_isub, wp_imul, wp_iand, wp_ior, wp_ixor, wp_ishl, wp_ishr, wp_iushr, wp_idiv, wp_irem, wp_ineg, wp_i2b, wp_i2s, wp_i2c, wp_i2l, wp_ladd, wp_lmul, wp_lcmp, wp_dup_i, wp_dup_r, wp_dup2, wp_pop, wp_getfield, wp_putfield, wp_getstatic, wp_iaload, wp_baload, wp_aaload, wp_iastore, wp_arraylength, wp_goto, wp_fall, wp_ieq, wp_ine, wp_ilt, wp_ige, wp_igt, wp_ile, wp_ceq, wp_cne, wp_clt, wp_cge, wp_cgt, wp_cle, wp_sw, wp_ret0, wp_ret1z, wp_ret1o, wp_ret1, wp_ret2, wp_ret3, wp_ret4, wp_ret5, wp_return, wp_min, wp_max, wp_abs, am_ex, gset_eq, gset_ne, upd_eq, upd_ne, gset_gset, am_ci_1, am_ci_6, am_toList_some, am_toList_none, true_implies, false_implies, and_self, and_true, true_and, not_true_eq_false, not_false_eq_true, imp_self, implies_true, Classical.not_not, if_true, if_false, false_and, and_false, or_false, false_or, true_or, or_true, Nat.reduceAdd, Nat.reduceMul, Nat.reduceSub, Nat.reduceLT, Nat.reduceLeDiff, Nat.reduceEqDiff, Nat.reduceBneDiff, Nat.add_zero, Nat.zero_add, reduceCtorEq, wil0, wal0, wis0, wic0, wil1, wal1, wis1, wic1, wil2, wll2, wal2, wis2, was2, wls2, wic2, wil3, wis3, wic3, wic3m, wic3s, wil4, wis4, wic4, wil5, wis5, wic5, wic5m, wil6, wll6, wal6, wis6, was6, wls6, wic6, wil7, wal7, wis7, was7, wic7, wil8, wis8, wic8, wil9, wis9, wic9, wil10, wis10, wic10, am_nI_inj, am_nI_lt, am_nI_le, nI_add, pk_mul, am_nI_sub, am_add_m1, am_gfs, am_pfs, am_alds, am_asts, am_lens, am_B136_16, c1, Nat.le_refl]
      exact hen
    | succ d ih =>
      intro k hk G' tv v5 hc hf
      have q1 : (m ≤ k) = False := eq_false (by omega)
      have hk40 : k < 40 := by omega
      have hk160 : 40 * s + k < 160 := by omega
      have c1 : G' 68 s = nI m := by rw [(hc.2.2.2.2.1 s hs4).2.1, hm']
      have c2 := (hc.2.2.2.2.1 s hs4).2.2 k hk40
      have c3 := hc.1.1.2.2.2.2.2.2.2.2.2 i hi
      rw [bh136_16]
      cases hx : allB F k
      · have hen := hend k G' tv v5 hc hf (by
          have := allB_mono hx (m - k)
          rw [show k + (m - k) = m by omega] at this
          rw [hx, this])
        rw [hx] at hen
        simp (config := { maxSteps := 1000000 }) (disch := first | exact am_nl_i | exact am_nl_r | exact am_nl_n | exact am_l0 | exact am_l1 | exact am_l2 | exact am_l3 | assumption | omega) only [wp_ldc, wp_sipush, wp_ldc_w, wp_lconst, wp_iadd, wp_isub, wp_imul, wp_iand, wp_ior, wp_ixor, wp_ishl, wp_ishr, wp_iushr, wp_idiv, wp_irem, wp_ineg, wp_i2b, wp_i2s, wp_i2c, wp_i2l, wp_ladd, wp_lmul, wp_lcmp, wp_dup_i, wp_dup_r, wp_dup2, wp_pop, wp_getfield, wp_putfield, wp_getstatic, wp_iaload, wp_baload, wp_aaload, wp_iastore, wp_arraylength, wp_goto, wp_fall, wp_ieq, wp_ine, wp_ilt, wp_ige, wp_igt, wp_ile, wp_ceq, wp_cne, wp_clt, wp_cge, wp_cgt, wp_cle, wp_sw, wp_ret0, wp_ret1z, wp_ret1o, wp_ret1, wp_ret2, wp_ret3, wp_ret4, wp_ret5, wp_return, wp_min, wp_max, wp_abs, am_ex, gset_eq, gset_ne, upd_eq, upd_ne, gset_gset, am_ci_1, am_ci_6, am_toList_some, am_toList_none, true_implies, false_implies, and_self, and_true, true_and, not_true_eq_false, not_false_eq_true, imp_self, implies_true, Classical.not_not, if_true, if_false, false_and, and_false, or_false, false_or, true_or, or_true, Nat.reduceAdd, Nat.reduceMul, Nat.reduceSub, Nat.reduceLT, Nat.reduceLeDiff, Nat.reduceEqDiff, Nat.reduceBneDiff, Nat.add_zero, Nat.zero_add, reduceCtorEq, wil0, wal0, wis0, wic0, wil1, wal1, wis1, wic1, wil2, wll2, wal2, wis2, was2, wls2, wic2, wil3, wis3, wic3, wic3m, wic3s, wil4, wis4, wic4, wil5, wis5, wic5, wic5m, wil6, wll6, wal6, wis6, was6, wls6, wic6, wil7, wal7, wis7, was7, wic7, wil8, wis8, wic8, wil9, wis9, wic9, wil10, wis10, wic10, am_nI_inj, am_nI_lt, am_nI_le, nI_add, pk_mul, am_nI_sub, am_add_m1, am_gfs, am_pfs, am_alds, am_asts, am_lens, am_B136_16, c1, q1, bI_f]
        rw [bI_f] at hen
        exact hen
      · obtain ⟨G3, hE3, hc3, hf3⟩ := CM_goes (X := X) hc
        rw [← runN_s] at hc3
        have ihk := fun v5 => ih (k + 1) (by omega) G3 _ v5 hc3 (fun o ho => (hf3 o ho).trans (hf o ho))
        have es : allB F (k + 1) = (allB F k && F k) := rfl
        rw [es, hx, Bool.true_and, hFj] at ihk
        by_cases hm1 : S.2.2.2.1.2.2 s k = nM
        · have q3 := eq_true hm1
          rw [decide_eq_true (Or.inl hm1), bI_t] at ihk
          simp (config := { maxSteps := 1000000 }) (disch := first | exact am_nl_i | exact am_nl_r | exact am_nl_n | exact am_l0 | exact am_l1 | exact am_l2 | exact am_l3 | assumption | omega) only [wp_ldc, wp_sipush, wp_ldc_w, wp_lconst, wp_iadd, wp_isub, wp_imul, wp_iand, wp_ior, wp_ixor, wp_ishl, wp_ishr, wp_iushr, wp_idiv, wp_irem, wp_ineg, wp_i2b, wp_i2s, wp_i2c, wp_i2l, wp_ladd, wp_lmul, wp_lcmp, wp_dup_i, wp_dup_r, wp_dup2, wp_pop, wp_getfield, wp_putfield, wp_getstatic, wp_iaload, wp_baload, wp_aaload, wp_iastore, wp_arraylength, wp_goto, wp_fall, wp_ieq, wp_ine, wp_ilt, wp_ige, wp_igt, wp_ile, wp_ceq, wp_cne, wp_clt, wp_cge, wp_cgt, wp_cle, wp_sw, wp_ret0, wp_ret1z, wp_ret1o, wp_ret1, wp_ret2, wp_ret3, wp_ret4, wp_ret5, wp_return, wp_min, wp_max, wp_abs, am_ex, gset_eq, gset_ne, upd_eq, upd_ne, gset_gset, am_ci_1, am_ci_6, am_toList_some, am_toList_none, true_implies, false_implies, and_self, and_true, true_and, not_true_eq_false, not_false_eq_true, imp_self, implies_true, Classical.not_not, if_true, if_false, false_and, and_false, or_false, false_or, true_or, or_true, Nat.reduceAdd, Nat.reduceMul, Nat.reduceSub, Nat.reduceLT, Nat.reduceLeDiff, Nat.reduceEqDiff, Nat.reduceBneDiff, Nat.add_zero, Nat.zero_add, reduceCtorEq, wil0, wal0, wis0, wic0, wil1, wal1, wis1, wic1, wil2, wll2, wal2, wis2, was2, wls2, wic2, wil3, wis3, wic3, wic3m, wic3s, wil4, wis4, wic4, wil5, wis5, wic5, wic5m, wil6, wll6, wal6, wis6, was6, wls6, wic6, wil7, wal7, wis7, was7, wic7, wil8, wis8, wic8, wil9, wis9, wic9, wil10, wis10, wic10, am_nI_inj, am_nI_lt, am_nI_le, nI_add, pk_mul, am_nI_sub, am_add_m1, am_gfs, am_pfs, am_alds, am_asts, am_lens, bk136_62, bk136_66, bk136_67, am_B136_16, am_B136_62, am_B136_66, am_B136_67, bn136_16, c1, q1, bI_t, e2, c2, fcs, q3, hE3]
          exact ihk _
        · have q3 := eq_false hm1
          by_cases hm2 : S.2.2.2.1.2.2 s k = nI (runN S.1.1 k S.1.2.1 5 i)
          · have q4 := eq_true hm2
            rw [decide_eq_true (Or.inr hm2), bI_t] at ihk
            simp (config := { maxSteps := 1000000 }) (disch := first | exact am_nl_i | exact am_nl_r | exact am_nl_n | exact am_l0 | exact am_l1 | exact am_l2 | exact am_l3 | assumption | omega) only [wp_ldc, wp_sipush, wp_ldc_w, wp_lconst, wp_iadd, wp_isub, wp_imul, wp_iand, wp_ior, wp_ixor, wp_ishl, wp_ishr, wp_iushr, wp_idiv, wp_irem, wp_ineg, wp_i2b, wp_i2s, wp_i2c, wp_i2l, wp_ladd, wp_lmul, wp_lcmp, wp_dup_i, wp_dup_r, wp_dup2, wp_pop, wp_getfield, wp_putfield, wp_getstatic, wp_iaload, wp_baload, wp_aaload, wp_iastore, wp_arraylength, wp_goto, wp_fall, wp_ieq, wp_ine, wp_ilt, wp_ige, wp_igt, wp_ile, wp_ceq, wp_cne, wp_clt, wp_cge, wp_cgt, wp_cle, wp_sw, wp_ret0, wp_ret1z, wp_ret1o, wp_ret1, wp_ret2, wp_ret3, wp_ret4, wp_ret5, wp_return, wp_min, wp_max, wp_abs, am_ex, gset_eq, gset_ne, upd_eq, upd_ne, gset_gset, am_ci_1, am_ci_6, am_toList_some, am_toList_none, true_implies, false_implies, and_self, and_true, true_and, not_true_eq_false, not_false_eq_true, imp_self, implies_true, Classical.not_not, if_true, if_false, false_and, and_false, or_false, false_or, true_or, or_true, Nat.reduceAdd, Nat.reduceMul, Nat.reduceSub, Nat.reduceLT, Nat.reduceLeDiff, Nat.reduceEqDiff, Nat.reduceBneDiff, Nat.add_zero, Nat.zero_add, reduceCtorEq, wil0, wal0, wis0, wic0, wil1, wal1, wis1, wic1, wil2, wll2, wal2, wis2, was2, wls2, wic2, wil3, wis3, wic3, wic3m, wic3s, wil4, wis4, wic4, wil5, wis5, wic5, wic5m, wil6, wll6, wal6, wis6, was6, wls6, wic6, wil7, wal7, wis7, was7, wic7, wil8, wis8, wic8, wil9, wis9, wic9, wil10, wis10, wic10, am_nI_inj, am_nI_lt, am_nI_le, nI_add, pk_mul, am_nI_sub, am_add_m1, am_gfs, am_pfs, am_alds, am_asts, am_lens, bk136_62, bk136_66, bk136_67, am_B136_16, am_B136_62, am_B136_66, am_B136_67, bn136_16, c1, q1, bI_t, e2, c2, fcs, q3, C_X5_personIs, c3, q4, hE3]
            exact ihk _
          · have q4 := eq_false hm2
            rw [decide_eq_false (fun z => z.elim hm1 hm2), bI_f] at ihk
            simp (config := { maxSteps := 1000000 }) (disch := first | exact am_nl_i | exact am_nl_r | exact am_nl_n | exact am_l0 | exact am_l1 | exact am_l2 | exact am_l3 | assumption | omega) only [wp_ldc, wp_sipush, wp_ldc_w, wp_lconst, wp_iadd, wp_isub, wp_imul, wp_iand, wp_ior, wp_ixor, wp_ishl, wp_ishr, wp_iushr, wp_idiv, wp_irem, wp_ineg, wp_i2b, wp_i2s, wp_i2c, wp_i2l, wp_ladd, wp_lmul, wp_lcmp, wp_dup_i, wp_dup_r, wp_dup2, wp_pop, wp_getfield, wp_putfield, wp_getstatic, wp_iaload, wp_baload, wp_aaload, wp_iastore, wp_arraylength, wp_goto, wp_fall, wp_ieq, wp_ine, wp_ilt, wp_ige, wp_igt, wp_ile, wp_ceq, wp_cne, wp_clt, wp_cge, wp_cgt, wp_cle, wp_sw, wp_ret0, wp_ret1z, wp_ret1o, wp_ret1, wp_ret2, wp_ret3, wp_ret4, wp_ret5, wp_return, wp_min, wp_max, wp_abs, am_ex, gset_eq, gset_ne, upd_eq, upd_ne, gset_gset, am_ci_1, am_ci_6, am_toList_some, am_toList_none, true_implies, false_implies, and_self, and_true, true_and, not_true_eq_false, not_false_eq_true, imp_self, implies_true, Classical.not_not, if_true, if_false, false_and, and_false, or_false, false_or, true_or, or_true, Nat.reduceAdd, Nat.reduceMul, Nat.reduceSub, Nat.reduceLT, Nat.reduceLeDiff, Nat.reduceEqDiff, Nat.reduceBneDiff, Nat.add_zero, Nat.zero_add, reduceCtorEq, wil0, wal0, wis0, wic0, wil1, wal1, wis1, wic1, wil2, wll2, wal2, wis2, was2, wls2, wic2, wil3, wis3, wic3, wic3m, wic3s, wil4, wis4, wic4, wil5, wis5, wic5, wic5m, wil6, wll6, wal6, wis6, was6, wls6, wic6, wil7, wal7, wis7, was7, wic7, wil8, wis8, wic8, wil9, wis9, wic9, wil10, wis10, wic10, am_nI_inj, am_nI_lt, am_nI_le, nI_add, pk_mul, am_nI_sub, am_add_m1, am_gfs, am_pfs, am_alds, am_asts, am_lens, bk136_62, bk136_66, bk136_67, am_B136_16, am_B136_62, am_B136_66, am_B136_67, bn136_16, c1, q1, bI_t, e2, c2, fcs, q3, C_X5_personIs, c3, q4, hE3]
            exact ihk _
  obtain ⟨G1, hC, hc1, hf1⟩ := CM_copy (X := X) h hv
  have k0 := key m 0 (by omega) G1 _ none hc1 hf1
  have e0 : bI (allB F 0) = nI 1 := rfl
  rw [e0] at k0
  simp (config := { maxSteps := 1000000 }) (disch := first | exact am_nl_i | exact am_nl_r | exact am_nl_n | exact am_l0 | exact am_l1 | exact am_l2 | exact am_l3 | assumption | omega) only [wp_ldc, wp_sipush, wp_ldc_w, wp_lconst, wp_iadd, wp_isub, wp_imul, wp_iand, wp_ior, wp_ixor, wp_ishl, wp_ishr, wp_iushr, wp_idiv, wp_irem, wp_ineg, wp_i2b, wp_i2s, wp_i2c, wp_i2l, wp_ladd, wp_lmul, wp_lcmp, wp_dup_i, wp_dup_r, wp_dup2, wp_pop, wp_getfield, wp_putfield, wp_getstatic, wp_iaload, wp_baload, wp_aaload, wp_iastore, wp_arraylength, wp_goto, wp_fall, wp_ieq, wp_ine, wp_ilt, wp_ige, wp_igt, wp_ile, wp_ceq, wp_cne, wp_clt, wp_cge, wp_cgt, wp_cle, wp_sw, wp_ret0, wp_ret1z, wp_ret1o, wp_ret1, wp_ret2, wp_ret3, wp_ret4, wp_ret5, wp_return, wp_min, wp_max, wp_abs, am_ex, gset_eq, gset_ne, upd_eq, upd_ne, gset_gset, am_ci_1, am_ci_6, am_toList_some, am_toList_none, true_implies, false_implies, and_self, and_true, true_and, not_true_eq_false, not_false_eq_true, imp_self, implies_true, Classical.not_not, if_true, if_false, false_and, and_false, or_false, false_or, true_or, or_true, Nat.reduceAdd, Nat.reduceMul, Nat.reduceSub, Nat.reduceLT, Nat.reduceLeDiff, Nat.reduceEqDiff, Nat.reduceBneDiff, Nat.add_zero, Nat.zero_add, reduceCtorEq, wil0, wal0, wis0, wic0, wil1, wal1, wis1, wic1, wil2, wll2, wal2, wis2, was2, wls2, wic2, wil3, wis3, wic3, wic3m, wic3s, wil4, wis4, wic4, wil5, wis5, wic5, wic5m, wil6, wll6, wal6, wis6, was6, wls6, wic6, wil7, wal7, wis7, was7, wic7, wil8, wis8, wic8, wil9, wis9, wic9, wil10, wis10, wic10, am_nI_inj, am_nI_lt, am_nI_le, nI_add, pk_mul, am_nI_sub, am_add_m1, am_gfs, am_pfs, am_alds, am_asts, am_lens, bk136_0, am_B136_0, bn136_16, hC]
  exact k0
theorem CM_fitting {X : AmX} {S : SS} {G : GG} (h : MSt S G) (hv : SV S) (s i fd many : Nat) (hs4 : s < 4) (hi : i < S.1.1) (hfd : fd < 2) (hmany : many ≤ 8) (hmay : ∀ v, v < many → mayB S.1.1 i fd (nI v) = true) : ∃ G1, Ev X 135 [.ref 58, .int (nI s), .int (nI i), .int (nI fd), .int (nI many)] G (some (.int (nI (setN (fun v => fitB S s i fd v) many)))) G1 ∧ MSt S G1 ∧ ∀ o, o < 58 → G1 o = G o := by
  have hv8 := hv.1.1.1
  have hi8 : i < 8 := by omega
  have hfd5 : fd < 5 := by omega
  have hi61 : 21 + 5 * i + fd < 61 := by omega
  have e2 : (nI 1 = nI 0) = False := eq_false (by decide)
  have hold := ME_old h.1 hv hi hfd5
  suffices hh : WPm X 135 [.ref 58, .int (nI s), .int (nI i), .int (nI fd), .int (nI many)] G (fun v G1 => v = some (.int (nI (setN (fun v => fitB S s i fd v) many))) ∧ MSt S G1 ∧ ∀ o, o < 58 → G1 o = G o) by
    obtain ⟨v, G1, h1, rfl, h2⟩ := WPm_ev hh
    exact ⟨G1, h1, h2⟩
  show WP X 135 (am_blk 135 0) [some (.ref 58), some (.int (nI s)), some (.int (nI i)), some (.int (nI fd)), some (.int (nI many)), none, none, none] [] G _
  generalize hQ : (fun (v : Option Value) (G1 : GG) => v = some (.int (nI (setN (fun v => fitB S s i fd v) many))) ∧ MSt S G1 ∧ ∀ o, o < 58 → G1 o = G o) = Q
  have key : ∀ d v : Nat, v + d = many → ∀ (G' : GG) (y0 : Nat), MSt (sTown S (S.1.1, updT S.1.2.1 (fd + 1) i y0, S.1.2.2)) G' → (∀ o, o < 58 → G' o = G o) → WP X 135 (am_blk 135 14) [some (.ref 58), some (.int (nI s)), some (.int (nI i)), some (.int (nI fd)), some (.int (nI many)), some (.int (eK fd (S.1.2.1 (fd + 1) i))), some (.int (nI (setN (fun v => fitB S s i fd v) v))), some (.int (nI v))] [] G' Q := by
    intro d
    induction d with
    | zero =>
      intro v hv' G' y0 hc hf
      obtain rfl : v = many := by omega
      have hT := MSt_set2 (y := S.1.2.1 (fd + 1) i) (v := eK fd (S.1.2.1 (fd + 1) i)) hc hv8 hi hfd5 (fun _ => rfl) (fun e hy => by rw [e] at hy ⊢; exact eP_lt (by omega))
      rw [sTown_self] at hT
      rw [bh135_14]
      simp (config := { maxSteps := 1000000 }) (disch := first | exact am_nl_i | exact am_nl_r | exact am_nl_n | exact am_l0 | exact am_l1 | exact am_l2 | exact am_l3 | assumption | omega) only [wp_ldc, wp_sipush, wp_ldc_w, wp_lconst, wp_iadd, wp_isub, wp_imul, wp_iand, wp_ior, wp_ixor, wp_ishl, wp_ishr, wp_iushr, wp_idiv, wp_irem, wp_ineg, wp_i2b, wp_i2s, wp_i2c, wp_i2l, wp_ladd, wp_lmul, wp_lcmp, wp_dup_i, wp_dup_r, wp_dup2, wp_pop, wp_getfield, wp_putfield, wp_getstatic, wp_iaload, wp_baload, wp_aaload, wp_iastore, wp_arraylength, wp_goto, wp_fall, wp_ieq, wp_ine, wp_ilt, wp_ige, wp_igt, wp_ile, wp_ceq, wp_cne, wp_clt, wp_cge, wp_cgt, wp_cle, wp_sw, wp_ret0, wp_ret1z, wp_ret1o, wp_ret1, wp_ret2, wp_ret3, wp_ret4, wp_ret5, wp_return, wp_min, wp_max, wp_abs, am_ex, gset_eq, gset_ne, upd_eq, upd_ne, gset_gset, am_ci_1, am_ci_6, am_toList_some, am_toList_none, true_implies, false_implies, and_self, and_true, true_and, not_true_eq_false, not_false_eq_true, imp_self, implies_true, Classical.not_not, if_true, if_false, false_and, and_false, or_false, false_or, true_or, or_true, Nat.reduceAdd, Nat.reduceMul, Nat.reduceSub, Nat.reduceLT, Nat.reduceLeDiff, Nat.reduceEqDiff, Nat.reduceBneDiff, Nat.add_zero, Nat.zero_add, reduceCtorEq, wil0, wal0, wis0, wic0, wil1, wal1, wis1, wic1, wil2, wll2, wal2, wis2, was2, wls2, wic2, wil3, wis3, wic3, wic3m, wic3s, wil4, wis4, wic4, wil5, wis5, wic5, wic5m, wil6, wll6, wal6, wis6, was6, wls6, wic6, wil7, wal7, wis7, was7, wic7, wil8, wis8, wic8, wil9, wis9, wic9, wil10, wis10, wic10, am_nI_inj, am_nI_lt, am_nI_le, nI_add, pk_mul, am_nI_sub, am_add_m1, am_gfs, am_pfs, am_alds, am_asts, am_lens, bk135_61, am_B135_14, am_B135_61, Nat.le_refl, C_X5_at]
      rw [← hQ]
      exact ⟨rfl, hT, fun o ho => by rw [gset_ne (by omega)]; exact hf o ho⟩
    | succ d ih =>
      intro v hv' G' y0 hc hf
      have q1 : (many ≤ v) = False := eq_false (by omega)
      have hv8' : v < 8 := by omega
      obtain ⟨y, hy, hpk, c0, c1, c2, c3, c4⟩ := may_x hv8 hi hfd5 (hmay v (by omega))
      have hyv : y = v := by
        rw [← hpk]
        unfold pK
        rw [if_neg (fun z => (nM_ne (j := v) (by omega)).mp z), aN_nI (by omega)]
      subst hyv
      have hT := MSt_set2 (y := y) (v := nI y) hc hv8 hi hfd5 (fun _ => hy) (fun e hy8 => rfl)
      have hvT := SV_fr (w := (S.1.1, updT S.1.2.1 (fd + 1) i y, S.1.2.2)) hv (TWV_set hv.1 hi c0 c1 c2 c3 c4 hfd5)
      obtain ⟨G3, hev, hc3, hf3⟩ := CM_went (X := X) hT hvT s i hs4 hi
      have hev : Ev X 136 [.ref 58, .int (nI s), .int (nI i)] (gset G' 59 (upd (G' 59) (21 + 5 * i + fd) (nI y))) (some (.int (bI (fitB S s i fd y)))) G3 := hev
      have ihk := ih (y + 1) (by omega) G3 y hc3 (fun o ho => by rw [hf3 o ho, gset_ne (by omega)]; exact hf o ho)
      rw [← setN_or (f := fun v => fitB S s i fd v) (i := y) (by omega)] at ihk
      rw [bh135_14]
      cases hfb : fitB S s i fd y
      · rw [hfb] at hev
        rw [if_neg (by rw [hfb]; exact Bool.false_ne_true)] at ihk
        have hD := fun (k : Nat) (r : List Instr) (lv : LV) (st : List Value) (Q : Option Value → GG → Prop) (hl : st.length ≤ 4) => WP_ev (k := k) (st := .int (nI i) :: .int (nI s) :: .ref 58 :: st) (rest := st) (r := r) (lv := lv) (Q := Q) hev (by decide) (c := 3) rfl rfl hl rfl
        simp (config := { maxSteps := 1000000 }) (disch := first | exact am_nl_i | exact am_nl_r | exact am_nl_n | exact am_l0 | exact am_l1 | exact am_l2 | exact am_l3 | assumption | omega) only [wp_ldc, wp_sipush, wp_ldc_w, wp_lconst, wp_iadd, wp_isub, wp_imul, wp_iand, wp_ior, wp_ixor, wp_ishl, wp_ishr, wp_iushr, wp_idiv, wp_irem, wp_ineg, wp_i2b, wp_i2s, wp_i2c, wp_i2l, wp_ladd, wp_lmul, wp_lcmp, wp_dup_i, wp_dup_r, wp_dup2, wp_pop, wp_getfield, wp_putfield, wp_getstatic, wp_iaload, wp_baload, wp_aaload, wp_iastore, wp_arraylength, wp_goto, wp_fall, wp_ieq, wp_ine, wp_ilt, wp_ige, wp_igt, wp_ile, wp_ceq, wp_cne, wp_clt, wp_cge, wp_cgt, wp_cle, wp_sw, wp_ret0, wp_ret1z, wp_ret1o, wp_ret1, wp_ret2, wp_ret3, wp_ret4, wp_ret5, wp_return, wp_min, wp_max, wp_abs, am_ex, gset_eq, gset_ne, upd_eq, upd_ne, gset_gset, am_ci_1, am_ci_6, am_toList_some, am_toList_none, true_implies, false_implies, and_self, and_true, true_and, not_true_eq_false, not_false_eq_true, imp_self, implies_true, Classical.not_not, if_true, if_false, false_and, and_false, or_false, false_or, true_or, or_true, Nat.reduceAdd, Nat.reduceMul, Nat.reduceSub, Nat.reduceLT, Nat.reduceLeDiff, Nat.reduceEqDiff, Nat.reduceBneDiff, Nat.add_zero, Nat.zero_add, reduceCtorEq, wil0, wal0, wis0, wic0, wil1, wal1, wis1, wic1, wil2, wll2, wal2, wis2, was2, wls2, wic2, wil3, wis3, wic3, wic3m, wic3s, wil4, wis4, wic4, wil5, wis5, wic5, wic5m, wil6, wll6, wal6, wis6, was6, wls6, wic6, wil7, wal7, wis7, was7, wic7, wil8, wis8, wic8, wil9, wis9, wic9, wil10, wis10, wic10, am_nI_inj, am_nI_lt, am_nI_le, nI_add, pk_mul, am_nI_sub, am_add_m1, am_gfs, am_pfs, am_alds, am_asts, am_lens, bk135_51, bk135_52, am_B135_14, am_B135_51, am_B135_52, bn135_14, q1, C_X5_at, hD, bI_f]
        exact ihk
      · rw [hfb] at hev
        rw [if_pos hfb] at ihk
        have hD := fun (k : Nat) (r : List Instr) (lv : LV) (st : List Value) (Q : Option Value → GG → Prop) (hl : st.length ≤ 4) => WP_ev (k := k) (st := .int (nI i) :: .int (nI s) :: .ref 58 :: st) (rest := st) (r := r) (lv := lv) (Q := Q) hev (by decide) (c := 3) rfl rfl hl rfl
        simp (config := { maxSteps := 1000000 }) (disch := first | exact am_nl_i | exact am_nl_r | exact am_nl_n | exact am_l0 | exact am_l1 | exact am_l2 | exact am_l3 | assumption | omega) only [wp_ldc, wp_sipush, wp_ldc_w, wp_lconst, wp_iadd, wp_isub, wp_imul, wp_iand, wp_ior, wp_ixor, wp_ishl, wp_ishr, wp_iushr, wp_idiv, wp_irem, wp_ineg, wp_i2b, wp_i2s, wp_i2c, wp_i2l, wp_ladd, wp_lmul, wp_lcmp, wp_dup_i, wp_dup_r, wp_dup2, wp_pop, wp_getfield, wp_putfield, wp_getstatic, wp_iaload, wp_baload, wp_aaload, wp_iastore, wp_arraylength, wp_goto, wp_fall, wp_ieq, wp_ine, wp_ilt, wp_ige, wp_igt, wp_ile, wp_ceq, wp_cne, wp_clt, wp_cge, wp_cgt, wp_cle, wp_sw, wp_ret0, wp_ret1z, wp_ret1o, wp_ret1, wp_ret2, wp_ret3, wp_ret4, wp_ret5, wp_return, wp_min, wp_max, wp_abs, am_ex, gset_eq, gset_ne, upd_eq, upd_ne, gset_gset, am_ci_1, am_ci_6, am_toList_some, am_toList_none, true_implies, false_implies, and_self, and_true, true_and, not_true_eq_false, not_false_eq_true, imp_self, implies_true, Classical.not_not, if_true, if_false, false_and, and_false, or_false, false_or, true_or, or_true, Nat.reduceAdd, Nat.reduceMul, Nat.reduceSub, Nat.reduceLT, Nat.reduceLeDiff, Nat.reduceEqDiff, Nat.reduceBneDiff, Nat.add_zero, Nat.zero_add, reduceCtorEq, wil0, wal0, wis0, wic0, wil1, wal1, wis1, wic1, wil2, wll2, wal2, wis2, was2, wls2, wic2, wil3, wis3, wic3, wic3m, wic3s, wil4, wis4, wic4, wil5, wis5, wic5, wic5m, wil6, wll6, wal6, wis6, was6, wls6, wic6, wil7, wal7, wis7, was7, wic7, wil8, wis8, wic8, wil9, wis9, wic9, wil10, wis10, wic10, am_nI_inj, am_nI_lt, am_nI_le, nI_add, pk_mul, am_nI_sub, am_add_m1, am_gfs, am_pfs, am_alds, am_asts, am_lens, bk135_51, bk135_52, am_B135_14, am_B135_51, am_B135_52, bn135_14, q1, C_X5_at, hD, bI_t, e2]
        exact ihk
  have hs0 : MSt (sTown S (S.1.1, updT S.1.2.1 (fd + 1) i (S.1.2.1 (fd + 1) i), S.1.2.2)) G := by rw [sTown_self]; exact h
  have k0 := key many 0 (by omega) G _ hs0 (fun _ _ => rfl)
  have e0 : setN (fun v => fitB S s i fd v) 0 = 0 := rfl
  rw [e0] at k0
  simp (config := { maxSteps := 1000000 }) (disch := first | exact am_nl_i | exact am_nl_r | exact am_nl_n | exact am_l0 | exact am_l1 | exact am_l2 | exact am_l3 | assumption | omega) only [wp_ldc, wp_sipush, wp_ldc_w, wp_lconst, wp_iadd, wp_isub, wp_imul, wp_iand, wp_ior, wp_ixor, wp_ishl, wp_ishr, wp_iushr, wp_idiv, wp_irem, wp_ineg, wp_i2b, wp_i2s, wp_i2c, wp_i2l, wp_ladd, wp_lmul, wp_lcmp, wp_dup_i, wp_dup_r, wp_dup2, wp_pop, wp_getfield, wp_putfield, wp_getstatic, wp_iaload, wp_baload, wp_aaload, wp_iastore, wp_arraylength, wp_goto, wp_fall, wp_ieq, wp_ine, wp_ilt, wp_ige, wp_igt, wp_ile, wp_ceq, wp_cne, wp_clt, wp_cge, wp_cgt, wp_cle, wp_sw, wp_ret0, wp_ret1z, wp_ret1o, wp_ret1, wp_ret2, wp_ret3, wp_ret4, wp_ret5, wp_return, wp_min, wp_max, wp_abs, am_ex, gset_eq, gset_ne, upd_eq, upd_ne, gset_gset, am_ci_1, am_ci_6, am_toList_some, am_toList_none, true_implies, false_implies, and_self, and_true, true_and, not_true_eq_false, not_false_eq_true, imp_self, implies_true, Classical.not_not, if_true, if_false, false_and, and_false, or_false, false_or, true_or, or_true, Nat.reduceAdd, Nat.reduceMul, Nat.reduceSub, Nat.reduceLT, Nat.reduceLeDiff, Nat.reduceEqDiff, Nat.reduceBneDiff, Nat.add_zero, Nat.zero_add, reduceCtorEq, wil0, wal0, wis0, wic0, wil1, wal1, wis1, wic1, wil2, wll2, wal2, wis2, was2, wls2, wic2, wil3, wis3, wic3, wic3m, wic3s, wil4, wis4, wic4, wil5, wis5, wic5, wic5m, wil6, wll6, wal6, wis6, was6, wls6, wic6, wil7, wal7, wis7, was7, wic7, wil8, wis8, wic8, wil9, wis9, wic9, wil10, wis10, wic10, am_nI_inj, am_nI_lt, am_nI_le, nI_add, pk_mul, am_nI_sub, am_add_m1, am_gfs, am_pfs, am_alds, am_asts, am_lens, bk135_0, am_B135_0, bn135_14, C_X5_personIs, hold]
  exact k0
theorem pK_nI {v : Nat} (h : v < 9) : pK (nI v) = v := by
  unfold pK
  rw [if_neg (fun z => (nM_ne (j := v) (by omega)).mp z), aN_nI (by omega)]
theorem MT_fits {X : AmX} {S : SS} {G : GG} (h : MSt S G) (hv : SV S) (a1 a2 : Int32) : MW X 132 [.ref 58, .int a1, .int a2] G (sp_fits S a1 a2) := by
  have hE := h.1
  have f0 := hE.2.1
  have hv8 := hv.1.1.1
  have hm := MS_MR h hv
  unfold MW sp_fits
  have e2 : (nI 1 = nI 0) = False := eq_false (by decide)
  show WP X 132 (am_blk 132 0) [some (.ref 58), some (.int a1), some (.int a2)] [] G _
  unfold sp_fit
  by_cases h1 : inR a1 (nI 0) (nI 3) = true
  rotate_left
  · rw [if_neg h1]
    rw [Bool.not_eq_true] at h1
    have hL := fun (k : Nat) (r : List Instr) (lv : LV) (st : List Value) (Q : Option Value → GG → Prop) (hl : st.length ≤ 4) => C_X5_lacksO (X := X) (k := k) (st := st) (r := r) (lv := lv) (Q := Q) (G := G) (v := a1) h1 hl
    simp (config := { maxSteps := 1000000 }) (disch := first | exact am_nl_i | exact am_nl_r | exact am_nl_n | exact am_l0 | exact am_l1 | exact am_l2 | exact am_l3 | assumption | omega) only [wp_ldc, wp_sipush, wp_ldc_w, wp_lconst, wp_iadd, wp_isub, wp_imul, wp_iand, wp_ior, wp_ixor, wp_ishl, wp_ishr, wp_iushr, wp_idiv, wp_irem, wp_ineg, wp_i2b, wp_i2s, wp_i2c, wp_i2l, wp_ladd, wp_lmul, wp_lcmp, wp_dup_i, wp_dup_r, wp_dup2, wp_pop, wp_getfield, wp_putfield, wp_getstatic, wp_iaload, wp_baload, wp_aaload, wp_iastore, wp_arraylength, wp_goto, wp_fall, wp_ieq, wp_ine, wp_ilt, wp_ige, wp_igt, wp_ile, wp_ceq, wp_cne, wp_clt, wp_cge, wp_cgt, wp_cle, wp_sw, wp_ret0, wp_ret1z, wp_ret1o, wp_ret1, wp_ret2, wp_ret3, wp_ret4, wp_ret5, wp_return, wp_min, wp_max, wp_abs, am_ex, gset_eq, gset_ne, upd_eq, upd_ne, gset_gset, am_ci_1, am_ci_6, am_toList_some, am_toList_none, true_implies, false_implies, and_self, and_true, true_and, not_true_eq_false, not_false_eq_true, imp_self, implies_true, Classical.not_not, if_true, if_false, false_and, and_false, or_false, false_or, true_or, or_true, Nat.reduceAdd, Nat.reduceMul, Nat.reduceSub, Nat.reduceLT, Nat.reduceLeDiff, Nat.reduceEqDiff, Nat.reduceBneDiff, Nat.add_zero, Nat.zero_add, reduceCtorEq, wil0, wal0, wis0, wic0, wil1, wal1, wis1, wic1, wil2, wll2, wal2, wis2, was2, wls2, wic2, wil3, wis3, wic3, wic3m, wic3s, wil4, wis4, wic4, wil5, wis5, wic5, wic5m, wil6, wll6, wal6, wis6, was6, wls6, wic6, wil7, wal7, wis7, was7, wic7, wil8, wis8, wic8, wil9, wis9, wic9, wil10, wis10, wic10, am_nI_inj, am_nI_lt, am_nI_le, nI_add, pk_mul, am_nI_sub, am_add_m1, am_gfs, am_pfs, am_alds, am_asts, am_lens, bs132, am_B132_0, am_B132_18, am_B132_38, am_B132_44, hL, fc_ne, C_X5_finding]
    first | exact ⟨rfl, MSt_fnd h (by omega), mfnd_frame⟩ | exact ⟨MSt_fnd h (by omega), mfnd_frame⟩
  rw [if_pos h1]
  obtain ⟨p, hp, rfl, h1'⟩ := rng_of (by omega) h1
  rw [aN_nI (show p < 2 ^ 31 by omega)]
  have hp4 : p < 4 := by omega
  obtain ⟨w1, w2, w3, w4, w5⟩ := ms_sh h hv hp4
  have hL := fun (k : Nat) (r : List Instr) (lv : LV) (st : List Value) (Q : Option Value → GG → Prop) (hl : st.length ≤ 4) => C_X5_lacks (X := X) (k := k) (st := st) (r := r) (lv := lv) (Q := Q) (G := G) (p := p) (w := S.2.2.2.1.1 p) hp4 w1 w4 hl
  by_cases h2 : S.2.2.2.1.1 p = 0
  · rw [if_pos h2]
    rw [if_pos h2] at hL
    simp (config := { maxSteps := 1000000 }) (disch := first | exact am_nl_i | exact am_nl_r | exact am_nl_n | exact am_l0 | exact am_l1 | exact am_l2 | exact am_l3 | assumption | omega) only [wp_ldc, wp_sipush, wp_ldc_w, wp_lconst, wp_iadd, wp_isub, wp_imul, wp_iand, wp_ior, wp_ixor, wp_ishl, wp_ishr, wp_iushr, wp_idiv, wp_irem, wp_ineg, wp_i2b, wp_i2s, wp_i2c, wp_i2l, wp_ladd, wp_lmul, wp_lcmp, wp_dup_i, wp_dup_r, wp_dup2, wp_pop, wp_getfield, wp_putfield, wp_getstatic, wp_iaload, wp_baload, wp_aaload, wp_iastore, wp_arraylength, wp_goto, wp_fall, wp_ieq, wp_ine, wp_ilt, wp_ige, wp_igt, wp_ile, wp_ceq, wp_cne, wp_clt, wp_cge, wp_cgt, wp_cle, wp_sw, wp_ret0, wp_ret1z, wp_ret1o, wp_ret1, wp_ret2, wp_ret3, wp_ret4, wp_ret5, wp_return, wp_min, wp_max, wp_abs, am_ex, gset_eq, gset_ne, upd_eq, upd_ne, gset_gset, am_ci_1, am_ci_6, am_toList_some, am_toList_none, true_implies, false_implies, and_self, and_true, true_and, not_true_eq_false, not_false_eq_true, imp_self, implies_true, Classical.not_not, if_true, if_false, false_and, and_false, or_false, false_or, true_or, or_true, Nat.reduceAdd, Nat.reduceMul, Nat.reduceSub, Nat.reduceLT, Nat.reduceLeDiff, Nat.reduceEqDiff, Nat.reduceBneDiff, Nat.add_zero, Nat.zero_add, reduceCtorEq, wil0, wal0, wis0, wic0, wil1, wal1, wis1, wic1, wil2, wll2, wal2, wis2, was2, wls2, wic2, wil3, wis3, wic3, wic3m, wic3s, wil4, wis4, wic4, wil5, wis5, wic5, wic5m, wil6, wll6, wal6, wis6, was6, wls6, wic6, wil7, wal7, wis7, was7, wic7, wil8, wis8, wic8, wil9, wis9, wic9, wil10, wis10, wic10, am_nI_inj, am_nI_lt, am_nI_le, nI_add, pk_mul, am_nI_sub, am_add_m1, am_gfs, am_pfs, am_alds, am_asts, am_lens, bs132, am_B132_0, am_B132_18, am_B132_38, am_B132_44, hL, fc_ne, C_X5_finding]
    first | exact ⟨rfl, MSt_fnd h (by omega), mfnd_frame⟩ | exact ⟨MSt_fnd h (by omega), mfnd_frame⟩
  rw [if_neg h2]
  rw [if_neg h2] at hL
  by_cases h3 : inR a2 (nI 0) (nI S.1.1 - nI 1) = true
  rotate_left
  · rw [if_neg h3]
    rw [Bool.not_eq_true] at h3
    simp (config := { maxSteps := 1000000 }) (disch := first | exact am_nl_i | exact am_nl_r | exact am_nl_n | exact am_l0 | exact am_l1 | exact am_l2 | exact am_l3 | assumption | omega) only [wp_ldc, wp_sipush, wp_ldc_w, wp_lconst, wp_iadd, wp_isub, wp_imul, wp_iand, wp_ior, wp_ixor, wp_ishl, wp_ishr, wp_iushr, wp_idiv, wp_irem, wp_ineg, wp_i2b, wp_i2s, wp_i2c, wp_i2l, wp_ladd, wp_lmul, wp_lcmp, wp_dup_i, wp_dup_r, wp_dup2, wp_pop, wp_getfield, wp_putfield, wp_getstatic, wp_iaload, wp_baload, wp_aaload, wp_iastore, wp_arraylength, wp_goto, wp_fall, wp_ieq, wp_ine, wp_ilt, wp_ige, wp_igt, wp_ile, wp_ceq, wp_cne, wp_clt, wp_cge, wp_cgt, wp_cle, wp_sw, wp_ret0, wp_ret1z, wp_ret1o, wp_ret1, wp_ret2, wp_ret3, wp_ret4, wp_ret5, wp_return, wp_min, wp_max, wp_abs, am_ex, gset_eq, gset_ne, upd_eq, upd_ne, gset_gset, am_ci_1, am_ci_6, am_toList_some, am_toList_none, true_implies, false_implies, and_self, and_true, true_and, not_true_eq_false, not_false_eq_true, imp_self, implies_true, Classical.not_not, if_true, if_false, false_and, and_false, or_false, false_or, true_or, or_true, Nat.reduceAdd, Nat.reduceMul, Nat.reduceSub, Nat.reduceLT, Nat.reduceLeDiff, Nat.reduceEqDiff, Nat.reduceBneDiff, Nat.add_zero, Nat.zero_add, reduceCtorEq, wil0, wal0, wis0, wic0, wil1, wal1, wis1, wic1, wil2, wll2, wal2, wis2, was2, wls2, wic2, wil3, wis3, wic3, wic3m, wic3s, wil4, wis4, wic4, wil5, wis5, wic5, wic5m, wil6, wll6, wal6, wis6, was6, wls6, wic6, wil7, wal7, wis7, was7, wic7, wil8, wis8, wic8, wil9, wis9, wic9, wil10, wis10, wic10, am_nI_inj, am_nI_lt, am_nI_le, nI_add, pk_mul, am_nI_sub, am_add_m1, am_gfs, am_pfs, am_alds, am_asts, am_lens, bs132, am_B132_0, am_B132_18, am_B132_38, am_B132_44, hL, C_X5_isPerson, f0, h3, bI_f, fcs, C_X5_finding]
    first | exact ⟨rfl, MSt_fnd h (by omega), mfnd_frame⟩ | exact ⟨MSt_fnd h (by omega), mfnd_frame⟩
  rw [if_pos h3]
  obtain ⟨i, hi, rfl, h3'⟩ := there_of hv8 h3
  rw [aN_nI (show i < 2 ^ 31 by omega)]
  have hmy : ∀ v, v < 8 → mayB S.1.1 i 1 (nI v) = true := fun v hv => by
    show inR (nI v) (nI 0) (nI 7) = true
    rw [inR_nI (by omega) (by omega) (by omega)]
    exact decide_eq_true (by omega)
  obtain ⟨G1, hev, hc1, hf1⟩ := CM_fitting (X := X) h hv p i 1 8 hp4 hi (by omega) (by omega) hmy
  have es : setN (fun v => fitB S p i 1 v) 8 = setN (fitV S 1 p i) 8 := setN_congr 8 (fun v hv8 => by
    show fitB S p i 1 v = (mayB S.1.1 i 1 (nI v) && fitB S p i 1 (pK (nI v)))
    rw [hmy v hv8, pK_nI (by omega), Bool.true_and])
  rw [es] at hev
  have hD := fun (k : Nat) (r : List Instr) (lv : LV) (Q : Option Value → GG → Prop) => WP_ev (k := k) (st := [.int (nI 8), .int (nI 1), .int (nI i), .int (nI p), .ref 58]) (rest := []) (r := r) (lv := lv) (Q := Q) hev (by decide) (c := 5) rfl rfl (by decide) rfl
  simp (config := { maxSteps := 1000000 }) (disch := first | exact am_nl_i | exact am_nl_r | exact am_nl_n | exact am_l0 | exact am_l1 | exact am_l2 | exact am_l3 | assumption | omega) only [wp_ldc, wp_sipush, wp_ldc_w, wp_lconst, wp_iadd, wp_isub, wp_imul, wp_iand, wp_ior, wp_ixor, wp_ishl, wp_ishr, wp_iushr, wp_idiv, wp_irem, wp_ineg, wp_i2b, wp_i2s, wp_i2c, wp_i2l, wp_ladd, wp_lmul, wp_lcmp, wp_dup_i, wp_dup_r, wp_dup2, wp_pop, wp_getfield, wp_putfield, wp_getstatic, wp_iaload, wp_baload, wp_aaload, wp_iastore, wp_arraylength, wp_goto, wp_fall, wp_ieq, wp_ine, wp_ilt, wp_ige, wp_igt, wp_ile, wp_ceq, wp_cne, wp_clt, wp_cge, wp_cgt, wp_cle, wp_sw, wp_ret0, wp_ret1z, wp_ret1o, wp_ret1, wp_ret2, wp_ret3, wp_ret4, wp_ret5, wp_return, wp_min, wp_max, wp_abs, am_ex, gset_eq, gset_ne, upd_eq, upd_ne, gset_gset, am_ci_1, am_ci_6, am_toList_some, am_toList_none, true_implies, false_implies, and_self, and_true, true_and, not_true_eq_false, not_false_eq_true, imp_self, implies_true, Classical.not_not, if_true, if_false, false_and, and_false, or_false, false_or, true_or, or_true, Nat.reduceAdd, Nat.reduceMul, Nat.reduceSub, Nat.reduceLT, Nat.reduceLeDiff, Nat.reduceEqDiff, Nat.reduceBneDiff, Nat.add_zero, Nat.zero_add, reduceCtorEq, wil0, wal0, wis0, wic0, wil1, wal1, wis1, wic1, wil2, wll2, wal2, wis2, was2, wls2, wic2, wil3, wis3, wic3, wic3m, wic3s, wil4, wis4, wic4, wil5, wis5, wic5, wic5m, wil6, wll6, wal6, wis6, was6, wls6, wic6, wil7, wal7, wis7, was7, wic7, wil8, wis8, wic8, wil9, wis9, wic9, wil10, wis10, wic10, am_nI_inj, am_nI_lt, am_nI_le, nI_add, pk_mul, am_nI_sub, am_add_m1, am_gfs, am_pfs, am_alds, am_asts, am_lens, bs132, am_B132_0, am_B132_18, am_B132_38, am_B132_44, hL, C_X5_isPerson, f0, h3', bI_t, e2, hD]
  first | exact ⟨rfl, hc1, hf1⟩ | exact ⟨hc1, hf1⟩
theorem MT_kinds {X : AmX} {S : SS} {G : GG} (h : MSt S G) (hv : SV S) (a1 a2 : Int32) : MW X 138 [.ref 58, .int a1, .int a2] G (sp_kinds S a1 a2) := by
  have hE := h.1
  have f0 := hE.2.1
  have hv8 := hv.1.1.1
  have hm := MS_MR h hv
  unfold MW sp_kinds
  have e2 : (nI 1 = nI 0) = False := eq_false (by decide)
  show WP X 138 (am_blk 138 0) [some (.ref 58), some (.int a1), some (.int a2)] [] G _
  unfold sp_fit
  by_cases h1 : inR a1 (nI 0) (nI 3) = true
  rotate_left
  · rw [if_neg h1]
    rw [Bool.not_eq_true] at h1
    have hL := fun (k : Nat) (r : List Instr) (lv : LV) (st : List Value) (Q : Option Value → GG → Prop) (hl : st.length ≤ 4) => C_X5_lacksO (X := X) (k := k) (st := st) (r := r) (lv := lv) (Q := Q) (G := G) (v := a1) h1 hl
    simp (config := { maxSteps := 1000000 }) (disch := first | exact am_nl_i | exact am_nl_r | exact am_nl_n | exact am_l0 | exact am_l1 | exact am_l2 | exact am_l3 | assumption | omega) only [wp_ldc, wp_sipush, wp_ldc_w, wp_lconst, wp_iadd, wp_isub, wp_imul, wp_iand, wp_ior, wp_ixor, wp_ishl, wp_ishr, wp_iushr, wp_idiv, wp_irem, wp_ineg, wp_i2b, wp_i2s, wp_i2c, wp_i2l, wp_ladd, wp_lmul, wp_lcmp, wp_dup_i, wp_dup_r, wp_dup2, wp_pop, wp_getfield, wp_putfield, wp_getstatic, wp_iaload, wp_baload, wp_aaload, wp_iastore, wp_arraylength, wp_goto, wp_fall, wp_ieq, wp_ine, wp_ilt, wp_ige, wp_igt, wp_ile, wp_ceq, wp_cne, wp_clt, wp_cge, wp_cgt, wp_cle, wp_sw, wp_ret0, wp_ret1z, wp_ret1o, wp_ret1, wp_ret2, wp_ret3, wp_ret4, wp_ret5, wp_return, wp_min, wp_max, wp_abs, am_ex, gset_eq, gset_ne, upd_eq, upd_ne, gset_gset, am_ci_1, am_ci_6, am_toList_some, am_toList_none, true_implies, false_implies, and_self, and_true, true_and, not_true_eq_false, not_false_eq_true, imp_self, implies_true, Classical.not_not, if_true, if_false, false_and, and_false, or_false, false_or, true_or, or_true, Nat.reduceAdd, Nat.reduceMul, Nat.reduceSub, Nat.reduceLT, Nat.reduceLeDiff, Nat.reduceEqDiff, Nat.reduceBneDiff, Nat.add_zero, Nat.zero_add, reduceCtorEq, wil0, wal0, wis0, wic0, wil1, wal1, wis1, wic1, wil2, wll2, wal2, wis2, was2, wls2, wic2, wil3, wis3, wic3, wic3m, wic3s, wil4, wis4, wic4, wil5, wis5, wic5, wic5m, wil6, wll6, wal6, wis6, was6, wls6, wic6, wil7, wal7, wis7, was7, wic7, wil8, wis8, wic8, wil9, wis9, wic9, wil10, wis10, wic10, am_nI_inj, am_nI_lt, am_nI_le, nI_add, pk_mul, am_nI_sub, am_add_m1, am_gfs, am_pfs, am_alds, am_asts, am_lens, bs138, am_B138_0, am_B138_18, am_B138_38, am_B138_44, hL, fc_ne, C_X5_finding]
    first | exact ⟨rfl, MSt_fnd h (by omega), mfnd_frame⟩ | exact ⟨MSt_fnd h (by omega), mfnd_frame⟩
  rw [if_pos h1]
  obtain ⟨p, hp, rfl, h1'⟩ := rng_of (by omega) h1
  rw [aN_nI (show p < 2 ^ 31 by omega)]
  have hp4 : p < 4 := by omega
  obtain ⟨w1, w2, w3, w4, w5⟩ := ms_sh h hv hp4
  have hL := fun (k : Nat) (r : List Instr) (lv : LV) (st : List Value) (Q : Option Value → GG → Prop) (hl : st.length ≤ 4) => C_X5_lacks (X := X) (k := k) (st := st) (r := r) (lv := lv) (Q := Q) (G := G) (p := p) (w := S.2.2.2.1.1 p) hp4 w1 w4 hl
  by_cases h2 : S.2.2.2.1.1 p = 0
  · rw [if_pos h2]
    rw [if_pos h2] at hL
    simp (config := { maxSteps := 1000000 }) (disch := first | exact am_nl_i | exact am_nl_r | exact am_nl_n | exact am_l0 | exact am_l1 | exact am_l2 | exact am_l3 | assumption | omega) only [wp_ldc, wp_sipush, wp_ldc_w, wp_lconst, wp_iadd, wp_isub, wp_imul, wp_iand, wp_ior, wp_ixor, wp_ishl, wp_ishr, wp_iushr, wp_idiv, wp_irem, wp_ineg, wp_i2b, wp_i2s, wp_i2c, wp_i2l, wp_ladd, wp_lmul, wp_lcmp, wp_dup_i, wp_dup_r, wp_dup2, wp_pop, wp_getfield, wp_putfield, wp_getstatic, wp_iaload, wp_baload, wp_aaload, wp_iastore, wp_arraylength, wp_goto, wp_fall, wp_ieq, wp_ine, wp_ilt, wp_ige, wp_igt, wp_ile, wp_ceq, wp_cne, wp_clt, wp_cge, wp_cgt, wp_cle, wp_sw, wp_ret0, wp_ret1z, wp_ret1o, wp_ret1, wp_ret2, wp_ret3, wp_ret4, wp_ret5, wp_return, wp_min, wp_max, wp_abs, am_ex, gset_eq, gset_ne, upd_eq, upd_ne, gset_gset, am_ci_1, am_ci_6, am_toList_some, am_toList_none, true_implies, false_implies, and_self, and_true, true_and, not_true_eq_false, not_false_eq_true, imp_self, implies_true, Classical.not_not, if_true, if_false, false_and, and_false, or_false, false_or, true_or, or_true, Nat.reduceAdd, Nat.reduceMul, Nat.reduceSub, Nat.reduceLT, Nat.reduceLeDiff, Nat.reduceEqDiff, Nat.reduceBneDiff, Nat.add_zero, Nat.zero_add, reduceCtorEq, wil0, wal0, wis0, wic0, wil1, wal1, wis1, wic1, wil2, wll2, wal2, wis2, was2, wls2, wic2, wil3, wis3, wic3, wic3m, wic3s, wil4, wis4, wic4, wil5, wis5, wic5, wic5m, wil6, wll6, wal6, wis6, was6, wls6, wic6, wil7, wal7, wis7, was7, wic7, wil8, wis8, wic8, wil9, wis9, wic9, wil10, wis10, wic10, am_nI_inj, am_nI_lt, am_nI_le, nI_add, pk_mul, am_nI_sub, am_add_m1, am_gfs, am_pfs, am_alds, am_asts, am_lens, bs138, am_B138_0, am_B138_18, am_B138_38, am_B138_44, hL, fc_ne, C_X5_finding]
    first | exact ⟨rfl, MSt_fnd h (by omega), mfnd_frame⟩ | exact ⟨MSt_fnd h (by omega), mfnd_frame⟩
  rw [if_neg h2]
  rw [if_neg h2] at hL
  by_cases h3 : inR a2 (nI 0) (nI S.1.1 - nI 1) = true
  rotate_left
  · rw [if_neg h3]
    rw [Bool.not_eq_true] at h3
    simp (config := { maxSteps := 1000000 }) (disch := first | exact am_nl_i | exact am_nl_r | exact am_nl_n | exact am_l0 | exact am_l1 | exact am_l2 | exact am_l3 | assumption | omega) only [wp_ldc, wp_sipush, wp_ldc_w, wp_lconst, wp_iadd, wp_isub, wp_imul, wp_iand, wp_ior, wp_ixor, wp_ishl, wp_ishr, wp_iushr, wp_idiv, wp_irem, wp_ineg, wp_i2b, wp_i2s, wp_i2c, wp_i2l, wp_ladd, wp_lmul, wp_lcmp, wp_dup_i, wp_dup_r, wp_dup2, wp_pop, wp_getfield, wp_putfield, wp_getstatic, wp_iaload, wp_baload, wp_aaload, wp_iastore, wp_arraylength, wp_goto, wp_fall, wp_ieq, wp_ine, wp_ilt, wp_ige, wp_igt, wp_ile, wp_ceq, wp_cne, wp_clt, wp_cge, wp_cgt, wp_cle, wp_sw, wp_ret0, wp_ret1z, wp_ret1o, wp_ret1, wp_ret2, wp_ret3, wp_ret4, wp_ret5, wp_return, wp_min, wp_max, wp_abs, am_ex, gset_eq, gset_ne, upd_eq, upd_ne, gset_gset, am_ci_1, am_ci_6, am_toList_some, am_toList_none, true_implies, false_implies, and_self, and_true, true_and, not_true_eq_false, not_false_eq_true, imp_self, implies_true, Classical.not_not, if_true, if_false, false_and, and_false, or_false, false_or, true_or, or_true, Nat.reduceAdd, Nat.reduceMul, Nat.reduceSub, Nat.reduceLT, Nat.reduceLeDiff, Nat.reduceEqDiff, Nat.reduceBneDiff, Nat.add_zero, Nat.zero_add, reduceCtorEq, wil0, wal0, wis0, wic0, wil1, wal1, wis1, wic1, wil2, wll2, wal2, wis2, was2, wls2, wic2, wil3, wis3, wic3, wic3m, wic3s, wil4, wis4, wic4, wil5, wis5, wic5, wic5m, wil6, wll6, wal6, wis6, was6, wls6, wic6, wil7, wal7, wis7, was7, wic7, wil8, wis8, wic8, wil9, wis9, wic9, wil10, wis10, wic10, am_nI_inj, am_nI_lt, am_nI_le, nI_add, pk_mul, am_nI_sub, am_add_m1, am_gfs, am_pfs, am_alds, am_asts, am_lens, bs138, am_B138_0, am_B138_18, am_B138_38, am_B138_44, hL, C_X5_isPerson, f0, h3, bI_f, fcs, C_X5_finding]
    first | exact ⟨rfl, MSt_fnd h (by omega), mfnd_frame⟩ | exact ⟨MSt_fnd h (by omega), mfnd_frame⟩
  rw [if_pos h3]
  obtain ⟨i, hi, rfl, h3'⟩ := there_of hv8 h3
  rw [aN_nI (show i < 2 ^ 31 by omega)]
  have hmy : ∀ v, v < 7 → mayB S.1.1 i 0 (nI v) = true := fun v hv => by
    show inR (nI v) (nI 0) (nI 6) = true
    rw [inR_nI (by omega) (by omega) (by omega)]
    exact decide_eq_true (by omega)
  obtain ⟨G1, hev, hc1, hf1⟩ := CM_fitting (X := X) h hv p i 0 7 hp4 hi (by omega) (by omega) hmy
  have es : setN (fun v => fitB S p i 0 v) 7 = setN (fitV S 0 p i) 8 := by
    have e1 : setN (fitV S 0 p i) 8 = setN (fitV S 0 p i) 7 + if fitV S 0 p i 7 = true then 2 ^ 7 else 0 := rfl
    have e7 : fitV S 0 p i 7 = false := by
      show (inR (nI 7) (nI 0) (nI 6) && fitB S p i 0 (pK (nI 7))) = false
      have : inR (nI 7) (nI 0) (nI 6) = false := by decide
      rw [this, Bool.false_and]
    rw [e1, e7, if_neg Bool.false_ne_true, Nat.add_zero]
    exact setN_congr 7 (fun v hv8 => by
      show fitB S p i 0 v = (mayB S.1.1 i 0 (nI v) && fitB S p i 0 (pK (nI v)))
      rw [hmy v hv8, pK_nI (by omega), Bool.true_and])
  rw [es] at hev
  have hD := fun (k : Nat) (r : List Instr) (lv : LV) (Q : Option Value → GG → Prop) => WP_ev (k := k) (st := [.int (nI 7), .int (nI 0), .int (nI i), .int (nI p), .ref 58]) (rest := []) (r := r) (lv := lv) (Q := Q) hev (by decide) (c := 5) rfl rfl (by decide) rfl
  simp (config := { maxSteps := 1000000 }) (disch := first | exact am_nl_i | exact am_nl_r | exact am_nl_n | exact am_l0 | exact am_l1 | exact am_l2 | exact am_l3 | assumption | omega) only [wp_ldc, wp_sipush, wp_ldc_w, wp_lconst, wp_iadd, wp_isub, wp_imul, wp_iand, wp_ior, wp_ixor, wp_ishl, wp_ishr, wp_iushr, wp_idiv, wp_irem, wp_ineg, wp_i2b, wp_i2s, wp_i2c, wp_i2l, wp_ladd, wp_lmul, wp_lcmp, wp_dup_i, wp_dup_r, wp_dup2, wp_pop, wp_getfield, wp_putfield, wp_getstatic, wp_iaload, wp_baload, wp_aaload, wp_iastore, wp_arraylength, wp_goto, wp_fall, wp_ieq, wp_ine, wp_ilt, wp_ige, wp_igt, wp_ile, wp_ceq, wp_cne, wp_clt, wp_cge, wp_cgt, wp_cle, wp_sw, wp_ret0, wp_ret1z, wp_ret1o, wp_ret1, wp_ret2, wp_ret3, wp_ret4, wp_ret5, wp_return, wp_min, wp_max, wp_abs, am_ex, gset_eq, gset_ne, upd_eq, upd_ne, gset_gset, am_ci_1, am_ci_6, am_toList_some, am_toList_none, true_implies, false_implies, and_self, and_true, true_and, not_true_eq_false, not_false_eq_true, imp_self, implies_true, Classical.not_not, if_true, if_false, false_and, and_false, or_false, false_or, true_or, or_true, Nat.reduceAdd, Nat.reduceMul, Nat.reduceSub, Nat.reduceLT, Nat.reduceLeDiff, Nat.reduceEqDiff, Nat.reduceBneDiff, Nat.add_zero, Nat.zero_add, reduceCtorEq, wil0, wal0, wis0, wic0, wil1, wal1, wis1, wic1, wil2, wll2, wal2, wis2, was2, wls2, wic2, wil3, wis3, wic3, wic3m, wic3s, wil4, wis4, wic4, wil5, wis5, wic5, wic5m, wil6, wll6, wal6, wis6, was6, wls6, wic6, wil7, wal7, wis7, was7, wic7, wil8, wis8, wic8, wil9, wis9, wic9, wil10, wis10, wic10, am_nI_inj, am_nI_lt, am_nI_le, nI_add, pk_mul, am_nI_sub, am_add_m1, am_gfs, am_pfs, am_alds, am_asts, am_lens, bs138, am_B138_0, am_B138_18, am_B138_38, am_B138_44, hL, C_X5_isPerson, f0, h3', bI_t, e2, hD]
  first | exact ⟨rfl, hc1, hf1⟩ | exact ⟨hc1, hf1⟩
def MWL (X : AmX) (m : Nat) (as : List Value) (G : GG) (r : Int64 × SS) : Prop := WPm X m as G (fun w G1 => w = some (.long r.1) ∧ MSt r.2 G1 ∧ ∀ o, o < 58 → G1 o = G o)
theorem gcd_hlv : ∀ a, a ≤ 8 → (hlv 3 a 8).1 = a / Nat.gcd 8 a ∧ (hlv 3 a 8).2 = 8 / Nat.gcd 8 a ∧ 1 ≤ Nat.gcd 8 a ∧ Nat.gcd 8 a ≤ 8 := by decide +kernel
theorem gcd_step (b r : Nat) : Nat.gcd r (b % r) = Nat.gcd b r := by
  rw [Nat.gcd_comm r (b % r), ← Nat.gcd_rec, Nat.gcd_comm]
theorem MT_odds {X : AmX} {S : SS} {G : GG} (h : MSt S G) (hv : SV S) (a1 a2 : Int32) : MWL X 145 [.ref 58, .int a1, .int a2] G (sp_odds S a1 a2) := by
  have hm := MS_MR h hv
  unfold MWL sp_odds
  have e2 : (nI 1 = nI 0) = False := eq_false (by decide)
  show WP X 145 (am_blk 145 0) [some (.ref 58), some (.int a1), some (.int a2), none, none, none, none, none, none] [] G _
  by_cases h1 : inR a1 (nI 0) (nI 20) = true
  rotate_left
  · rw [if_neg (fun z => h1 z.1)]
    rw [Bool.not_eq_true] at h1
    simp (config := { maxSteps := 1000000 }) (disch := first | exact am_nl_i | exact am_nl_r | exact am_nl_n | exact am_l0 | exact am_l1 | exact am_l2 | exact am_l3 | assumption | omega) only [wp_ldc, wp_sipush, wp_ldc_w, wp_lconst, wp_iadd, wp_isub, wp_imul, wp_iand, wp_ior, wp_ixor, wp_ishl, wp_ishr, wp_iushr, wp_idiv, wp_irem, wp_ineg, wp_i2b, wp_i2s, wp_i2c, wp_i2l, wp_ladd, wp_lmul, wp_lcmp, wp_dup_i, wp_dup_r, wp_dup2, wp_pop, wp_getfield, wp_putfield, wp_getstatic, wp_iaload, wp_baload, wp_aaload, wp_iastore, wp_arraylength, wp_goto, wp_fall, wp_ieq, wp_ine, wp_ilt, wp_ige, wp_igt, wp_ile, wp_ceq, wp_cne, wp_clt, wp_cge, wp_cgt, wp_cle, wp_sw, wp_ret0, wp_ret1z, wp_ret1o, wp_ret1, wp_ret2, wp_ret3, wp_ret4, wp_ret5, wp_return, wp_min, wp_max, wp_abs, am_ex, gset_eq, gset_ne, upd_eq, upd_ne, gset_gset, am_ci_1, am_ci_6, am_toList_some, am_toList_none, true_implies, false_implies, and_self, and_true, true_and, not_true_eq_false, not_false_eq_true, imp_self, implies_true, Classical.not_not, if_true, if_false, false_and, and_false, or_false, false_or, true_or, or_true, Nat.reduceAdd, Nat.reduceMul, Nat.reduceSub, Nat.reduceLT, Nat.reduceLeDiff, Nat.reduceEqDiff, Nat.reduceBneDiff, Nat.add_zero, Nat.zero_add, reduceCtorEq, wil0, wal0, wis0, wic0, wil1, wal1, wis1, wic1, wil2, wll2, wal2, wis2, was2, wls2, wic2, wil3, wis3, wic3, wic3m, wic3s, wil4, wis4, wic4, wil5, wis5, wic5, wic5m, wil6, wll6, wal6, wis6, was6, wls6, wic6, wil7, wal7, wis7, was7, wic7, wil8, wis8, wic8, wil9, wis9, wic9, wil10, wis10, wic10, am_nI_inj, am_nI_lt, am_nI_le, nI_add, pk_mul, am_nI_sub, am_add_m1, am_gfs, am_pfs, am_alds, am_asts, am_lens, bk145_0, bk145_19, am_B145_0, am_B145_19, C_X5_within, h1, bI_f, fcs, C_X5_finding, wp_i2l, wp_ret4]
    first | exact ⟨rfl, MSt_fnd h (by omega), mfnd_frame⟩ | exact ⟨MSt_fnd h (by omega), mfnd_frame⟩
  by_cases h2 : inR a2 (nI 0) (nI 1) = true
  rotate_left
  · rw [if_neg (fun z => h2 z.2)]
    rw [Bool.not_eq_true] at h2
    simp (config := { maxSteps := 1000000 }) (disch := first | exact am_nl_i | exact am_nl_r | exact am_nl_n | exact am_l0 | exact am_l1 | exact am_l2 | exact am_l3 | assumption | omega) only [wp_ldc, wp_sipush, wp_ldc_w, wp_lconst, wp_iadd, wp_isub, wp_imul, wp_iand, wp_ior, wp_ixor, wp_ishl, wp_ishr, wp_iushr, wp_idiv, wp_irem, wp_ineg, wp_i2b, wp_i2s, wp_i2c, wp_i2l, wp_ladd, wp_lmul, wp_lcmp, wp_dup_i, wp_dup_r, wp_dup2, wp_pop, wp_getfield, wp_putfield, wp_getstatic, wp_iaload, wp_baload, wp_aaload, wp_iastore, wp_arraylength, wp_goto, wp_fall, wp_ieq, wp_ine, wp_ilt, wp_ige, wp_igt, wp_ile, wp_ceq, wp_cne, wp_clt, wp_cge, wp_cgt, wp_cle, wp_sw, wp_ret0, wp_ret1z, wp_ret1o, wp_ret1, wp_ret2, wp_ret3, wp_ret4, wp_ret5, wp_return, wp_min, wp_max, wp_abs, am_ex, gset_eq, gset_ne, upd_eq, upd_ne, gset_gset, am_ci_1, am_ci_6, am_toList_some, am_toList_none, true_implies, false_implies, and_self, and_true, true_and, not_true_eq_false, not_false_eq_true, imp_self, implies_true, Classical.not_not, if_true, if_false, false_and, and_false, or_false, false_or, true_or, or_true, Nat.reduceAdd, Nat.reduceMul, Nat.reduceSub, Nat.reduceLT, Nat.reduceLeDiff, Nat.reduceEqDiff, Nat.reduceBneDiff, Nat.add_zero, Nat.zero_add, reduceCtorEq, wil0, wal0, wis0, wic0, wil1, wal1, wis1, wic1, wil2, wll2, wal2, wis2, was2, wls2, wic2, wil3, wis3, wic3, wic3m, wic3s, wil4, wis4, wic4, wil5, wis5, wic5, wic5m, wil6, wll6, wal6, wis6, was6, wls6, wic6, wil7, wal7, wis7, was7, wic7, wil8, wis8, wic8, wil9, wis9, wic9, wil10, wis10, wic10, am_nI_inj, am_nI_lt, am_nI_le, nI_add, pk_mul, am_nI_sub, am_add_m1, am_gfs, am_pfs, am_alds, am_asts, am_lens, bk145_0, bk145_19, am_B145_0, am_B145_19, C_X5_within, h1, h2, bI_t, bI_f, e2, fcs, C_X5_finding, wp_i2l, wp_ret4]
    first | exact ⟨rfl, MSt_fnd h (by omega), mfnd_frame⟩ | exact ⟨MSt_fnd h (by omega), mfnd_frame⟩
  rw [if_pos ⟨h1, h2⟩]
  obtain ⟨n, hn, rfl, h1'⟩ := rng_of (by omega) h1
  obtain ⟨q, hq, rfl, h2'⟩ := rng_of (by omega) h2
  rw [aN_nI (show n < 2 ^ 31 by omega), aN_nI (show q < 2 ^ 31 by omega)]
  obtain ⟨G1, hev, hf1⟩ := X5_comePlaces (X := X) hm
  have hD := fun (k : Nat) (r : List Instr) (lv : LV) (st : List Value) (Q : Option Value → GG → Prop) (hl : st.length ≤ 4) => WP_ev (k := k) (st := .ref 58 :: st) (rest := st) (r := r) (lv := lv) (Q := Q) hev (by decide) (c := 1) rfl rfl hl rfl
  have hc1 := MSt_congr h (fun o _ h2 h3 => hf1 o h2 h3)
  have hs := setN_256 (f := fun p => decide (0 < ccN S.1.2.1 S.1.1 p)) (Nat.le_refl 8)
  have l2 := popN_le _ hs
  have e8 : nI 8 - nI (visN S) = nI (8 - visN S) := am_nI_sub l2
  generalize hQ : (fun (w : Option Value) (G1 : GG) => w = some (.long (powL (nI (if q = 0 then (hlv 3 (8 - visN S) 8).1 else (hlv 3 (8 - visN S) 8).2)).toInt64 n, S).1) ∧ MSt (powL (nI (if q = 0 then (hlv 3 (8 - visN S) 8).1 else (hlv 3 (8 - visN S) 8).2)).toInt64 n, S).2 G1 ∧ ∀ o, o < 58 → G1 o = G o) = Q
  have ha8 : 8 - visN S ≤ 8 := Nat.sub_le _ _
  obtain ⟨g1, g2, g3, g4⟩ := gcd_hlv (8 - visN S) ha8
  rw [g1, g2] at hQ
  unfold visN at e8
  rw [show popN (setN (fun p => decide (0 < ccN S.1.2.1 S.1.1 p)) 8) = visN S from rfl] at e8
  generalize hA : 8 - visN S = A at *
  generalize hg : Nat.gcd 8 A = g at *
  have keyB : ∀ d i : Nat, i + d = n → WP X 145 (am_blk 145 74) [some (.ref 58), some (.int (nI n)), some (.int (nI q)), some (.int (nI A)), some (.int (nI g)), some (.int (nI 0)), some (.long (powL (nI (if q = 0 then A / g else 8 / g)).toInt64 i)), none, some (.int (nI i))] [] G1 Q := by
    intro d
    induction d with
    | zero =>
      intro i hi
      obtain rfl : i = n := by omega
      rw [bh145_74]
      simp (config := { maxSteps := 1000000 }) (disch := first | exact am_nl_i | exact am_nl_r | exact am_nl_n | exact am_l0 | exact am_l1 | exact am_l2 | exact am_l3 | assumption | omega) only [wp_ldc, wp_sipush, wp_ldc_w, wp_lconst, wp_iadd, wp_isub, wp_imul, wp_iand, wp_ior, wp_ixor, wp_ishl, wp_ishr, wp_iushr, wp_idiv, wp_irem, wp_ineg, wp_i2b, wp_i2s, wp_i2c, wp_i2l, wp_ladd, wp_lmul, wp_lcmp, wp_dup_i, wp_dup_r, wp_dup2, wp_pop, wp_getfield, wp_putfield, wp_getstatic, wp_iaload, wp_baload, wp_aaload, wp_iastore, wp_arraylength, wp_goto, wp_fall, wp_ieq, wp_ine, wp_ilt, wp_ige, wp_igt, wp_ile, wp_ceq, wp_cne, wp_clt, wp_cge, wp_cgt, wp_cle, wp_sw, wp_ret0, wp_ret1z, wp_ret1o, wp_ret1, wp_ret2, wp_ret3, wp_ret4, wp_ret5, wp_return, wp_min, wp_max, wp_abs, am_ex, gset_eq, gset_ne, upd_eq, upd_ne, gset_gset, am_ci_1, am_ci_6, am_toList_some, am_toList_none, true_implies, false_implies, and_self, and_true, true_and, not_true_eq_false, not_false_eq_true, imp_self, implies_true, Classical.not_not, if_true, if_false, false_and, and_false, or_false, false_or, true_or, or_true, Nat.reduceAdd, Nat.reduceMul, Nat.reduceSub, Nat.reduceLT, Nat.reduceLeDiff, Nat.reduceEqDiff, Nat.reduceBneDiff, Nat.add_zero, Nat.zero_add, reduceCtorEq, wil0, wal0, wis0, wic0, wil1, wal1, wis1, wic1, wil2, wll2, wal2, wis2, was2, wls2, wic2, wil3, wis3, wic3, wic3m, wic3s, wil4, wis4, wic4, wil5, wis5, wic5, wic5m, wil6, wll6, wal6, wis6, was6, wls6, wic6, wil7, wal7, wis7, was7, wic7, wil8, wis8, wic8, wil9, wis9, wic9, wil10, wis10, wic10, am_nI_inj, am_nI_lt, am_nI_le, nI_add, pk_mul, am_nI_sub, am_add_m1, am_gfs, am_pfs, am_alds, am_asts, am_lens, bk145_105, am_B145_74, am_B145_105, Nat.le_refl, wp_ret4]
      rw [← hQ]
      exact ⟨rfl, hc1, fun o ho => hf1 o (by omega) (by omega)⟩
    | succ d ih =>
      intro i hi
      have q1 : (n ≤ i) = False := eq_false (by omega)
      have q0 : (g = 0) = False := eq_false (by omega)
      have ihk := ih (i + 1) (by omega)
      have es : ∀ x : Int64, powL x (i + 1) = powL x i * x := fun x => rfl
      rw [es] at ihk
      rw [bh145_74]
      rcases (by omega : q = 0 ∨ q = 1) with rfl | rfl
      · rw [if_pos rfl] at ihk ⊢
        have d1 := pk_div (a := A) (d := g) (by omega) (by omega) (by omega)
        simp (config := { maxSteps := 1000000 }) (disch := first | exact am_nl_i | exact am_nl_r | exact am_nl_n | exact am_l0 | exact am_l1 | exact am_l2 | exact am_l3 | assumption | omega) only [wp_ldc, wp_sipush, wp_ldc_w, wp_lconst, wp_iadd, wp_isub, wp_imul, wp_iand, wp_ior, wp_ixor, wp_ishl, wp_ishr, wp_iushr, wp_idiv, wp_irem, wp_ineg, wp_i2b, wp_i2s, wp_i2c, wp_i2l, wp_ladd, wp_lmul, wp_lcmp, wp_dup_i, wp_dup_r, wp_dup2, wp_pop, wp_getfield, wp_putfield, wp_getstatic, wp_iaload, wp_baload, wp_aaload, wp_iastore, wp_arraylength, wp_goto, wp_fall, wp_ieq, wp_ine, wp_ilt, wp_ige, wp_igt, wp_ile, wp_ceq, wp_cne, wp_clt, wp_cge, wp_cgt, wp_cle, wp_sw, wp_ret0, wp_ret1z, wp_ret1o, wp_ret1, wp_ret2, wp_ret3, wp_ret4, wp_ret5, wp_return, wp_min, wp_max, wp_abs, am_ex, gset_eq, gset_ne, upd_eq, upd_ne, gset_gset, am_ci_1, am_ci_6, am_toList_some, am_toList_none, true_implies, false_implies, and_self, and_true, true_and, not_true_eq_false, not_false_eq_true, imp_self, implies_true, Classical.not_not, if_true, if_false, false_and, and_false, or_false, false_or, true_or, or_true, Nat.reduceAdd, Nat.reduceMul, Nat.reduceSub, Nat.reduceLT, Nat.reduceLeDiff, Nat.reduceEqDiff, Nat.reduceBneDiff, Nat.add_zero, Nat.zero_add, reduceCtorEq, wil0, wal0, wis0, wic0, wil1, wal1, wis1, wic1, wil2, wll2, wal2, wis2, was2, wls2, wic2, wil3, wis3, wic3, wic3m, wic3s, wil4, wis4, wic4, wil5, wis5, wic5, wic5m, wil6, wll6, wal6, wis6, was6, wls6, wic6, wil7, wal7, wis7, was7, wic7, wil8, wis8, wic8, wil9, wis9, wic9, wil10, wis10, wic10, am_nI_inj, am_nI_lt, am_nI_le, nI_add, pk_mul, am_nI_sub, am_add_m1, am_gfs, am_pfs, am_alds, am_asts, am_lens, bk145_90, bk145_92, am_B145_74, am_B145_90, am_B145_92, bn145_74, q1, q0, d1]
        exact ihk
      · rw [if_neg (by omega)] at ihk ⊢
        have d1 := pk_div (a := 8) (d := g) (by omega) (by omega) (by omega)
        simp (config := { maxSteps := 1000000 }) (disch := first | exact am_nl_i | exact am_nl_r | exact am_nl_n | exact am_l0 | exact am_l1 | exact am_l2 | exact am_l3 | assumption | omega) only [wp_ldc, wp_sipush, wp_ldc_w, wp_lconst, wp_iadd, wp_isub, wp_imul, wp_iand, wp_ior, wp_ixor, wp_ishl, wp_ishr, wp_iushr, wp_idiv, wp_irem, wp_ineg, wp_i2b, wp_i2s, wp_i2c, wp_i2l, wp_ladd, wp_lmul, wp_lcmp, wp_dup_i, wp_dup_r, wp_dup2, wp_pop, wp_getfield, wp_putfield, wp_getstatic, wp_iaload, wp_baload, wp_aaload, wp_iastore, wp_arraylength, wp_goto, wp_fall, wp_ieq, wp_ine, wp_ilt, wp_ige, wp_igt, wp_ile, wp_ceq, wp_cne, wp_clt, wp_cge, wp_cgt, wp_cle, wp_sw, wp_ret0, wp_ret1z, wp_ret1o, wp_ret1, wp_ret2, wp_ret3, wp_ret4, wp_ret5, wp_return, wp_min, wp_max, wp_abs, am_ex, gset_eq, gset_ne, upd_eq, upd_ne, gset_gset, am_ci_1, am_ci_6, am_toList_some, am_toList_none, true_implies, false_implies, and_self, and_true, true_and, not_true_eq_false, not_false_eq_true, imp_self, implies_true, Classical.not_not, if_true, if_false, false_and, and_false, or_false, false_or, true_or, or_true, Nat.reduceAdd, Nat.reduceMul, Nat.reduceSub, Nat.reduceLT, Nat.reduceLeDiff, Nat.reduceEqDiff, Nat.reduceBneDiff, Nat.add_zero, Nat.zero_add, reduceCtorEq, wil0, wal0, wis0, wic0, wil1, wal1, wis1, wic1, wil2, wll2, wal2, wis2, was2, wls2, wic2, wil3, wis3, wic3, wic3m, wic3s, wil4, wis4, wic4, wil5, wis5, wic5, wic5m, wil6, wll6, wal6, wis6, was6, wls6, wic6, wil7, wal7, wis7, was7, wic7, wil8, wis8, wic8, wil9, wis9, wic9, wil10, wis10, wic10, am_nI_inj, am_nI_lt, am_nI_le, nI_add, pk_mul, am_nI_sub, am_add_m1, am_gfs, am_pfs, am_alds, am_asts, am_lens, bk145_90, bk145_92, am_B145_74, am_B145_90, am_B145_92, bn145_74, q1, q0, d1, e2]
        exact ihk
  have kB := keyB n 0 (by omega)
  have eB : ∀ x : Int64, powL x 0 = Int64.ofNat 1 := fun x => rfl
  rw [eB] at kB
  have keyA : ∀ r : Nat, ∀ b : Nat, r ≤ 8 → b ≤ 8 → Nat.gcd b r = g → ∀ v6 : Option Value, (∃ y, v6 = some (.int y)) ∨ v6 = none → WP X 145 (am_blk 145 45) [some (.ref 58), some (.int (nI n)), some (.int (nI q)), some (.int (nI A)), some (.int (nI b)), some (.int (nI r)), v6, none, none] [] G1 Q := by
    intro r
    induction r using Nat.strongRecOn with
    | ind r ih =>
      intro b hr hb hgg v6 hv6
      rw [bh145_45]
      by_cases h0 : r = 0
      · subst h0
        rw [Nat.gcd_zero_right] at hgg
        subst hgg
        rcases hv6 with ⟨y, rfl⟩ | rfl
        · simp (config := { maxSteps := 1000000 }) (disch := first | exact am_nl_i | exact am_nl_r | exact am_nl_n | exact am_l0 | exact am_l1 | exact am_l2 | exact am_l3 | assumption | omega) only [wp_ldc, wp_sipush, wp_ldc_w, wp_lconst, wp_iadd, wp_isub, wp_imul, wp_iand, wp_ior, wp_ixor, wp_ishl, wp_ishr, wp_iushr, wp_idiv, wp_irem, wp_ineg, wp_i2b, wp_i2s, wp_i2c, wp_i2l, wp_ladd, wp_lmul, wp_lcmp, wp_dup_i, wp_dup_r, wp_dup2, wp_pop, wp_getfield, wp_putfield, wp_getstatic, wp_iaload, wp_baload, wp_aaload, wp_iastore, wp_arraylength, wp_goto, wp_fall, wp_ieq, wp_ine, wp_ilt, wp_ige, wp_igt, wp_ile, wp_ceq, wp_cne, wp_clt, wp_cge, wp_cgt, wp_cle, wp_sw, wp_ret0, wp_ret1z, wp_ret1o, wp_ret1, wp_ret2, wp_ret3, wp_ret4, wp_ret5, wp_return, wp_min, wp_max, wp_abs, am_ex, gset_eq, gset_ne, upd_eq, upd_ne, gset_gset, am_ci_1, am_ci_6, am_toList_some, am_toList_none, true_implies, false_implies, and_self, and_true, true_and, not_true_eq_false, not_false_eq_true, imp_self, implies_true, Classical.not_not, if_true, if_false, false_and, and_false, or_false, false_or, true_or, or_true, Nat.reduceAdd, Nat.reduceMul, Nat.reduceSub, Nat.reduceLT, Nat.reduceLeDiff, Nat.reduceEqDiff, Nat.reduceBneDiff, Nat.add_zero, Nat.zero_add, reduceCtorEq, wil0, wal0, wis0, wic0, wil1, wal1, wis1, wic1, wil2, wll2, wal2, wis2, was2, wls2, wic2, wil3, wis3, wic3, wic3m, wic3s, wil4, wis4, wic4, wil5, wis5, wic5, wic5m, wil6, wll6, wal6, wis6, was6, wls6, wic6, wil7, wal7, wis7, was7, wic7, wil8, wis8, wic8, wil9, wis9, wic9, wil10, wis10, wic10, am_nI_inj, am_nI_lt, am_nI_le, nI_add, pk_mul, am_nI_sub, am_add_m1, am_gfs, am_pfs, am_alds, am_asts, am_lens, bk145_68, am_B145_45, am_B145_68, bn145_74]
          exact kB
        · simp (config := { maxSteps := 1000000 }) (disch := first | exact am_nl_i | exact am_nl_r | exact am_nl_n | exact am_l0 | exact am_l1 | exact am_l2 | exact am_l3 | assumption | omega) only [wp_ldc, wp_sipush, wp_ldc_w, wp_lconst, wp_iadd, wp_isub, wp_imul, wp_iand, wp_ior, wp_ixor, wp_ishl, wp_ishr, wp_iushr, wp_idiv, wp_irem, wp_ineg, wp_i2b, wp_i2s, wp_i2c, wp_i2l, wp_ladd, wp_lmul, wp_lcmp, wp_dup_i, wp_dup_r, wp_dup2, wp_pop, wp_getfield, wp_putfield, wp_getstatic, wp_iaload, wp_baload, wp_aaload, wp_iastore, wp_arraylength, wp_goto, wp_fall, wp_ieq, wp_ine, wp_ilt, wp_ige, wp_igt, wp_ile, wp_ceq, wp_cne, wp_clt, wp_cge, wp_cgt, wp_cle, wp_sw, wp_ret0, wp_ret1z, wp_ret1o, wp_ret1, wp_ret2, wp_ret3, wp_ret4, wp_ret5, wp_return, wp_min, wp_max, wp_abs, am_ex, gset_eq, gset_ne, upd_eq, upd_ne, gset_gset, am_ci_1, am_ci_6, am_toList_some, am_toList_none, true_implies, false_implies, and_self, and_true, true_and, not_true_eq_false, not_false_eq_true, imp_self, implies_true, Classical.not_not, if_true, if_false, false_and, and_false, or_false, false_or, true_or, or_true, Nat.reduceAdd, Nat.reduceMul, Nat.reduceSub, Nat.reduceLT, Nat.reduceLeDiff, Nat.reduceEqDiff, Nat.reduceBneDiff, Nat.add_zero, Nat.zero_add, reduceCtorEq, wil0, wal0, wis0, wic0, wil1, wal1, wis1, wic1, wil2, wll2, wal2, wis2, was2, wls2, wic2, wil3, wis3, wic3, wic3m, wic3s, wil4, wis4, wic4, wil5, wis5, wic5, wic5m, wil6, wll6, wal6, wis6, was6, wls6, wic6, wil7, wal7, wis7, was7, wic7, wil8, wis8, wic8, wil9, wis9, wic9, wil10, wis10, wic10, am_nI_inj, am_nI_lt, am_nI_le, nI_add, pk_mul, am_nI_sub, am_add_m1, am_gfs, am_pfs, am_alds, am_asts, am_lens, bk145_68, am_B145_45, am_B145_68, bn145_74]
          exact kB
      · have q0 : (r = 0) = False := eq_false h0
        have hlt : b % r < r := Nat.mod_lt _ (by omega)
        have rr := pk_rem (a := b) (d := r) (by omega) (by omega) (by omega)
        have ihk := ih (b % r) hlt r (by omega) hr (by rw [gcd_step]; exact hgg) (some (.int (nI (b % r)))) (Or.inl ⟨_, rfl⟩)
        rcases hv6 with ⟨y, rfl⟩ | rfl
        · simp (config := { maxSteps := 1000000 }) (disch := first | exact am_nl_i | exact am_nl_r | exact am_nl_n | exact am_l0 | exact am_l1 | exact am_l2 | exact am_l3 | assumption | omega) only [wp_ldc, wp_sipush, wp_ldc_w, wp_lconst, wp_iadd, wp_isub, wp_imul, wp_iand, wp_ior, wp_ixor, wp_ishl, wp_ishr, wp_iushr, wp_idiv, wp_irem, wp_ineg, wp_i2b, wp_i2s, wp_i2c, wp_i2l, wp_ladd, wp_lmul, wp_lcmp, wp_dup_i, wp_dup_r, wp_dup2, wp_pop, wp_getfield, wp_putfield, wp_getstatic, wp_iaload, wp_baload, wp_aaload, wp_iastore, wp_arraylength, wp_goto, wp_fall, wp_ieq, wp_ine, wp_ilt, wp_ige, wp_igt, wp_ile, wp_ceq, wp_cne, wp_clt, wp_cge, wp_cgt, wp_cle, wp_sw, wp_ret0, wp_ret1z, wp_ret1o, wp_ret1, wp_ret2, wp_ret3, wp_ret4, wp_ret5, wp_return, wp_min, wp_max, wp_abs, am_ex, gset_eq, gset_ne, upd_eq, upd_ne, gset_gset, am_ci_1, am_ci_6, am_toList_some, am_toList_none, true_implies, false_implies, and_self, and_true, true_and, not_true_eq_false, not_false_eq_true, imp_self, implies_true, Classical.not_not, if_true, if_false, false_and, and_false, or_false, false_or, true_or, or_true, Nat.reduceAdd, Nat.reduceMul, Nat.reduceSub, Nat.reduceLT, Nat.reduceLeDiff, Nat.reduceEqDiff, Nat.reduceBneDiff, Nat.add_zero, Nat.zero_add, reduceCtorEq, wil0, wal0, wis0, wic0, wil1, wal1, wis1, wic1, wil2, wll2, wal2, wis2, was2, wls2, wic2, wil3, wis3, wic3, wic3m, wic3s, wil4, wis4, wic4, wil5, wis5, wic5, wic5m, wil6, wll6, wal6, wis6, was6, wls6, wic6, wil7, wal7, wis7, was7, wic7, wil8, wis8, wic8, wil9, wis9, wic9, wil10, wis10, wic10, am_nI_inj, am_nI_lt, am_nI_le, nI_add, pk_mul, am_nI_sub, am_add_m1, am_gfs, am_pfs, am_alds, am_asts, am_lens, am_B145_45, bn145_45, q0, rr]
          exact ihk
        · simp (config := { maxSteps := 1000000 }) (disch := first | exact am_nl_i | exact am_nl_r | exact am_nl_n | exact am_l0 | exact am_l1 | exact am_l2 | exact am_l3 | assumption | omega) only [wp_ldc, wp_sipush, wp_ldc_w, wp_lconst, wp_iadd, wp_isub, wp_imul, wp_iand, wp_ior, wp_ixor, wp_ishl, wp_ishr, wp_iushr, wp_idiv, wp_irem, wp_ineg, wp_i2b, wp_i2s, wp_i2c, wp_i2l, wp_ladd, wp_lmul, wp_lcmp, wp_dup_i, wp_dup_r, wp_dup2, wp_pop, wp_getfield, wp_putfield, wp_getstatic, wp_iaload, wp_baload, wp_aaload, wp_iastore, wp_arraylength, wp_goto, wp_fall, wp_ieq, wp_ine, wp_ilt, wp_ige, wp_igt, wp_ile, wp_ceq, wp_cne, wp_clt, wp_cge, wp_cgt, wp_cle, wp_sw, wp_ret0, wp_ret1z, wp_ret1o, wp_ret1, wp_ret2, wp_ret3, wp_ret4, wp_ret5, wp_return, wp_min, wp_max, wp_abs, am_ex, gset_eq, gset_ne, upd_eq, upd_ne, gset_gset, am_ci_1, am_ci_6, am_toList_some, am_toList_none, true_implies, false_implies, and_self, and_true, true_and, not_true_eq_false, not_false_eq_true, imp_self, implies_true, Classical.not_not, if_true, if_false, false_and, and_false, or_false, false_or, true_or, or_true, Nat.reduceAdd, Nat.reduceMul, Nat.reduceSub, Nat.reduceLT, Nat.reduceLeDiff, Nat.reduceEqDiff, Nat.reduceBneDiff, Nat.add_zero, Nat.zero_add, reduceCtorEq, wil0, wal0, wis0, wic0, wil1, wal1, wis1, wic1, wil2, wll2, wal2, wis2, was2, wls2, wic2, wil3, wis3, wic3, wic3m, wic3s, wil4, wis4, wic4, wil5, wis5, wic5, wic5m, wil6, wll6, wal6, wis6, was6, wls6, wic6, wil7, wal7, wis7, was7, wic7, wil8, wis8, wic8, wil9, wis9, wic9, wil10, wis10, wic10, am_nI_inj, am_nI_lt, am_nI_le, nI_add, pk_mul, am_nI_sub, am_add_m1, am_gfs, am_pfs, am_alds, am_asts, am_lens, am_B145_45, bn145_45, q0, rr]
          exact ihk
  have kA := keyA A 8 ha8 (by omega) hg none (Or.inr rfl)
  have hB8 : popN (setN (fun p => decide (0 < ccN S.1.2.1 S.1.1 p)) 8) = visN S := rfl
  simp (config := { maxSteps := 1000000 }) (disch := first | exact am_nl_i | exact am_nl_r | exact am_nl_n | exact am_l0 | exact am_l1 | exact am_l2 | exact am_l3 | assumption | omega) only [wp_ldc, wp_sipush, wp_ldc_w, wp_lconst, wp_iadd, wp_isub, wp_imul, wp_iand, wp_ior, wp_ixor, wp_ishl, wp_ishr, wp_iushr, wp_idiv, wp_irem, wp_ineg, wp_i2b, wp_i2s, wp_i2c, wp_i2l, wp_ladd, wp_lmul, wp_lcmp, wp_dup_i, wp_dup_r, wp_dup2, wp_pop, wp_getfield, wp_putfield, wp_getstatic, wp_iaload, wp_baload, wp_aaload, wp_iastore, wp_arraylength, wp_goto, wp_fall, wp_ieq, wp_ine, wp_ilt, wp_ige, wp_igt, wp_ile, wp_ceq, wp_cne, wp_clt, wp_cge, wp_cgt, wp_cle, wp_sw, wp_ret0, wp_ret1z, wp_ret1o, wp_ret1, wp_ret2, wp_ret3, wp_ret4, wp_ret5, wp_return, wp_min, wp_max, wp_abs, am_ex, gset_eq, gset_ne, upd_eq, upd_ne, gset_gset, am_ci_1, am_ci_6, am_toList_some, am_toList_none, true_implies, false_implies, and_self, and_true, true_and, not_true_eq_false, not_false_eq_true, imp_self, implies_true, Classical.not_not, if_true, if_false, false_and, and_false, or_false, false_or, true_or, or_true, Nat.reduceAdd, Nat.reduceMul, Nat.reduceSub, Nat.reduceLT, Nat.reduceLeDiff, Nat.reduceEqDiff, Nat.reduceBneDiff, Nat.add_zero, Nat.zero_add, reduceCtorEq, wil0, wal0, wis0, wic0, wil1, wal1, wis1, wic1, wil2, wll2, wal2, wis2, was2, wls2, wic2, wil3, wis3, wic3, wic3m, wic3s, wil4, wis4, wic4, wil5, wis5, wic5, wic5m, wil6, wll6, wal6, wis6, was6, wls6, wic6, wil7, wal7, wis7, was7, wic7, wil8, wis8, wic8, wil9, wis9, wic9, wil10, wis10, wic10, am_nI_inj, am_nI_lt, am_nI_le, nI_add, pk_mul, am_nI_sub, am_add_m1, am_gfs, am_pfs, am_alds, am_asts, am_lens, bk145_0, bk145_27, am_B145_0, am_B145_27, bn145_45, C_X5_within, h1', h2', bI_t, e2, hD, C_X5_bits, hB8, e8]
  exact kA
theorem shr_bv : ∀ (s : Nat), s ≤ 24 → ∀ x : BitVec 32, x.sshiftRight s &&& 255#32 = x >>> s &&& 255#32 := by
  intro s hs x
  have hz : ∀ i, i < 32 → 8 ≤ i → (255#32).getLsbD i = false := by decide
  apply BitVec.eq_of_getLsbD_eq
  intro i hi
  rw [BitVec.getLsbD_and, BitVec.getLsbD_and]
  by_cases h8 : i < 8
  · rw [BitVec.getLsbD_sshiftRight, BitVec.getLsbD_ushiftRight]
    rw [decide_eq_false (by omega : ¬ 32 ≤ i), if_pos (by omega : s + i < 32)]
    rfl
  · rw [hz i hi (by omega), Bool.and_false, Bool.and_false]
theorem shr_by (x : Int32) {k : Nat} (hk : k < 4) : (x >>> (nI (8 * k) &&& 31)) &&& nI 255 = byI x k := by
  apply Int32.toBitVec_inj.mp
  have h := shr_bv (8 * k) (by omega) x.toBitVec
  rcases (by omega : k = 0 ∨ k = 1 ∨ k = 2 ∨ k = 3) with rfl | rfl | rfl | rfl
  · exact h
  · exact h
  · exact h
  · exact h
